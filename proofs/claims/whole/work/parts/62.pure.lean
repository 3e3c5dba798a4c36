/-! the sale: by sets and by rows -/
theorem skF_g0 {pr : Nat → Nat → Nat} {g : Nat → Nat} {d S : Nat} : ∀ k, g S ≤ skF pr g d S k
  | 0 => Nat.le_refl _
  | k + 1 => by
    have := skF_g0 (pr := pr) (g := g) (d := d) (S := S) k
    rw [skF]
    split <;> omega
theorem skF_ge {pr : Nat → Nat → Nat} {g : Nat → Nat} {d S j : Nat} (hb : S.testBit j = true) : ∀ k, j < k → pr j d + g (S - 2 ^ j) ≤ skF pr g d S k
  | 0, h => by omega
  | k + 1, h => by
    rw [skF]
    by_cases e : j = k
    · subst e; rw [if_pos hb]; omega
    · have := skF_ge (pr := pr) (g := g) (d := d) hb k (by omega)
      split <;> omega
theorem skF_at {pr : Nat → Nat → Nat} {g : Nat → Nat} {d S : Nat} : ∀ k, skF pr g d S k = g S ∨ ∃ j, j < k ∧ S.testBit j = true ∧ skF pr g d S k = pr j d + g (S - 2 ^ j)
  | 0 => Or.inl rfl
  | k + 1 => by
    have ih := skF_at (pr := pr) (g := g) (d := d) (S := S) k
    rw [skF]
    by_cases hb : S.testBit k = true
    · rw [if_pos hb]
      rcases Nat.le_total (skF pr g d S k) (pr k d + g (S - 2 ^ k)) with q | q
      · rw [Nat.max_eq_right q]; exact Or.inr ⟨k, Nat.lt_succ_self k, hb, rfl⟩
      · rw [Nat.max_eq_left q]
        rcases ih with h | ⟨j, a, b, c⟩
        · exact Or.inl h
        · exact Or.inr ⟨j, by omega, b, c⟩
    · rw [if_neg hb]
      rcases ih with h | ⟨j, a, b, c⟩
      · exact Or.inl h
      · exact Or.inr ⟨j, by omega, b, c⟩
theorem tb_less {S j i : Nat} (hS : S < 32) (hj : j < 5) (hi : i < 5) (hb : S.testBit j = true) : (S - 2 ^ j).testBit i = (S.testBit i && decide (¬ i = j)) := by
  rcases Nat.lt_trichotomy i j with h | h | h
  · rw [tb_sub hb h, decide_eq_true (by omega), Bool.and_true]
  · subst h
    rw [decide_eq_false (fun q => q rfl), Bool.and_false]
    have h1 := Nat.ge_two_pow_of_testBit hb
    have := Nat.testBit_two_pow_add_eq (S - 2 ^ i) i
    rw [show 2 ^ i + (S - 2 ^ i) = S by omega, hb] at this
    cases q : (S - 2 ^ i).testBit i with
    | false => rfl
    | true => rw [q] at this; cases this
  · rw [sub_tb hS hj hi hb h, decide_eq_true (by omega), Bool.and_true]
def FsS (G T S D : Nat) (e : Nat → Nat) : Prop := (∀ g, g < G → ¬ e g = 0 → S.testBit g = true ∧ e g ≤ D ∧ T.testBit (e g - 1) = false) ∧ ∀ g h, g < h → h < G → ¬ e g = 0 → ¬ e g = e h
def gnS (pr : Nat → Nat → Nat) (w x : Nat) : Nat := if x = 0 then 0 else pr w (x - 1)
theorem sL_one {c g : Nat} : ∀ k w, w ≤ g → g < w + k → sL (fun j => if j = g then c else 0) k w = c
  | 0, w, h1, h2 => by omega
  | k + 1, w, h1, h2 => by
    rw [sL]
    by_cases e : w = g
    · subst e; rw [if_pos rfl, sL_zero k (w + 1) (fun j a b => if_neg (by omega)), Nat.add_zero]
    · rw [if_neg e, Nat.zero_add]; exact sL_one k (w + 1) (by omega) (by omega)
theorem val_put {pr : Nat → Nat → Nat} {G g x : Nat} {e e' : Nat → Nat} (hg : g < G) (h1 : e' g = 0) (h2 : e g = x + 1) (h3 : ∀ j, ¬ j = g → e j = e' j) : sL (fun j => gnS pr j (e j)) G 0 = pr g x + sL (fun j => gnS pr j (e' j)) G 0 := by
  have : sL (fun j => gnS pr j (e j)) G 0 = sL (fun j => (if j = g then pr g x else 0) + gnS pr j (e' j)) G 0 := sL_cong G 0 (fun j _ _ => by
    by_cases q : j = g
    · subst q; rw [if_pos rfl, h1, h2]; rfl
    · rw [if_neg q, h3 j q, Nat.zero_add])
  rw [this, sL_add, sL_one G 0 (Nat.zero_le _) (by omega)]
theorem sale_best {pr : Nat → Nat → Nat} {G T : Nat} (hG : G ≤ 5) : ∀ D S, S < 32 → (∀ e, FsS G T S D e → sL (fun j => gnS pr j (e j)) G 0 ≤ msk pr G T D S) ∧ ∃ e, FsS G T S D e ∧ sL (fun j => gnS pr j (e j)) G 0 = msk pr G T D S := by
  intro D
  induction D with
  | zero =>
    intro S _
    refine ⟨fun e he => ?_, fun _ => 0, ⟨fun g _ q => absurd rfl q, fun g h _ _ q => absurd rfl q⟩, sL_zero G 0 (fun j _ _ => rfl)⟩
    rw [msk]
    refine Nat.le_of_eq (sL_zero G 0 (fun j _ hj => ?_))
    have : e j = 0 := by
      rcases Nat.eq_zero_or_pos (e j) with q | q
      · exact q
      · have := (he.1 j (by omega) (by omega)).2.1; omega
    rw [this]; rfl
  | succ D ih =>
    intro S hS
    have hup : ∀ e, FsS G T S D e → FsS G T S (D + 1) e := fun e he => ⟨fun g hg q => ⟨(he.1 g hg q).1, by have := (he.1 g hg q).2.1; omega, (he.1 g hg q).2.2⟩, he.2⟩
    have hdn : ∀ e, FsS G T S (D + 1) e → (∀ g, g < G → ¬ e g = D + 1) → FsS G T S D e := fun e he hne => ⟨fun g hg q => ⟨(he.1 g hg q).1, by have := (he.1 g hg q).2.1; have := hne g hg; omega, (he.1 g hg q).2.2⟩, he.2⟩
    rw [msk]
    by_cases hT : T.testBit D = true
    · rw [if_pos hT]
      refine ⟨fun e he => (ih S hS).1 e (hdn e he (fun g hg q => ?_)), ?_⟩
      · have := (he.1 g hg (by omega)).2.2
        rw [q, Nat.add_sub_cancel, hT] at this
        cases this
      · obtain ⟨e, h1, h2⟩ := (ih S hS).2
        exact ⟨e, hup e h1, h2⟩
    · rw [if_neg hT]
      refine ⟨fun e he => ?_, ?_⟩
      · by_cases hne : ∀ g, g < G → ¬ e g = D + 1
        · exact Nat.le_trans ((ih S hS).1 e (hdn e he hne)) (skF_g0 G)
        · obtain ⟨g, hg, eg⟩ : ∃ g, g < G ∧ e g = D + 1 := Classical.byContradiction (fun q => hne (fun g hg z => q ⟨g, hg, z⟩))
          have hb := (he.1 g hg (by omega)).1
          have hge := skF_ge (pr := pr) (g := msk pr G T D) (d := D) hb G hg
          have hub := (ih (S - 2 ^ g) (Nat.lt_of_le_of_lt (Nat.sub_le _ _) hS)).1 (nU e g 0) ⟨fun h hh q => by
            by_cases z : h = g
            · subst z; rw [nU_s] at q; exact absurd rfl q
            · rw [nU_n z] at q ⊢
              have h1 := he.1 h hh q
              have h2 : ¬ e h = D + 1 := fun z2 => by
                rcases Nat.lt_or_gt_of_ne z with z3 | z3
                · exact he.2 h g z3 hg q (by omega)
                · exact he.2 g h z3 hh (by omega) (by omega)
              exact ⟨by rw [tb_less hS (by omega) (by omega) hb, h1.1, decide_eq_true z]; rfl, by omega, h1.2.2⟩, fun i h hih hh q => by
            by_cases z : i = g
            · subst z; rw [nU_s] at q; exact absurd rfl q
            · rw [nU_n z] at q ⊢
              by_cases z2 : h = g
              · subst z2; rw [nU_s]; exact q
              · rw [nU_n z2]; exact he.2 i h hih hh q⟩
          rw [val_put (e' := nU e g 0) hg nU_s eg (fun j q => (nU_n q).symm)]
          omega
      · rcases skF_at (pr := pr) (g := msk pr G T D) (d := D) (S := S) G with q | ⟨g, hg, hb, q⟩
        · obtain ⟨e, h1, h2⟩ := (ih S hS).2
          exact ⟨e, hup e h1, by rw [q]; exact h2⟩
        · obtain ⟨e, h1, h2⟩ := (ih (S - 2 ^ g) (Nat.lt_of_le_of_lt (Nat.sub_le _ _) hS)).2
          have hbit : ∀ h, h < G → ¬ e h = 0 → S.testBit h = true ∧ ¬ h = g := fun h hh z => by
            have := (h1.1 h hh z).1
            rw [tb_less hS (by omega) (by omega) hb, Bool.and_eq_true, decide_eq_true_iff] at this
            exact this
          have hz : e g = 0 := by
            rcases Nat.eq_zero_or_pos (e g) with z | z
            · exact z
            · exact absurd rfl (hbit g hg (by omega)).2
          refine ⟨nU e g (D + 1), ⟨fun h hh z => ?_, fun i h hih hh z => ?_⟩, ?_⟩
          · by_cases w : h = g
            · subst w
              rw [nU_s]
              exact ⟨hb, Nat.le_refl _, by rw [Nat.add_sub_cancel]; simpa using hT⟩
            · rw [nU_n w] at z ⊢
              have h3 := h1.1 h hh z
              exact ⟨(hbit h hh z).1, by omega, h3.2.2⟩
          · by_cases w : i = g
            · subst w
              rw [nU_s, nU_n (by omega)]
              rcases Nat.eq_zero_or_pos (e h) with y | y
              · omega
              · have := (h1.1 h hh (by omega)).2.1; omega
            · rw [nU_n w] at z ⊢
              by_cases w2 : h = g
              · subst w2
                rw [nU_s]
                have := (h1.1 i (by omega) z).2.1; omega
              · rw [nU_n w2]; exact h1.2 i h hih hh z
          · rw [val_put (e' := e) hg hz nU_s (fun j y => nU_n y), q, h2]
def okS (n U T w x : Nat) : Prop := x = 0 ∨ (x ≤ n ∧ U.testBit w = true ∧ T.testBit (x - 1) = false)
def nxS (T _w x : Nat) : Nat := if x = 0 then T else T ||| 2 ^ (x - 1)
theorem Fr_sale {n U : Nat} {d : Nat → Nat} : ∀ k w T, Fr (okS n U) nxS k T w d ↔ ((∀ j, w ≤ j → j < w + k → ¬ d j = 0 → d j ≤ n ∧ U.testBit j = true ∧ T.testBit (d j - 1) = false) ∧ ∀ i j, w ≤ i → i < j → j < w + k → ¬ d i = 0 → ¬ d i = d j) := by
  intro k
  induction k with
  | zero => intro w T; exact ⟨fun _ => ⟨fun j h1 h2 => by omega, fun i j h1 h2 h3 => by omega⟩, fun _ => trivial⟩
  | succ k ih =>
    intro w T
    rw [Fr, ih]
    by_cases e : d w = 0
    · have hn : nxS T w (d w) = T := if_pos e
      rw [hn]
      constructor
      · rintro ⟨-, h1, h2⟩
        refine ⟨fun j a b z => ?_, fun i j a b c z => ?_⟩
        · by_cases q : j = w
          · subst q; exact absurd e z
          · exact h1 j (by omega) (by omega) z
        · by_cases q : i = w
          · subst q; exact absurd e z
          · exact h2 i j (by omega) b (by omega) z
      · rintro ⟨h1, h2⟩
        exact ⟨Or.inl e, fun j a b => h1 j (by omega) (by omega), fun i j a b c => h2 i j (by omega) b (by omega)⟩
    · have hn : nxS T w (d w) = T ||| 2 ^ (d w - 1) := if_neg e
      rw [hn]
      constructor
      · rintro ⟨h0, h1, h2⟩
        obtain ⟨a1, a2, a3⟩ := h0.resolve_left e
        refine ⟨fun j a b z => ?_, fun i j a b c z => ?_⟩
        · by_cases q : j = w
          · subst q; exact ⟨a1, a2, a3⟩
          · obtain ⟨b1, b2, b3⟩ := h1 j (by omega) (by omega) z
            rw [fb_bit_set, Bool.or_eq_false_iff] at b3
            exact ⟨b1, b2, b3.1⟩
        · by_cases q : i = w
          · subst q
            intro y
            have b3 := (h1 j (by omega) (by omega) (by omega)).2.2
            rw [fb_bit_set, Bool.or_eq_false_iff, decide_eq_false_iff_not] at b3
            exact b3.2 (by omega)
          · exact h2 i j (by omega) b (by omega) z
      · rintro ⟨h1, h2⟩
        refine ⟨Or.inr (h1 w (Nat.le_refl _) (by omega) e), fun j a b z => ?_, fun i j a b c => h2 i j (by omega) b (by omega)⟩
        obtain ⟨b1, b2, b3⟩ := h1 j (by omega) (by omega) z
        have := h2 w j (Nat.le_refl _) (by omega) (by omega) e
        exact ⟨b1, b2, by rw [fb_bit_set, b3, decide_eq_false (by omega)]; rfl⟩
theorem sale_O {pr : Nat → Nat → Nat} {G T D U R w : Nat} (hG : G ≤ 5) (hR : R < 32) (hw : w ≤ G) (hb : ∀ j, j < 5 → R.testBit j = (U.testBit j && decide (w ≤ j))) : isO (okS D U) nxS (gnS pr) (G - w) T w (msk pr G T D R) := by
  obtain ⟨h1, h2⟩ := sale_best (pr := pr) (T := T) hG D R hR
  have hs : ∀ e : Nat → Nat, (∀ j, j < w → e j = 0) → sL (fun j => gnS pr j (e j)) G 0 = Vr (gnS pr) (G - w) w e := fun e he => by
    have : sL (fun j => gnS pr j (e j)) G 0 = sL (fun j => gnS pr j (e j)) (w + (G - w)) 0 := by rw [show w + (G - w) = G by omega]
    rw [this, sL_app, sL_zero w 0 (fun j _ hj => by rw [he j (by omega)]; rfl), Nat.zero_add, Nat.zero_add]; rfl
  refine ⟨fun d hd => ?_, ?_⟩
  · rw [Fr_sale] at hd
    have := h1 (fun j => if j < w then 0 else d j) ⟨fun g hg z => by
      dsimp only at z ⊢
      by_cases q : g < w
      · rw [if_pos q] at z; exact absurd rfl z
      · rw [if_neg q] at z ⊢
        obtain ⟨a, b, c⟩ := hd.1 g (by omega) (by omega) z
        exact ⟨by rw [hb g (by omega), b, decide_eq_true (by omega)]; rfl, a, c⟩, fun i j hij hj z => by
      dsimp only at z ⊢
      by_cases q : i < w
      · rw [if_pos q] at z; exact absurd rfl z
      · rw [if_neg q] at z ⊢
        rw [if_neg (by omega)]
        exact hd.2 i j (by omega) hij (by omega) z⟩
    rw [hs _ (fun j hj => if_pos hj), Vr_cong (e := d) (fun j a b => if_neg (by omega))] at this
    exact this
  · obtain ⟨e, he, hv⟩ := h2
    have hz : ∀ j, j < w → e j = 0 := fun j hj => by
      rcases Nat.eq_zero_or_pos (e j) with q | q
      · exact q
      · have := (he.1 j (by omega) (by omega)).1
        rw [hb j (by omega), decide_eq_false (by omega), Bool.and_false] at this
        cases this
    refine ⟨e, (Fr_sale _ _ _).mpr ⟨fun j a b z => ?_, fun i j a b c z => he.2 i j b (by omega) z⟩, by rw [← hs e hz]; exact hv⟩
    obtain ⟨x1, x2, x3⟩ := he.1 j (by omega) z
    rw [hb j (by omega), Bool.and_eq_true] at x1
    exact ⟨x2, x1.1, x3⟩
theorem VrS_le {pr : Nat → Nat → Nat} {G D k w : Nat} {d : Nat → Nat} (hpr : ∀ j, j < G → ∀ e, e < D → pr j e ≤ 20000) (h : w + k ≤ G) (hd : ∀ j, w ≤ j → j < w + k → d j ≤ D) : Vr (gnS pr) k w d ≤ k * 20000 := sL_bound k w (fun j h1 h2 => by
  unfold gnS
  have := hd j h1 h2
  by_cases q : d j = 0
  · rw [if_pos q]; exact Nat.zero_le _
  · rw [if_neg q]; exact hpr j (by omega) _ (by omega))
theorem fday_eq {pr : Nat → Nat → Nat} {G D U R T k g : Nat} {d : Nat → Nat} (hG : G ≤ 5) (hR : R < 32) (hpr : ∀ j, j < G → ∀ e, e < D → pr j e ≤ 20000) (hg : g + (k + 1) = G) (hUg : U.testBit g = true) (hb : ∀ j, j < 5 → R.testBit j = (U.testBit j && decide (g + 1 ≤ j))) (hl : LX (okS D U) nxS (gnS pr) (k + 1) T g d) :
    fday pr G D g R T (nI (Vr (gnS pr) (k + 1) g d)) = opt (d g) := by
  have hdD : ∀ j, g ≤ j → j < g + (k + 1) → d j ≤ D := fun j a b => by
    rcases Nat.eq_zero_or_pos (d j) with q | q
    · omega
    · exact (((Fr_sale _ _ _).mp hl.1).1 j a b (by omega)).1
  have hVb := VrS_le (k := k + 1) (w := g) hpr (by omega) hdD
  have hVb2 : (k + 1) * 20000 ≤ 5 * 20000 := Nat.mul_le_mul_right _ (by omega)
  have hO : ∀ T, isO (okS D U) nxS (gnS pr) k T (g + 1) (msk pr G T D R) := fun T => by
    have := sale_O (pr := pr) (T := T) (D := D) hG hR (show g + 1 ≤ G by omega) hb
    rw [show G - (g + 1) = k by omega] at this
    exact this
  unfold fday
  rcases Nat.eq_zero_or_pos (d g) with e | e
  · have := lex_opt hl (v := msk pr G T D R) (by rw [e]; exact hO T)
    rw [e] at this
    rw [this, e, opt_0, if_neg]
    show ¬ nI (msk pr G T D R) < nI (0 + msk pr G T D R)
    rw [Nat.zero_add, fa_lt]; omega
  · obtain ⟨a, ea⟩ : ∃ a, d g = a + 1 := ⟨d g - 1, by omega⟩
    have hno := lex_no hl (x := 0) (by omega) (Or.inl rfl) (v := msk pr G T D R) (hO T)
    rw [show gnS pr g 0 = 0 from rfl, Nat.zero_add] at hno
    rw [if_pos (nI_lt hno (by omega)), ea, opt_s]
    have hokd : okS D U T g (a + 1) := by
      have := hl.1
      rw [Fr, ea] at this
      exact this.1
    obtain ⟨o1, o2, o3⟩ := hokd.resolve_left (by omega)
    rw [Nat.add_sub_cancel] at o3
    have hfk : ∀ k' i, i + k' = D → i ≤ a → fdk pr G D g R T (nI (Vr (gnS pr) (k + 1) g d)) k' i = some a := by
      intro k'
      induction k' with
      | zero => intro i h1 h2; omega
      | succ k' ih =>
        intro i h1 h2
        rw [fdk]
        by_cases q : i = a
        · subst q
          have hv := lex_opt hl (v := msk pr G (T ||| 2 ^ i) D R) (by rw [ea]; exact hO _)
          rw [ea, show gnS pr g (i + 1) = pr g i from rfl] at hv
          rw [if_pos ⟨o3, by rw [nI_add, hv, fa_lt]; omega⟩]
        · rw [if_neg]
          · exact ih (i + 1) (by omega) (by omega)
          · rintro ⟨f1, f2⟩
            have := lex_no hl (x := i + 1) (by omega) (Or.inr ⟨by omega, hUg, f1⟩) (hO _)
            rw [show gnS pr g (i + 1) = pr g i from rfl] at this
            apply f2
            rw [nI_add]
            exact nI_lt this (by omega)
    exact hfk D 0 (by omega) (by omega)
theorem dok_eq {pr : Nat → Nat → Nat} {G D U : Nat} {d : Nat → Nat} (hG : G ≤ 5) (hpr : ∀ j, j < G → ∀ e, e < D → pr j e ≤ 20000) : ∀ k g R T fo, R < 32 → (∀ j, j < 5 → R.testBit j = (U.testBit j && decide (g ≤ j))) → g + k ≤ G → LX (okS D U) nxS (gnS pr) (G - g) T g d → dok pr G D U k g (nI (Vr (gnS pr) (G - g) g d)) R T fo = if k = 0 then fo else opt (d (g + k - 1)) := by
  intro k
  induction k with
  | zero => intro g R T fo _ _ _ _; rw [dok, if_pos rfl]
  | succ k ih =>
    intro g R T fo hR hb hg hl
    obtain ⟨m, em⟩ : ∃ m, G - g = m + 1 := ⟨G - g - 1, by omega⟩
    rw [em] at hl ⊢
    have hst := lex_step hl
    have hVV : Vr (gnS pr) (m + 1) g d = gnS pr g (d g) + Vr (gnS pr) m (g + 1) d := rfl
    have hlast : ∀ fo, fo = opt (d g) → (if k = 0 then fo else opt (d (g + 1 + k - 1))) = opt (d (g + (k + 1) - 1)) := fun fo e => by
      by_cases q : k = 0
      · subst q; rw [if_pos rfl, e]; rfl
      · rw [if_neg q, show g + 1 + k - 1 = g + (k + 1) - 1 by omega]
    rw [dok, if_neg (Nat.succ_ne_zero k)]
    by_cases hUg : U.testBit g = true
    · have hRg : R.testBit g = true := by rw [hb g (by omega), hUg, decide_eq_true (Nat.le_refl _)]; rfl
      have hb' : ∀ j, j < 5 → (R - 2 ^ g).testBit j = (U.testBit j && decide (g + 1 ≤ j)) := fun j hj => by
        rw [tb_less hR (by omega) hj hRg, hb j hj, Bool.and_assoc]
        congr 1
        rw [← Bool.decide_and]
        exact decide_eq_decide.mpr (by omega)
      rw [if_pos hUg, fday_eq hG (Nat.lt_of_le_of_lt (Nat.sub_le _ _) hR) hpr (by omega) hUg hb' hl]
      rcases Nat.eq_zero_or_pos (d g) with e | e
      · rw [e, opt_0]
        rw [e] at hst
        rw [e, show gnS pr g 0 = 0 from rfl, Nat.zero_add] at hVV
        have := ih (g + 1) (R - 2 ^ g) T none (Nat.lt_of_le_of_lt (Nat.sub_le _ _) hR) hb' (by omega) (by rw [show G - (g + 1) = m by omega]; exact hst)
        rw [show G - (g + 1) = m by omega, ← hVV] at this
        show dok pr G D U k (g + 1) _ (R - 2 ^ g) T none = _
        rw [this]
        exact hlast none (by rw [e]; rfl)
      · obtain ⟨a, ea⟩ : ∃ a, d g = a + 1 := ⟨d g - 1, by omega⟩
        rw [ea, opt_s]
        rw [ea] at hst
        rw [ea, show gnS pr g (a + 1) = pr g a from rfl] at hVV
        have := ih (g + 1) (R - 2 ^ g) (T ||| 2 ^ a) (some a) (Nat.lt_of_le_of_lt (Nat.sub_le _ _) hR) hb' (by omega) (by rw [show G - (g + 1) = m by omega]; exact hst)
        rw [show G - (g + 1) = m by omega] at this
        show dok pr G D U k (g + 1) (nI (Vr (gnS pr) (m + 1) g d) - nI (pr g a)) (R - 2 ^ g) (T ||| 2 ^ a) (some a) = _
        rw [pk_sub (by omega), hVV, Nat.add_sub_cancel_left, this]
        exact hlast (some a) (by rw [ea]; rfl)
    · have e : d g = 0 := by
        have := hl.1
        rw [Fr] at this
        rcases this.1 with q | q
        · exact q
        · exact absurd q.2.1 hUg
      have hUf : U.testBit g = false := by simpa using hUg
      rw [if_neg hUg]
      rw [e] at hst
      rw [e, show gnS pr g 0 = 0 from rfl, Nat.zero_add] at hVV
      have := ih (g + 1) R T none hR (fun j hj => by
        rw [hb j hj]
        by_cases q : j = g
        · subst q; rw [hUf]; rfl
        · congr 1; exact decide_eq_decide.mpr (by omega)) (by omega) (by rw [show G - (g + 1) = m by omega]; exact hst)
      rw [show G - (g + 1) = m by omega, ← hVV] at this
      rw [this]
      exact hlast none (by rw [e]; rfl)
/-! the sale: the model's rows -/
def FsM (un : Nat → Bool) (k Dn : Nat) (d : Nat → Nat) : Prop := (∀ j, j < k → ¬ d j = 0 → un j = true ∧ Dn.testBit (d j - 1) = false) ∧ ∀ i j, i < j → j < k → ¬ d i = 0 → ¬ d i = d j
theorem FsM_cong {un : Nat → Bool} {k Dn : Nat} {d e : Nat → Nat} (h : ∀ j, j < k → d j = e j) : FsM un k Dn d ↔ FsM un k Dn e := by
  unfold FsM
  refine and_congr ⟨fun q j hj => by rw [← h j hj]; exact q j hj, fun q j hj => by rw [h j hj]; exact q j hj⟩ ⟨fun q i j hij hj => by rw [← h i (by omega), ← h j hj]; exact q i j hij hj, fun q i j hij hj => by rw [h i (by omega), h j hj]; exact q i j hij hj⟩
theorem FsM_0 {un : Nat → Bool} {k Dn : Nat} {d : Nat → Nat} (h : d k = 0) : FsM un (k + 1) Dn d ↔ FsM un k Dn d := by
  unfold FsM
  refine and_congr ⟨fun q j hj => q j (by omega), fun q j hj z => ?_⟩ ⟨fun q i j hij hj => q i j hij (by omega), fun q i j hij hj z => ?_⟩
  · by_cases e : j = k
    · subst e; exact absurd h z
    · exact q j (by omega) z
  · by_cases e : j = k
    · subst e; rw [h]; exact z
    · exact q i j hij (by omega) z
theorem FsM_s {un : Nat → Bool} {k Dn a : Nat} {d : Nat → Nat} (h : d k = a + 1) : FsM un (k + 1) Dn d ↔ ((un k = true ∧ Dn.testBit a = false) ∧ FsM un k (Dn ||| 2 ^ a) d) := by
  unfold FsM
  constructor
  · rintro ⟨q1, q2⟩
    have h1 := q1 k (Nat.lt_succ_self k) (by omega)
    rw [h, Nat.add_sub_cancel] at h1
    refine ⟨h1, fun j hj z => ?_, fun i j hij hj => q2 i j hij (by omega)⟩
    have h2 := q1 j (by omega) z
    have h3 := q2 j k hj (Nat.lt_succ_self k) z
    exact ⟨h2.1, by rw [fb_bit_set, h2.2, decide_eq_false (by omega)]; rfl⟩
  · rintro ⟨h1, q1, q2⟩
    refine ⟨fun j hj z => ?_, fun i j hij hj z => ?_⟩
    · by_cases e : j = k
      · subst e; rw [h, Nat.add_sub_cancel]; exact h1
      · have := q1 j (by omega) z
        rw [fb_bit_set, Bool.or_eq_false_iff] at this
        exact ⟨this.1, this.2.1⟩
    · by_cases e : j = k
      · subst e
        have := (q1 i hij z).2
        rw [fb_bit_set, Bool.or_eq_false_iff, decide_eq_false_iff_not] at this
        intro y
        exact this.2 (by omega)
      · exact q2 i j hij (by omega) z
theorem sd_eq {τ δ : Nat → Nat → Int32} {G n : Nat} (hn : n ≤ 9) (hpr : ∀ j, j < G → ∀ e, e < n → vp_in (tPrice τ (nI j) (δ 0 0 + nI e)) 20001) : ∀ k c Dn s, k ≤ G →
    (FsM (fun j => decide (¬ bo (δ 6 0) (nI j) = 1)) k Dn (dgt (n + 1) c k) ∧ sdR τ δ n k c (nI Dn) (nI s) = nI (s + sL (fun j => gnS (prN τ δ) j (dgt (n + 1) c k j)) k 0)) ∨ (¬ FsM (fun j => decide (¬ bo (δ 6 0) (nI j) = 1)) k Dn (dgt (n + 1) c k) ∧ sdR τ δ n k c (nI Dn) (nI s) = -1) := by
  intro k
  induction k with
  | zero =>
    intro c Dn s _
    exact Or.inl ⟨⟨fun j hj => by omega, fun i j hij hj => by omega⟩, by rw [sdR, sL, Nat.add_zero]⟩
  | succ k ih =>
    intro c Dn s hkG
    have hlow : ∀ j, j < k → dgt (n + 1) c (k + 1) j = dgt (n + 1) (c / (n + 1)) k j := fun j hj => dgt_s hj
    have hlast : dgt (n + 1) c (k + 1) k = c % (n + 1) := dgt_last _ _ _
    have hsum : sL (fun j => gnS (prN τ δ) j (dgt (n + 1) c (k + 1) j)) (k + 1) 0 = sL (fun j => gnS (prN τ δ) j (dgt (n + 1) (c / (n + 1)) k j)) k 0 + gnS (prN τ δ) k (c % (n + 1)) := by
      rw [sL_snoc, Nat.zero_add, hlast]
      congr 1
      exact sL_cong k 0 (fun j _ hj => by rw [hlow j (by omega)])
    have hlt : c % (n + 1) < n + 1 := Nat.mod_lt _ (Nat.succ_pos n)
    rw [sdR, hsum]
    by_cases e : c % (n + 1) = 0
    · rw [if_pos e, FsM_0 (by rw [hlast]; exact e), FsM_cong hlow, e, show gnS (prN τ δ) k 0 = 0 from rfl, Nat.add_zero]
      exact ih (c / (n + 1)) Dn s (by omega)
    · obtain ⟨a, ea⟩ : ∃ a, c % (n + 1) = a + 1 := ⟨c % (n + 1) - 1, by omega⟩
      have hp := vp_eq (hpr k (by omega) a (by omega)) (by decide)
      rw [if_neg e, FsM_s (by rw [hlast]; exact ea), FsM_cong hlow, ea, Nat.add_sub_cancel, show gnS (prN τ δ) k (a + 1) = prN τ δ k a from rfl]
      have hC : (bo (δ 6 0) (nI k) = 1 ∨ bo (nI Dn) (nI a) = 1) ↔ ¬ (decide (¬ bo (δ 6 0) (nI k) = 1) = true ∧ Dn.testBit a = false) := by
        rw [decide_eq_true_iff, bo_1 (by omega)]
        cases Dn.testBit a <;> simp
      by_cases hc : bo (δ 6 0) (nI k) = 1 ∨ bo (nI Dn) (nI a) = 1
      · rw [if_pos hc]
        exact Or.inr ⟨fun q => hC.mp hc q.1, rfl⟩
      · have hc2 : decide (¬ bo (δ 6 0) (nI k) = 1) = true ∧ Dn.testBit a = false := Classical.byContradiction (fun q => hc (hC.mpr q))
        rw [if_neg hc, xshl1 a (by omega), fa_or, show tPrice τ (nI k) (δ 0 0 + nI a) = nI (prN τ δ k a) from hp.1, nI_add]
        rcases ih (c / (n + 1)) (Dn ||| 2 ^ a) (s + prN τ δ k a) (by omega) with ⟨h1, h2⟩ | ⟨h1, h2⟩
        · refine Or.inl ⟨⟨hc2, h1⟩, ?_⟩
          rw [h2]; congr 1; omega
        · exact Or.inr ⟨fun q => h1 q.2, h2⟩
theorem unS_tb {s : Int32} {G j : Nat} (hj : j < G) : (unS s G).testBit j = decide (¬ bo s (nI j) = 1) := fbits_tb _ 0 G j hj
theorem sale_lex {τ δ : Nat → Nat → Int32} {G n : Nat} (hG : G ≤ 5) (hn : n ≤ 9) (hpr : ∀ j, j < G → ∀ e, e < n → vp_in (tPrice τ (nI j) (δ 0 0 + nI e)) 20001) :
    LX (okS n (unS (δ 6 0) G)) nxS (gnS (prN τ δ)) G 0 0 (dgt (n + 1) (pbF (fun z => sdR τ δ n G z 0 0) ((n + 1) ^ G)).2 G) ∧ (pbF (fun z => sdR τ δ n G z 0 0) ((n + 1) ^ G)).1 = nI (0 + Vr (gnS (prN τ δ)) G 0 (dgt (n + 1) (pbF (fun z => sdR τ δ n G z 0 0) ((n + 1) ^ G)).2 G)) := by
  have hpr2 : ∀ j, j < G → ∀ e, e < n → prN τ δ j e ≤ 20000 := fun j hj e he => by have := (vp_eq (hpr j hj e he) (by decide)).2; unfold prN; omega
  refine lex_init (Nat.succ_pos n) (fun d hd j hj => ?_) ?_ (fun d hd => ?_) (fun c hc => ?_)
  · rcases Nat.eq_zero_or_pos (d j) with q | q
    · omega
    · have := (((Fr_sale G 0 0).mp hd).1 j (Nat.zero_le _) (by omega) (by omega)).1; omega
  · exact (Fr_sale G 0 0).mpr ⟨fun j _ _ q => absurd rfl q, fun i j _ _ _ q => absurd rfl q⟩
  · have := VrS_le (k := G) (w := 0) (d := d) hpr2 (by omega) (fun j _ hj => by
      rcases Nat.eq_zero_or_pos (d j) with q | q
      · omega
      · exact (((Fr_sale G 0 0).mp hd).1 j (Nat.zero_le _) hj (by omega)).1)
    have h2 : G * 20000 ≤ 5 * 20000 := Nat.mul_le_mul_right _ hG
    omega
  · have hF : FsM (fun j => decide (¬ bo (δ 6 0) (nI j) = 1)) G 0 (dgt (n + 1) c G) ↔ Fr (okS n (unS (δ 6 0) G)) nxS G 0 0 (dgt (n + 1) c G) := by
      rw [Fr_sale]
      refine and_congr ⟨fun q j _ hj z => ⟨Nat.le_of_lt_succ (Nat.mod_lt _ (Nat.succ_pos n)), by rw [unS_tb (by omega)]; exact (q j (by omega) z).1, (q j (by omega) z).2⟩, fun q j hj z => ?_⟩ ⟨fun q i j _ hij hj => q i j hij (by omega), fun q i j hij hj => q i j (Nat.zero_le _) hij (by omega)⟩
      obtain ⟨-, b, c⟩ := q j (Nat.zero_le _) (by omega) z
      rw [unS_tb hj] at b
      exact ⟨b, c⟩
    have := sd_eq (τ := τ) (δ := δ) hn hpr G c 0 0 (Nat.le_refl _)
    rw [hF] at this
    exact this
theorem kSale_eq {τ δ : Nat → Nat → Int32} {G : Nat} (hG : G ≤ 5) (hpr : ∀ j, j < G → ∀ e, e < 9 → vp_in (tPrice τ (nI j) (δ 0 0 + nI e)) 20001) (a b : Int32) : kSale τ δ G a b = mSale τ δ G a b := by
  unfold kSale mSale
  by_cases hb : b = -1 ∨ inB b G = true
  · rw [if_pos hb, if_pos hb]
    by_cases ha : in19 a = true
    · rw [if_pos ha, if_pos ha]
      obtain ⟨D, hD1, hD, rfl⟩ := in19_nI ha
      rw [nI_clamp (by omega)]
      have hpr2 : ∀ j, j < G → ∀ e, e < D → prN τ δ j e ≤ 20000 := fun j hj e he => by have := (vp_eq (hpr j hj e (by omega)) (by decide)).2; unfold prN; omega
      obtain ⟨h1, h2⟩ := sale_lex (τ := τ) (δ := δ) hG hD (fun j hj e he => hpr j hj e (by omega))
      have hb0 : ∀ j, j < 5 → (unS (δ 6 0) G).testBit j = ((unS (δ 6 0) G).testBit j && decide (0 ≤ j)) := fun j _ => by rw [decide_eq_true (Nat.zero_le j), Bool.and_true]
      have hO := sale_O (pr := prN τ δ) (T := 0) (D := D) hG (unS_lt (δ 6 0) hG) (Nat.zero_le G) hb0
      have hV : msk (prN τ δ) G 0 D (unS (δ 6 0) G) = Vr (gnS (prN τ δ)) G 0 (dgt (D + 1) (pbF (fun z => sdR τ δ D G z 0 0) ((D + 1) ^ G)).2 G) := isO_one hO h1.2.1
      by_cases e : b = -1
      · rw [if_pos e, if_pos e, h2, hV, Nat.zero_add]
      · rw [if_neg e, if_neg e]
        obtain ⟨B, hB, rfl⟩ := vp_in_of (inB_t.mp (hb.resolve_left e)) (by omega)
        rw [nI_clamp (by omega)]
        unfold dayX
        have := dok_eq hG hpr2 (B + 1) 0 (unS (δ 6 0) G) 0 none (unS_lt (δ 6 0) hG) hb0 (by omega) h1
        rw [show G - 0 = G from rfl, ← hV, if_neg (Nat.succ_ne_zero B), show 0 + (B + 1) - 1 = B by omega] at this
        rw [this]
        show oI (opt (dgt (D + 1) _ G B)) = nI (dgt (D + 1) (pbF (fun z => sdR τ δ D G z 0 0) ((D + 1) ^ G)).2 G B) - 1
        generalize dgt (D + 1) (pbF (fun z => sdR τ δ D G z 0 0) ((D + 1) ^ G)).2 G B = x
        cases x with
        | zero => rfl
        | succ a => rw [opt_s, nI_pred]; rfl
    · rw [if_neg ha, if_neg ha]
  · rw [if_neg hb, if_neg hb]
