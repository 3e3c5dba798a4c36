/-! the plan: class and model, both by rows -/
def okP (P : Nat) (mn : Nat → Nat) (ok : Nat → Nat → Bool) (L : Nat → Nat) (w x : Nat) : Prop := x = 0 ∨ (x ≤ P ∧ ok (x - 1) w = true ∧ mn w ≤ L (x - 1))
def nxP (mn : Nat → Nat) (L : Nat → Nat) (w x : Nat) : Nat → Nat := if x = 0 then L else nU L (x - 1) (L (x - 1) - mn w)
def gnP (gn : Nat → Nat) (w x : Nat) : Nat := if x = 0 then 0 else gn w
theorem Fr_sum {P : Nat} {mn : Nat → Nat} {ok : Nat → Nat → Bool} {d : Nat → Nat} : ∀ k w L, Fr (okP P mn ok) (nxP mn) k L w d ↔ ((∀ j, w ≤ j → j < w + k → d j ≤ P ∧ (¬ d j = 0 → ok (d j - 1) j = true)) ∧ ∀ p, p < P → sL (fun j => if d j = p + 1 then mn j else 0) k w ≤ L p) := by
  intro k
  induction k with
  | zero => intro w L; exact ⟨fun _ => ⟨fun j h1 h2 => by omega, fun p _ => Nat.zero_le _⟩, fun _ => trivial⟩
  | succ k ih =>
    intro w L
    rw [Fr, ih]
    by_cases e : d w = 0
    · have hs : ∀ p, sL (fun j => if d j = p + 1 then mn j else 0) (k + 1) w = sL (fun j => if d j = p + 1 then mn j else 0) k (w + 1) := fun p => by
        rw [sL, if_neg (by omega), Nat.zero_add]
      have hn : nxP mn L w (d w) = L := if_pos e
      rw [hn]
      constructor
      · rintro ⟨-, h1, h2⟩
        refine ⟨fun j a b => ?_, fun p hp => by rw [hs]; exact h2 p hp⟩
        by_cases q : j = w
        · subst q; exact ⟨by omega, fun z => absurd e z⟩
        · exact h1 j (by omega) (by omega)
      · rintro ⟨h1, h2⟩
        exact ⟨Or.inl e, fun j a b => h1 j (by omega) (by omega), fun p hp => by rw [← hs]; exact h2 p hp⟩
    · have hs : ∀ p, sL (fun j => if d j = p + 1 then mn j else 0) (k + 1) w = (if d w = p + 1 then mn w else 0) + sL (fun j => if d j = p + 1 then mn j else 0) k (w + 1) := fun p => rfl
      have hn : nxP mn L w (d w) = nU L (d w - 1) (L (d w - 1) - mn w) := if_neg e
      rw [hn]
      constructor
      · rintro ⟨h0, h1, h2⟩
        obtain ⟨a1, a2, a3⟩ := h0.resolve_left e
        refine ⟨fun j a b => ?_, fun p hp => ?_⟩
        · by_cases q : j = w
          · subst q; exact ⟨a1, fun _ => a2⟩
          · exact h1 j (by omega) (by omega)
        · have := h2 p hp
          rw [hs]
          by_cases q : p = d w - 1
          · subst q
            rw [nU_s] at this
            rw [if_pos (by omega)]
            omega
          · rw [nU_n q] at this
            rw [if_neg (by omega)]
            omega
      · rintro ⟨h1, h2⟩
        have hw := h1 w (Nat.le_refl _) (by omega)
        have hx := h2 (d w - 1) (by omega)
        rw [hs, if_pos (by omega)] at hx
        refine ⟨Or.inr ⟨hw.1, hw.2 e, by omega⟩, fun j a b => h1 j (by omega) (by omega), fun p hp => ?_⟩
        have := h2 p hp
        rw [hs] at this
        by_cases q : p = d w - 1
        · subst q
          rw [nU_s]; omega
        · rw [nU_n q]
          rw [if_neg (by omega)] at this
          omega
def mnN (τ : Nat → Nat → Int32) (k : Nat) : Nat := (τ 5 k).toNatClampNeg
def wtN (τ : Nat → Nat → Int32) (k : Nat) : Nat := (τ 7 k).toNatClampNeg
theorem rgN {x : Int32} {a b : Nat} (h1 : (a : Int) ≤ x.toInt) (h2 : x.toInt ≤ (b : Int)) (hb : b < 2 ^ 30) : x = nI x.toNatClampNeg ∧ a ≤ x.toNatClampNeg ∧ x.toNatClampNeg ≤ b := by
  have hv : vp_in x (b + 1) := by rw [vp_in_iff]; omega
  obtain ⟨j, hj, e⟩ := vp_in_of hv (by omega)
  rw [e, nI_toInt (by omega)] at h1
  rw [e, nI_clamp (by omega)]
  exact ⟨rfl, by omega, by omega⟩
theorem mn_ok {τ : Nat → Nat → Int32} {P W G k : Nat} (hk : TOK τ P W G) (h : k < W) : τ 5 k = nI (mnN τ k) ∧ 1 ≤ mnN τ k ∧ mnN τ k ≤ 60 := rgN (a := 1) (b := 60) (hk.2.2.1 k h).2.1.1 (hk.2.2.1 k h).2.1.2 (by decide)
theorem wt_ok {τ : Nat → Nat → Int32} {P W G k : Nat} (hk : TOK τ P W G) (h : k < W) : τ 7 k = nI (wtN τ k) ∧ wtN τ k ≤ 50 := by
  have := vp_eq (hk.2.2.1 k h).2.2.2 (by decide)
  exact ⟨this.1, by have := this.2; unfold wtN; omega⟩
theorem gn_wt {τ δ : Nat → Nat → Int32} {k : Nat} : gnN τ δ k = if 0 < δ 9 k then 0 else wtN τ k := by
  unfold gnN gnX wtN
  split <;> rfl
theorem fSN_z {g : Nat → Nat} : ∀ k, fSN g k 0 = 0
  | 0 => rfl
  | k + 1 => by rw [fSN, if_neg (by rw [Nat.zero_testBit]; decide), fSN_z k]
theorem fSN_one {g : Nat → Nat} {w : Nat} : ∀ k, w < k → fSN g k (2 ^ w) = g w
  | 0, h => by omega
  | k + 1, h => by
    rw [fSN, Nat.testBit_two_pow]
    by_cases e : w = k
    · subst e; rw [decide_eq_true rfl, if_pos rfl, Nat.sub_self, fSN_z, Nat.zero_add]
    · rw [decide_eq_false e, if_neg (by decide)]; exact fSN_one k (by omega)
theorem fO_bt {τ : Nat → Nat → Int32} {P W G : Nat} (hk : TOK τ P W G) : ∀ k S, k ≤ W → ∀ i, i < 32 → (bt (fS (opO τ) k S) i = true ↔ ∃ j, j < k ∧ S.testBit j = true ∧ (τ 4 j).toNatClampNeg = i) := by
  intro k
  induction k with
  | zero => intro S _ i _; rw [fS, b_0]; exact ⟨fun h => (by cases h), fun ⟨j, h, _⟩ => (by omega)⟩
  | succ k ih =>
    intro S hkW i hi
    rw [fS]
    by_cases h : S.testBit k = true
    · rw [if_pos h]
      have hs := vp_eq (hk.2.2.1 k (by omega)).1 (by decide)
      have e1 : bt ((1 : Int32) <<< (τ 4 k &&& 31)) i = true ↔ (τ 4 k).toNatClampNeg = i := by
        rw [hs.1, nI_clamp (by omega), b_shl _ (by omega) 1 hi, bt_1, Bool.and_eq_true, decide_eq_true_iff, decide_eq_true_iff]
        omega
      show bt (fS (opO τ) k (S - 2 ^ k) ||| (1 <<< (τ 4 k &&& 31))) i = true ↔ _
      rw [b_or, Bool.or_eq_true, ih _ (by omega) i hi, e1]
      constructor
      · rintro (⟨j, a, b, c⟩ | q)
        · exact ⟨j, by omega, by rw [← tb_sub h a]; exact b, c⟩
        · exact ⟨k, Nat.lt_succ_self k, h, q⟩
      · rintro ⟨j, a, b, c⟩
        by_cases e : j = k
        · subst e; exact Or.inr c
        · exact Or.inl ⟨j, by omega, by rw [tb_sub h (by omega)]; exact b, c⟩
    · rw [if_neg h, ih _ (by omega) i hi]
      constructor
      · rintro ⟨j, a, b, c⟩; exact ⟨j, by omega, b, c⟩
      · rintro ⟨j, a, b, c⟩
        by_cases e : j = k
        · subst e; exact absurd b h
        · exact ⟨j, by omega, b, c⟩
theorem and_not0 {x y : Int32} : x &&& (y ^^^ -1) = 0 ↔ ∀ i, i < 32 → bt x i = true → bt y i = true := by
  constructor
  · intro h i hi hx
    have := congrArg (fun z => bt z i) h
    simp only [b_and, b_xor, b_m1 i hi, b_0, hx, Bool.true_and, Bool.xor_true] at this
    simpa using this
  · intro h
    apply b_ext
    intro i hi
    rw [b_and, b_xor, b_m1 i hi, b_0]
    cases hx : bt x i with
    | false => rfl
    | true => rw [h i hi hx]; rfl
/-- the class's table for a day with so many minutes left -/
def PT (t τ δ : Nat → Nat → Int32) (P W : Nat) (L : Nat → Nat) : Prop := (∀ a, a < P → t 3 a = nI (L a) ∧ L a ≤ 99 ∧ t 4 a = tSkill τ (nI a)) ∧ (∀ k, k < W → t 5 k = nI (gnN τ δ k)) ∧ ∀ S, S < 2 ^ W → t 6 S = nI (fSN (mnN τ) W S) ∧ t 7 S = fS (opO τ) W S
theorem PT_ft {t τ δ : Nat → Nat → Int32} {P W G : Nat} {L : Nat → Nat} (hP : P ≤ 5) (hW : W ≤ 6) (hk : TOK τ P W G) (h : PT t τ δ P W L) : ∀ a, a < P → ∀ U, U < 2 ^ W → (ftB t a U = true ↔ (fSN (mnN τ) W U ≤ L a ∧ ∀ j, j < W → U.testBit j = true → hsk τ a j = true)) := by
  intro a ha U hU
  obtain ⟨h3, hl, h4⟩ := h.1 a ha
  obtain ⟨h6, h7⟩ := h.2.2 U hU
  have hb : fSN (mnN τ) W U ≤ W * 60 := fSN_le W (fun j hj => (mn_ok hk hj).2.2) U
  have hb2 : W * 60 ≤ 6 * 60 := Nat.mul_le_mul_right 60 hW
  unfold ftB
  rw [Bool.and_eq_true, decide_eq_true_iff, decide_eq_true_iff, h3, h6, h7, h4, nI_ltI (by omega) (by omega), and_not0]
  refine and_congr (by omega) ⟨fun q j hj hb => ?_, fun q i hi hx => ?_⟩
  · have hs := vp_eq (hk.2.2.1 j hj).1 (by decide)
    have := q (τ 4 j).toNatClampNeg (by omega) ((fO_bt hk W U (Nat.le_refl _) _ (by omega)).mpr ⟨j, hj, hb, rfl⟩)
    rw [← bo_bt (by omega), ← hs.1] at this
    exact (hsk_bo (by omega) (hk.2.1 a ha) (hk.2.2.1 j hj).1).mp this
  · obtain ⟨j, a1, a2, a3⟩ := (fO_bt hk W U (Nat.le_refl _) i hi).mp hx
    have hs := vp_eq (hk.2.2.1 j a1).1 (by decide)
    have := (hsk_bo (by omega) (hk.2.1 a ha) (hk.2.2.1 j a1).1).mpr (q j a1 a2)
    rw [hs.1, bo_bt (by omega), a3] at this
    exact this
theorem PT_O {t τ δ : Nat → Nat → Int32} {P W G f : Nat} {L : Nat → Nat} (hP : P ≤ 5) (hW : W ≤ 6) (hk : TOK τ P W G) (h : PT t τ δ P W L) (hf : f ≤ W) : isO (okP P (mnN τ) (hsk τ)) (nxP (mnN τ)) (gnP (gnN τ δ)) (W - f) L f (plM t (fSN (gnN τ δ)  W) P W f) := by
  have hm := pm_best (mn := mnN τ) (gn := gnN τ δ) (ok := hsk τ) (L := L) (f := f) hf (fun j hj => (mn_ok hk hj).2.1) (PT_ft hP hW hk h) (fun a ha => by
    obtain ⟨h3, hl, -⟩ := h.1 a ha
    rw [h3, show (0 : Int32) = nI 0 from rfl, nI_ltI (by decide) (by omega)]) P (Nat.le_refl _) (2 ^ (W - f) - 1) (by have := Nat.two_pow_pos (W - f); omega)
  have hF : ∀ d, FkP (mnN τ) (hsk τ) W f L P (2 ^ (W - f) - 1) d ↔ Fr (okP P (mnN τ) (hsk τ)) (nxP (mnN τ)) (W - f) L f d := fun d => by
    rw [Fr_sum]
    refine and_congr ⟨fun q j a b => ⟨(q j a (by omega)).1, fun z => ((q j a (by omega)).2 z).2⟩, fun q j a b => ⟨(q j a (by omega)).1, fun z => ⟨?_, (q j a (by omega)).2 z⟩⟩⟩ Iff.rfl
    rw [Nat.testBit_two_pow_sub_one, decide_eq_true (by omega)]
  refine ⟨fun d hd => hm.1 d ((hF d).mpr hd), ?_⟩
  obtain ⟨d, h1, h2⟩ := hm.2
  exact ⟨d, (hF d).mp h1, h2⟩
theorem PT_lft {t τ δ : Nat → Nat → Int32} {P W G a w : Nat} {L : Nat → Nat} (hk : TOK τ P W G) (h : PT t τ δ P W L) (ha : a < P) (hw : w < W) (hm : mnN τ w ≤ L a) : PT (lftS t a w) τ δ P W (nU L a (L a - mnN τ w)) := by
  refine ⟨fun b hb => ?_, h.2.1, h.2.2⟩
  obtain ⟨h3, hl, h4⟩ := h.1 b hb
  show upd (t 3) a (t 3 a - t 6 (2 ^ w)) b = _ ∧ _
  have h6 := (h.2.2 (2 ^ w) (Nat.pow_lt_pow_right (by decide) hw)).1
  rw [h6, fSN_one W hw]
  by_cases e : b = a
  · subst e
    rw [pk_us, nU_s, h3, pk_sub hm]
    exact ⟨rfl, by omega, h4⟩
  · rw [upd_ne e, nU_n e]
    exact ⟨h3, hl, h4⟩
def opt (x : Nat) : Option Nat := if x = 0 then none else some (x - 1)
theorem opt_0 : opt 0 = none := rfl
theorem opt_s (a : Nat) : opt (a + 1) = some a := rfl
theorem gn_le {τ δ : Nat → Nat → Int32} {P W G : Nat} (hk : TOK τ P W G) {j : Nat} (hj : j < W) : gnN τ δ j ≤ 50 := (gnN_ok (hk.2.2.1 j hj).2.2.2).2
theorem Vr_le {τ δ : Nat → Nat → Int32} {P W G k w : Nat} (hk : TOK τ P W G) (h : w + k ≤ W) (d : Nat → Nat) : Vr (gnP (gnN τ δ)) k w d ≤ k * 50 := sL_bound k w (fun j h1 h2 => by unfold gnP; split; exact Nat.zero_le _; exact gn_le hk (by omega))
theorem fdo_eq {t τ δ : Nat → Nat → Int32} {P W G k w : Nat} {L d : Nat → Nat} (hP : P ≤ 5) (hW : W ≤ 6) (hk : TOK τ P W G) (h : PT t τ δ P W L) (hw : w + (k + 1) = W) (hl : LX (okP P (mnN τ) (hsk τ)) (nxP (mnN τ)) (gnP (gnN τ δ)) (k + 1) L w d) :
    fdo t (fSN (gnN τ δ) W) P W w (nI (Vr (gnP (gnN τ δ)) (k + 1) w d)) = opt (d w) := by
  have hVb := Vr_le (δ := δ) (k := k + 1) (w := w) hk (by omega) d
  have hVb2 : (k + 1) * 50 ≤ 6 * 50 := Nat.mul_le_mul_right 50 (by omega)
  have hO0 := PT_O (f := w + 1) hP hW hk h (by omega)
  rw [show W - (w + 1) = k by omega] at hO0
  have hO1 : ∀ a, a < P → mnN τ w ≤ L a → isO (okP P (mnN τ) (hsk τ)) (nxP (mnN τ)) (gnP (gnN τ δ)) k (nxP (mnN τ) L w (a + 1)) (w + 1) (plM (lftS t a w) (fSN (gnN τ δ) W) P W (w + 1)) := fun a ha hm => by
    have := PT_O (f := w + 1) hP hW hk (PT_lft hk h ha (by omega) hm) (by omega)
    rw [show W - (w + 1) = k by omega] at this
    exact this
  have hft : ∀ a, a < P → (ftB t a (2 ^ w) = true ↔ (mnN τ w ≤ L a ∧ hsk τ a w = true)) := fun a ha => by
    rw [PT_ft hP hW hk h a ha _ (Nat.pow_lt_pow_right (by decide) (by omega)), fSN_one W (by omega)]
    refine and_congr Iff.rfl ⟨fun q => q w (by omega) (by rw [Nat.testBit_two_pow, decide_eq_true rfl]), fun q j _ hb => ?_⟩
    rw [Nat.testBit_two_pow, decide_eq_true_iff] at hb
    rw [← hb]; exact q
  have h5 := h.2.1 w (by omega)
  unfold fdo
  rcases Nat.eq_zero_or_pos (d w) with e | e
  · have := lex_opt hl (v := plM t (fSN (gnN τ δ) W) P W (w + 1)) (by rw [e]; exact hO0)
    rw [e] at this
    rw [this, e, opt_0, if_neg]
    show ¬ nI (plM t (fSN (gnN τ δ) W) P W (w + 1)) < nI (0 + plM t (fSN (gnN τ δ) W) P W (w + 1))
    rw [Nat.zero_add, fa_lt]; omega
  · obtain ⟨a, ea⟩ : ∃ a, d w = a + 1 := ⟨d w - 1, by omega⟩
    have hno := lex_no hl (x := 0) (by omega) (Or.inl rfl) (v := plM t (fSN (gnN τ δ) W) P W (w + 1)) hO0
    rw [show gnP (gnN τ δ) w 0 = 0 from rfl, Nat.zero_add] at hno
    rw [if_pos (nI_lt hno (by omega)), ea, opt_s]
    have hokd : okP P (mnN τ) (hsk τ) L w (a + 1) := by
      have := hl.1
      rw [Fr, ea] at this
      exact this.1
    obtain ⟨o1, o2, o3⟩ := hokd.resolve_left (by omega)
    have ha : a < P := by omega
    have hfk : ∀ k' i, i + k' = P → i ≤ a → fok t (fSN (gnN τ δ) W) P W w (nI (Vr (gnP (gnN τ δ)) (k + 1) w d)) k' i = some a := by
      intro k'
      induction k' with
      | zero => intro i h1 h2; omega
      | succ k' ih =>
        intro i h1 h2
        rw [fok]
        by_cases q : i = a
        · subst q
          have hv := lex_opt hl (v := plM (lftS t i w) (fSN (gnN τ δ) W) P W (w + 1)) (by rw [ea]; exact hO1 i ha o3)
          rw [ea, show gnP (gnN τ δ) w (i + 1) = gnN τ δ w from rfl] at hv
          rw [if_pos ⟨(hft i ha).mpr ⟨o3, o2⟩, by rw [h5, nI_add, hv, fa_lt]; omega⟩]
        · rw [if_neg]
          · exact ih (i + 1) (by omega) (by omega)
          · rintro ⟨f1, f2⟩
            obtain ⟨g1, g2⟩ := (hft i (by omega)).mp f1
            have := lex_no hl (x := i + 1) (by omega) (Or.inr ⟨by omega, g2, g1⟩) (hO1 i (by omega) g1)
            rw [show gnP (gnN τ δ) w (i + 1) = gnN τ δ w from rfl] at this
            apply f2
            rw [h5, nI_add]
            exact nI_lt this (by omega)
    exact hfk P 0 (by omega) (by omega)
theorem dpk_eq {τ δ : Nat → Nat → Int32} {P W G : Nat} {d : Nat → Nat} (hP : P ≤ 5) (hW : W ≤ 6) (hk : TOK τ P W G) : ∀ k t L w fo, PT t τ δ P W L → w + k ≤ W → LX (okP P (mnN τ) (hsk τ)) (nxP (mnN τ)) (gnP (gnN τ δ)) (W - w) L w d → dpk (fSN (gnN τ δ) W) P W k w t (nI (Vr (gnP (gnN τ δ)) (W - w) w d)) fo = if k = 0 then fo else opt (d (w + k - 1)) := by
  intro k
  induction k with
  | zero => intro t L w fo _ _ _; rw [dpk, if_pos rfl]
  | succ k ih =>
    intro t L w fo h hw hl
    obtain ⟨m, em⟩ : ∃ m, W - w = m + 1 := ⟨W - w - 1, by omega⟩
    rw [em] at hl ⊢
    have hst := lex_step hl
    have hVV : Vr (gnP (gnN τ δ)) (m + 1) w d = gnP (gnN τ δ) w (d w) + Vr (gnP (gnN τ δ)) m (w + 1) d := rfl
    rw [dpk, fdo_eq hP hW hk h (by omega) hl, if_neg (Nat.succ_ne_zero k)]
    have hlast : ∀ fo, fo = opt (d w) → (if k = 0 then fo else opt (d (w + 1 + k - 1))) = opt (d (w + (k + 1) - 1)) := fun fo e => by
      by_cases q : k = 0
      · subst q; rw [if_pos rfl, e]; rfl
      · rw [if_neg q, show w + 1 + k - 1 = w + (k + 1) - 1 by omega]
    rcases Nat.eq_zero_or_pos (d w) with e | e
    · rw [e, opt_0]
      rw [e] at hst
      rw [e, show gnP (gnN τ δ) w 0 = 0 from rfl, Nat.zero_add] at hVV
      have := ih t L (w + 1) none h (by omega) (by rw [show W - (w + 1) = m by omega]; exact hst)
      rw [show W - (w + 1) = m by omega, ← hVV] at this
      show dpk (fSN (gnN τ δ) W) P W k (w + 1) t _ none = _
      rw [this]
      exact hlast none (by rw [e]; rfl)
    · obtain ⟨a, ea⟩ : ∃ a, d w = a + 1 := ⟨d w - 1, by omega⟩
      have hokd : okP P (mnN τ) (hsk τ) L w (a + 1) := by
        have := hl.1
        rw [Fr, ea] at this
        exact this.1
      obtain ⟨o1, o2, o3⟩ := hokd.resolve_left (by omega)
      rw [ea, opt_s]
      rw [ea] at hst
      rw [ea, show gnP (gnN τ δ) w (a + 1) = gnN τ δ w from rfl] at hVV
      have := ih (lftS t a w) (nU L a (L a - mnN τ w)) (w + 1) (some a) (PT_lft hk h (by omega) (by omega) o3) (by omega) (by rw [show W - (w + 1) = m by omega]; exact hst)
      rw [show W - (w + 1) = m by omega] at this
      show dpk (fSN (gnN τ δ) W) P W k (w + 1) (lftS t a w) (nI (Vr (gnP (gnN τ δ)) (m + 1) w d) - t 5 w) (some a) = _
      rw [h.2.1 w (by omega), pk_sub (by omega), hVV, Nat.add_sub_cancel_left, this]
      exact hlast (some a) (by rw [ea]; rfl)
