/-! the plan: the model's rows -/
def FeS (P : Nat) (mn : Nat → Nat) (ok : Nat → Nat → Bool) (k : Nat) (L d : Nat → Nat) : Prop := (∀ j, j < k → ¬ d j = 0 → ok (d j - 1) j = true) ∧ ∀ p, p < P → sL (fun j => if d j = p + 1 then mn j else 0) k 0 ≤ L p
theorem FeS_cong {P : Nat} {mn : Nat → Nat} {ok : Nat → Nat → Bool} {k : Nat} {L d e : Nat → Nat} (h : ∀ j, j < k → d j = e j) : FeS P mn ok k L d ↔ FeS P mn ok k L e := by
  unfold FeS
  refine and_congr ⟨fun q j hj => by rw [← h j hj]; exact q j hj, fun q j hj => by rw [h j hj]; exact q j hj⟩ ⟨fun q p hp => ?_, fun q p hp => ?_⟩
  · rw [← sL_cong (g := fun j => if d j = p + 1 then mn j else 0) k 0 (fun j _ hj => by rw [h j (by omega)])]; exact q p hp
  · rw [sL_cong (h := fun j => if e j = p + 1 then mn j else 0) k 0 (fun j _ hj => by rw [h j (by omega)])]; exact q p hp
theorem FeS_0 {P : Nat} {mn : Nat → Nat} {ok : Nat → Nat → Bool} {k : Nat} {L d : Nat → Nat} (h : d k = 0) : FeS P mn ok (k + 1) L d ↔ FeS P mn ok k L d := by
  unfold FeS
  refine and_congr ⟨fun q j hj => q j (by omega), fun q j hj z => ?_⟩ ⟨fun q p hp => ?_, fun q p hp => ?_⟩
  · by_cases e : j = k
    · subst e; exact absurd h z
    · exact q j (by omega) z
  · have := q p hp
    rw [sL_snoc, Nat.zero_add, h, if_neg (by omega), Nat.add_zero] at this
    exact this
  · rw [sL_snoc, Nat.zero_add, h, if_neg (by omega), Nat.add_zero]
    exact q p hp
theorem FeS_s {P : Nat} {mn : Nat → Nat} {ok : Nat → Nat → Bool} {k a : Nat} {L d : Nat → Nat} (h : d k = a + 1) (ha : a < P) : FeS P mn ok (k + 1) L d ↔ ((ok a k = true ∧ mn k ≤ L a) ∧ FeS P mn ok k (nU L a (L a - mn k)) d) := by
  unfold FeS
  constructor
  · rintro ⟨q1, q2⟩
    have h1 := q1 k (Nat.lt_succ_self k) (by omega)
    rw [h] at h1
    have h2 := q2 a ha
    rw [sL_snoc, Nat.zero_add, h, if_pos rfl] at h2
    refine ⟨⟨h1, by omega⟩, fun j hj => q1 j (by omega), fun p hp => ?_⟩
    by_cases e : p = a
    · subst e; rw [nU_s]; omega
    · have h3 := q2 p hp
      rw [sL_snoc, Nat.zero_add, h, if_neg (by omega), Nat.add_zero] at h3
      rw [nU_n e]; exact h3
  · rintro ⟨⟨h1, h2⟩, q1, q2⟩
    refine ⟨fun j hj z => ?_, fun p hp => ?_⟩
    · by_cases e : j = k
      · subst e; rw [h]; exact h1
      · exact q1 j (by omega) z
    · have h3 := q2 p hp
      rw [sL_snoc, Nat.zero_add, h]
      by_cases e : p = a
      · subst e; rw [nU_s] at h3; rw [if_pos rfl]; omega
      · rw [nU_n e] at h3; rw [if_neg (by omega)]; exact h3
def hwN (τ δ : Nat → Nat → Int32) (d : Nat → Nat) (j : Nat) : Nat := if d j = 0 then (if 0 < δ 9 j then wtN τ j else 0) else wtN τ j
theorem wb_eq {τ δ : Nat → Nat → Int32} {P W G : Nat} {aw : Int32} (hP : P ≤ 5) (hW : W ≤ 6) (hk : TOK τ P W G) : ∀ k c (l : Nat → Int32) s L, k ≤ W → (∀ p, p < P → (bo aw (nI p) = 1 ∧ l p = nI (L p) ∧ L p ≤ 99) ∨ (¬ bo aw (nI p) = 1 ∧ L p = 0)) →
    (FeS P (mnN τ) (hsk τ) k L (dgt (P + 1) c k) ∧ wbR τ δ P aw k c l (nI s) = nI (s + sL (hwN τ δ (dgt (P + 1) c k)) k 0)) ∨ (¬ FeS P (mnN τ) (hsk τ) k L (dgt (P + 1) c k) ∧ wbR τ δ P aw k c l (nI s) = -1) := by
  intro k
  induction k with
  | zero =>
    intro c l s L _ _
    exact Or.inl ⟨⟨fun j hj => by omega, fun p _ => Nat.zero_le _⟩, by rw [wbR, sL, Nat.add_zero]⟩
  | succ k ih =>
    intro c l s L hkW hl
    have hlow : ∀ j, j < k → dgt (P + 1) c (k + 1) j = dgt (P + 1) (c / (P + 1)) k j := fun j hj => dgt_s hj
    have hlast : dgt (P + 1) c (k + 1) k = c % (P + 1) := dgt_last _ _ _
    have hsum : sL (hwN τ δ (dgt (P + 1) c (k + 1))) (k + 1) 0 = sL (hwN τ δ (dgt (P + 1) (c / (P + 1)) k)) k 0 + hwN τ δ (dgt (P + 1) c (k + 1)) k := by
      rw [sL_snoc, Nat.zero_add]
      congr 1
      exact sL_cong k 0 (fun j _ hj => by unfold hwN; rw [hlow j (by omega)])
    have hlt : c % (P + 1) < P + 1 := Nat.mod_lt _ (Nat.succ_pos P)
    rw [wbR, hsum]
    by_cases e : c % (P + 1) = 0
    · have hw : hwN τ δ (dgt (P + 1) c (k + 1)) k = if 0 < δ 9 k then wtN τ k else 0 := by unfold hwN; rw [hlast, if_pos e]
      have hs : nI s + (if 0 < δ 9 k then τ 7 k else 0) = nI (s + hwN τ δ (dgt (P + 1) c (k + 1)) k) := by
        rw [hw, ← nI_add]
        congr 1
        split
        · exact (wt_ok hk (by omega)).1
        · rfl
      rw [if_pos e, hs, FeS_0 (by rw [hlast]; exact e), FeS_cong hlow]
      rcases ih (c / (P + 1)) l (s + hwN τ δ (dgt (P + 1) c (k + 1)) k) L (by omega) hl with ⟨h1, h2⟩ | ⟨h1, h2⟩
      · refine Or.inl ⟨h1, ?_⟩
        rw [h2]; congr 1; omega
      · exact Or.inr ⟨h1, h2⟩
    · obtain ⟨a, ea⟩ : ∃ a, c % (P + 1) = a + 1 := ⟨c % (P + 1) - 1, by omega⟩
      have ha : a < P := by omega
      have hm := mn_ok hk (show k < W by omega)
      have hw : hwN τ δ (dgt (P + 1) c (k + 1)) k = wtN τ k := by unfold hwN; rw [hlast, if_neg e]
      rw [if_neg e, FeS_s (by rw [hlast]; exact ea) ha, FeS_cong hlow, ea, Nat.add_sub_cancel, (wt_ok hk (show k < W by omega)).1, nI_add, hw]
      have hC : (bo aw (nI a) = 1 ∧ hsk τ a k = true ∧ τ 5 k ≤ l a) ↔ (hsk τ a k = true ∧ mnN τ k ≤ L a) := by
        rcases hl a ha with ⟨b1, b2, b3⟩ | ⟨b1, b2⟩
        · rw [b2, hm.1, nI_leI (by omega) (by omega)]
          exact ⟨fun q => q.2, fun q => ⟨b1, q⟩⟩
        · exact ⟨fun q => absurd q.1 b1, fun q => by omega⟩
      by_cases hc : bo aw (nI a) = 1 ∧ hsk τ a k = true ∧ τ 5 k ≤ l a
      · rw [if_pos hc]
        have hc2 := hC.mp hc
        have hb := (hl a ha).resolve_right (fun q => q.1 hc.1)
        rcases ih (c / (P + 1)) (upd l a (l a - τ 5 k)) (s + wtN τ k) (nU L a (L a - mnN τ k)) (by omega) (fun p hp => by
          by_cases q : p = a
          · subst q
            rw [pk_us, nU_s]
            exact Or.inl ⟨hc.1, by rw [hb.2.1, hm.1, pk_sub hc2.2], by omega⟩
          · rw [upd_ne q, nU_n q]; exact hl p hp) with ⟨h1, h2⟩ | ⟨h1, h2⟩
        · refine Or.inl ⟨⟨hc2, h1⟩, ?_⟩
          rw [h2]; congr 1; omega
        · exact Or.inr ⟨fun q => h1 q.2, h2⟩
      · rw [if_neg hc]
        exact Or.inr ⟨fun q => hc (hC.mpr q.1), rfl⟩
def HsN (τ δ : Nat → Nat → Int32) (W : Nat) : Nat := sL (fun j => if 0 < δ 9 j then wtN τ j else 0) W 0
theorem hd_eq {τ δ : Nat → Nat → Int32} {P W G : Nat} (hk : TOK τ P W G) : ∀ k, k ≤ W → hdX τ δ k = nI (HsN τ δ k)
  | 0, _ => rfl
  | k + 1, h => by
    unfold HsN
    rw [hdX, hd_eq hk k (by omega), sL_snoc, Nat.zero_add, ← nI_add]
    unfold HsN
    congr 1
    split
    · exact (wt_ok hk (by omega)).1
    · rfl
theorem Hs_le {τ δ : Nat → Nat → Int32} {P W G : Nat} (hk : TOK τ P W G) : HsN τ δ W ≤ W * 50 := sL_bound W 0 (fun j _ hj => by split; exact (wt_ok hk (by omega)).2; exact Nat.zero_le _)
theorem hw_sum {τ δ : Nat → Nat → Int32} {W : Nat} (d : Nat → Nat) : sL (hwN τ δ d) W 0 = HsN τ δ W + Vr (gnP (gnN τ δ)) W 0 d := by
  unfold HsN Vr
  rw [← sL_add]
  refine sL_cong W 0 (fun j _ _ => ?_)
  unfold hwN gnP
  rw [gn_wt]
  by_cases h : d j = 0
  · rw [if_pos h, if_pos h, Nat.add_zero]
  · rw [if_neg h, if_neg h]
    split
    · rfl
    · rw [Nat.zero_add]
theorem plan_lex {τ δ : Nat → Nat → Int32} {P W G : Nat} {aw m : Int32} {L : Nat → Nat} (hP : P ≤ 5) (hW : W ≤ 6) (hk : TOK τ P W G) (hl : ∀ p, p < P → (bo aw (nI p) = 1 ∧ lfM δ m p = nI (L p) ∧ L p ≤ 99) ∨ (¬ bo aw (nI p) = 1 ∧ L p = 0)) :
    LX (okP P (mnN τ) (hsk τ)) (nxP (mnN τ)) (gnP (gnN τ δ)) W L 0 (dgt (P + 1) (pbF (pbV τ δ P W m aw) ((P + 1) ^ W)).2 W) ∧ (pbF (pbV τ δ P W m aw) ((P + 1) ^ W)).1 = nI (HsN τ δ W + Vr (gnP (gnN τ δ)) W 0 (dgt (P + 1) (pbF (pbV τ δ P W m aw) ((P + 1) ^ W)).2 W)) := by
  have hHs := Hs_le (δ := δ) hk
  have h6 : W * 50 ≤ 6 * 50 := Nat.mul_le_mul_right 50 hW
  refine lex_init (Nat.succ_pos P) (fun d hd j hj => ?_) ?_ (fun d _ => ?_) (fun c hc => ?_)
  · have := ((Fr_sum W 0 L).mp hd).1 j (Nat.zero_le _) (by omega)
    omega
  · exact (Fr_sum W 0 L).mpr ⟨fun j _ _ => ⟨Nat.zero_le _, fun q => absurd rfl q⟩, fun p _ => by rw [sL_zero W 0 (fun j _ _ => if_neg (by omega))]; exact Nat.zero_le _⟩
  · have := Vr_le (δ := δ) (k := W) (w := 0) hk (by omega) d
    omega
  · have hF : FeS P (mnN τ) (hsk τ) W L (dgt (P + 1) c W) ↔ Fr (okP P (mnN τ) (hsk τ)) (nxP (mnN τ)) W L 0 (dgt (P + 1) c W) := by
      rw [Fr_sum]
      exact and_congr ⟨fun q j _ hj => ⟨Nat.le_of_lt_succ (Nat.mod_lt _ (Nat.succ_pos P)), q j (by omega)⟩, fun q j hj => (q j (Nat.zero_le _) (by omega)).2⟩ Iff.rfl
    have := wb_eq (δ := δ) (aw := aw) hP hW hk W c (lfM δ m) 0 L (Nat.le_refl _) hl
    rw [Nat.zero_add, hw_sum, hF] at this
    exact this
/-- who has how many minutes, by now -/
def lfN (δ : Nat → Nat → Int32) (p : Nat) : Nat := if bo (δ 4 0) (nI p) = 1 then 0 else (δ 7 p).toNatClampNeg
theorem bo_not {x : Int32} {p : Nat} (hp : p < 5) : bo (x ^^^ -1) (nI p) = 1 ↔ ¬ bo x (nI p) = 1 := by
  rw [bo_bt (by omega), bo_bt (by omega), b_xor, b_m1 p (by omega)]
  cases bt x p <;> decide
theorem plan_now {τ δ : Nat → Nat → Int32} {P W G : Nat} (hP : P ≤ 5) (hW : W ≤ 6) (hk : TOK τ P W G) (h7 : ∀ p, p < P → vp_in (δ 7 p) 100) : ∀ p, p < P → (bo (δ 4 0 ^^^ -1) (nI p) = 1 ∧ lfM δ (-1) p = nI (lfN δ p) ∧ lfN δ p ≤ 99) ∨ (¬ bo (δ 4 0 ^^^ -1) (nI p) = 1 ∧ lfN δ p = 0) := fun p hp => by
  rw [bo_not (by omega)]
  unfold lfN lfM
  have := vp_eq (h7 p hp) (by decide)
  by_cases h : bo (δ 4 0) (nI p) = 1
  · exact Or.inr ⟨fun q => q h, if_pos h⟩
  · rw [if_neg h, if_neg (by decide)]
    exact Or.inl ⟨h, this.1, by omega⟩
theorem plT_PT {t τ δ : Nat → Nat → Int32} {P W G : Nat} (hk : TOK τ P W G) (h7 : ∀ p, p < P → vp_in (δ 7 p) 100) (h : plT t τ δ P W) : PT t τ δ P W (lfN δ) := by
  obtain ⟨-, -, -, h3, h5, h6⟩ := h
  refine ⟨fun a ha => ?_, fun k hkW => by rw [h5 k hkW]; exact (gnN_ok (hk.2.2.1 k hkW).2.2.2).1, fun S hS => ⟨?_, (h6 S hS).2.1⟩⟩
  · have hv := vp_eq (h7 a ha) (by decide)
    refine ⟨?_, ?_, (h3 a ha).2⟩
    · rw [(h3 a ha).1]
      unfold lfX lfN
      split
      · rfl
      · exact hv.1
    · unfold lfN
      split
      · exact Nat.zero_le _
      · omega
  · rw [(h6 S hS).1]
    exact fS_nI W (fun j hj => (mn_ok hk hj).1) S
theorem kPlan_eq {t τ δ : Nat → Nat → Int32} {P W G : Nat} (hP : P ≤ 5) (hW : W ≤ 6) (hk : TOK τ P W G) (h7 : ∀ p, p < P → vp_in (δ 7 p) 100) (h : plT t τ δ P W) : hdX τ δ W + nI (plM t (fSN (gnN τ δ) W) P W 0) = (pbF (pbV τ δ P W (-1) (δ 4 0 ^^^ -1)) ((P + 1) ^ W)).1 := by
  obtain ⟨h1, h2⟩ := plan_lex hP hW hk (plan_now hP hW hk h7)
  have hO := PT_O (f := 0) hP hW hk (plT_PT hk h7 h) (Nat.zero_le _)
  rw [h2, hd_eq hk W (Nat.le_refl _), nI_add, isO_one hO h1.2.1]
theorem kPlanOf_eq {t τ δ : Nat → Nat → Int32} {P W G B : Nat} (hP : P ≤ 5) (hW : W ≤ 6) (hk : TOK τ P W G) (h7 : ∀ p, p < P → vp_in (δ 7 p) 100) (h : plT t τ δ P W) (hB : B < W) : oI (doX t (fSN (gnN τ δ) W) P W B) = if (pbF (pbV τ δ P W (-1) (δ 4 0 ^^^ -1)) ((P + 1) ^ W)).1 < 0 then -1 else nI ((pbF (pbV τ δ P W (-1) (δ 4 0 ^^^ -1)) ((P + 1) ^ W)).2 / (P + 1) ^ (W - 1 - B) % (P + 1)) - 1 := by
  obtain ⟨h1, h2⟩ := plan_lex hP hW hk (plan_now hP hW hk h7)
  have hPT := plT_PT hk h7 h
  have hO := PT_O (f := 0) hP hW hk hPT (Nat.zero_le _)
  have hHs := Hs_le (δ := δ) hk
  have h6 : W * 50 ≤ 6 * 50 := Nat.mul_le_mul_right 50 hW
  have hV := Vr_le (δ := δ) (k := W) (w := 0) hk (by omega) (dgt (P + 1) (pbF (pbV τ δ P W (-1) (δ 4 0 ^^^ -1)) ((P + 1) ^ W)).2 W)
  rw [h2, if_neg (nI_pos (by omega))]
  unfold doX
  have := dpk_eq hP hW hk (B + 1) t (lfN δ) 0 none hPT (by omega) h1
  rw [show W - 0 = W from rfl, ← isO_one hO h1.2.1, if_neg (Nat.succ_ne_zero B), show 0 + (B + 1) - 1 = B by omega] at this
  rw [this]
  show oI (opt (dgt (P + 1) _ W B)) = nI (dgt (P + 1) (pbF (pbV τ δ P W (-1) (δ 4 0 ^^^ -1)) ((P + 1) ^ W)).2 W B) - 1
  generalize dgt (P + 1) (pbF (pbV τ δ P W (-1) (δ 4 0 ^^^ -1)) ((P + 1) ^ W)).2 W B = x
  cases x with
  | zero => rfl
  | succ a => rw [opt_s, nI_pred]; rfl
theorem plan_len {τ δ : Nat → Nat → Int32} {P : Nat} {len : Nat} (hP : P ≤ 5) (hl : len ≤ 99) : ∀ p, p < P → (bo (-1) (nI p) = 1 ∧ lfM δ (nI len) p = nI ((fun _ => len) p) ∧ (fun _ => len) p ≤ 99) ∨ (¬ bo (-1) (nI p) = 1 ∧ (fun _ : Nat => len) p = 0) := fun p hp => by
  refine Or.inl ⟨(bo_bt (by omega)).mpr (b_m1 p (by omega)), ?_, hl⟩
  unfold lfM
  rw [if_pos (nI_pos' (by omega))]
theorem PT_len {t τ δ : Nat → Nat → Int32} {P W G len : Nat} {L : Nat → Nat} (h : PT t τ δ P W L) (hl : len ≤ 99) : PT (tL t (nI len)) τ δ P W (fun _ => len) := ⟨fun a ha => ⟨rfl, hl, (h.1 a ha).2.2⟩, h.2.1, h.2.2⟩
theorem bsr_msr {m : Nat → Nat} {v : Nat → Int32} {goal : Nat} {most : Int32} (h : ∀ len, len ≤ 99 → (m len < goal ↔ ¬ v len = most)) : ∀ k lo hi, lo ≤ hi → hi ≤ lo + k → hi ≤ 99 → bsr m goal k lo hi = msr v most k lo hi := by
  intro k
  induction k with
  | zero => intro lo hi h1 h2 _; rw [bsr, msr]; omega
  | succ k ih =>
    intro lo hi h1 h2 h3
    rw [bsr, msr]
    by_cases e : lo < hi
    · rw [if_pos e, if_pos e]
      have hm := h ((lo + hi) / 2) (by omega)
      by_cases q : m ((lo + hi) / 2) < goal
      · rw [if_pos q, if_neg (hm.mp q)]
        exact ih _ _ (by omega) (by omega) h3
      · rw [if_neg q]
        have : v ((lo + hi) / 2) = most := Decidable.byContradiction (fun z => q (hm.mpr z))
        rw [if_pos this]
        exact ih _ _ (by omega) (by omega) (by omega)
    · rw [if_neg e, if_neg e]; omega
theorem kShort_eq {t τ δ : Nat → Nat → Int32} {P W G : Nat} (hP : P ≤ 5) (hW : W ≤ 6) (hk : TOK τ P W G) (h7 : ∀ p, p < P → vp_in (δ 7 p) 100) (h : plT t τ δ P W) : shX t (fSN (gnN τ δ) W) P W = msr (mlV τ δ P W) (mlV τ δ P W 99) 98 1 99 := by
  have hPT := plT_PT hk h7 h
  have hHs := Hs_le (δ := δ) hk
  have h6 : W * 50 ≤ 6 * 50 := Nat.mul_le_mul_right 50 hW
  have hO : ∀ len, len ≤ 99 → isO (okP P (mnN τ) (hsk τ)) (nxP (mnN τ)) (gnP (gnN τ δ)) W (fun _ => len) 0 (plM (tL t (nI len)) (fSN (gnN τ δ) W) P W 0) := fun len hl => PT_O (f := 0) hP hW hk (PT_len (G := G) hPT hl) (Nat.zero_le _)
  have hv : ∀ len, len ≤ 99 → mlV τ δ P W len = nI (HsN τ δ W + plM (tL t (nI len)) (fSN (gnN τ δ) W) P W 0) ∧ plM (tL t (nI len)) (fSN (gnN τ δ) W) P W 0 ≤ W * 50 := fun len hl => by
    obtain ⟨h1, h2⟩ := plan_lex (aw := -1) (m := nI len) hP hW hk (plan_len (τ := τ) hP hl)
    have hV := Vr_le (δ := δ) (k := W) (w := 0) hk (by omega) (dgt (P + 1) (pbF (pbV τ δ P W (nI len) (-1)) ((P + 1) ^ W)).2 W)
    rw [isO_one (hO len hl) h1.2.1]
    exact ⟨h2, hV⟩
  have hmono : ∀ len, len ≤ 99 → plM (tL t (nI len)) (fSN (gnN τ δ) W) P W 0 ≤ plM (tL t (nI 99)) (fSN (gnN τ δ) W) P W 0 := fun len hl => by
    obtain ⟨-, d, d1, d2⟩ := hO len hl
    rw [← d2]
    apply (hO 99 (Nat.le_refl _)).1
    rw [Fr_sum] at d1 ⊢
    exact ⟨d1.1, fun p hp => Nat.le_trans (d1.2 p hp) hl⟩
  unfold shX
  refine bsr_msr (fun len hl => ?_) 98 1 99 (by decide) (by decide) (by decide)
  have h1 := hv len hl
  have h2 := hv 99 (Nat.le_refl _)
  have h3 := hmono len hl
  rw [h1.1, h2.1, nIne (by omega) (by omega)]
  omega
