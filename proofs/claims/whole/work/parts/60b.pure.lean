/-! points, rows of digits, wordings -/
theorem plF_uniq {s : Nat → Int32} {B P b : Nat} (hP : P ≤ 5) (hO : BOK s B P) (hb : b < B) {p j : Nat} (hp : p < P) (hj : j < P) (h : s (5 * b + j) = nI p) : j = plF s b (nI p) P 0 := by
  have hg : ∀ q, q < P → plF s b (nI q) P 0 < P ∧ s (5 * b + plF s b (nI q) P 0) = nI q := fun q hq => by
    obtain ⟨k1, -, k3, -⟩ := plF_lt s b (nI q) P 0 (hO.1 b hb q hq)
    exact ⟨by omega, k3⟩
  obtain ⟨q, hq, eq⟩ := fb_onto (n := P) (f := fun q => plF s b (nI q) P 0) (fun i hi => (hg i hi).1) (fun i j hij hj e => by
    have h1 := (hg i (by omega)).2
    have h2 := (hg j hj).2
    rw [e, h2] at h1
    have := (nIne (by omega) (by omega)).mp h1
    omega) hj
  have h2 := (hg q hq).2
  rw [eq, h] at h2
  have := (nIne (by omega) (by omega)).mp h2
  subst this
  exact eq.symm
theorem ptIn_eq {s : Nat → Int32} {B P b : Nat} (hP : P ≤ 5) (hO : BOK s B P) (hb : b < B) {p : Nat} (hp : p < P) (c : Int32) : ∀ k, k ≤ P → ptIn s (nI p) P b c k = c + (if plF s b (nI p) P 0 < k then nI (P - 1 - plF s b (nI p) P 0) else 0) := by
  intro k
  obtain ⟨k1, -, k3, -⟩ := plF_lt s b (nI p) P 0 (hO.1 b hb p hp)
  induction k with
  | zero => intro _; rw [ptIn, if_neg (by omega), Int32.add_zero]
  | succ k ih =>
    intro hk
    rw [ptIn, ih (by omega)]
    by_cases h : s (5 * b + k) = nI p
    · have e := plF_uniq hP hO hb hp (by omega) h
      rw [if_neg (by omega), if_pos h, if_pos (by omega), Int32.add_zero, ← e]
      congr 1
      obtain ⟨m, rfl⟩ : ∃ m, P = m + 1 := ⟨P - 1, by omega⟩
      rw [nI_pred, Nat.add_sub_cancel, pk_sub (by omega)]
    · rw [if_neg h, Int32.add_zero]
      have : ¬ plF s b (nI p) P 0 = k := fun e => h (by rw [← e]; exact k3)
      by_cases h2 : plF s b (nI p) P 0 < k
      · rw [if_pos h2, if_pos (by omega)]
      · rw [if_neg h2, if_neg (by omega)]
theorem pts_eq {s : Nat → Int32} {P : Nat} (hP : P ≤ 5) {p : Nat} (hp : p < P) : ∀ B, BOK s B P → pts s (nI p) P B = nI (ptN s P (nI p) B) := by
  intro B
  induction B with
  | zero => intro _; rfl
  | succ k ih =>
    intro hO
    have hO' : BOK s k P := ⟨fun b hb => hO.1 b (by omega), fun b hb => hO.2.1 b (by omega), Or.inr (by omega)⟩
    obtain ⟨k1, -, -, -⟩ := plF_lt s k (nI p) P 0 (hO.1 k (Nat.lt_succ_self k) p hp)
    rw [pts, ptN, ptIn_eq hP hO (Nat.lt_succ_self k) hp _ P (Nat.le_refl _), ih hO', if_pos (by omega), nI_add]
theorem kMayor_eq {s : Nat → Int32} {B P : Nat} (hB : B ≤ 9) (hP : P ≤ 5) (hO : BOK s B P) (a : Int32) : kMayor s B P a = mMayor s B P a := by
  unfold kMayor mMayor
  by_cases hB0 : B = 0
  · rw [if_pos hB0, if_pos hB0]
  · have hP0 : 0 < P := hO.2.2.resolve_left hB0
    rw [if_neg hB0, if_neg hB0, lom_fbN hB hP0 (fun j hj => vC_fc hB (hO.vp0 hP hP0) j (by omega)), lom_cong (fun j hj => pts_eq hP hj B hO)]
theorem kPoints_eq {s : Nat → Int32} {B P : Nat} (hP : P ≤ 5) (hO : BOK s B P) (a : Int32) : kPoints s B P a = if inB a P = true then nI (ptN s P a B) else -2 := by
  unfold kPoints
  by_cases h : inB a P = true
  · rw [if_pos h, if_pos h]
    obtain ⟨p, hp, rfl⟩ := vp_in_of (inB_t.mp h) (by omega)
    exact pts_eq hP hp B hO
  · rw [if_neg h, if_neg h]
theorem kSwing_eq {s : Nat → Int32} {B P : Nat} (hB : B ≤ 9) (hP : P ≤ 5) (hO : BOK s B P) : kSwing s B P = bset (fun b => swI s B P b P) B := by
  unfold kSwing
  by_cases h : B = 0
  · rw [if_pos h, h]; rfl
  · rw [if_neg h]
    exact bset_cong (fun b hb => sw_eq hB hP hO hb)
theorem sC_tb (m : Nat) (i : Nat) : ∀ k, (sC m k).testBit i = true ↔ ∃ j, j < k ∧ dg m j = i := by
  intro k
  induction k with
  | zero => rw [sC, Nat.zero_testBit]; exact ⟨fun h => (by cases h), fun ⟨j, h, _⟩ => (by omega)⟩
  | succ k ih =>
    rw [sC, Nat.testBit_or, Bool.or_eq_true, ih, Nat.testBit_two_pow, decide_eq_true_iff]
    constructor
    · rintro (⟨j, h1, h2⟩ | h)
      · exact ⟨j, by omega, h2⟩
      · exact ⟨k, Nat.lt_succ_self k, h⟩
    · rintro ⟨j, h1, h2⟩
      by_cases e : j = k
      · subst e; exact Or.inr h2
      · exact Or.inl ⟨j, by omega, h2⟩
theorem bsN_tb (m P : Nat) (i : Nat) : ∀ k, (bsN m P k).testBit i = true ↔ ∃ j, j < k ∧ dg m j = i ∧ i < P := by
  intro k
  induction k with
  | zero => rw [bsN, Nat.zero_testBit]; exact ⟨fun h => (by cases h), fun ⟨j, h, _⟩ => (by omega)⟩
  | succ k ih =>
    have h0 : (if dg m k < P then 2 ^ dg m k else 0).testBit i = true ↔ (dg m k = i ∧ i < P) := by
      by_cases h : dg m k < P
      · rw [if_pos h, Nat.testBit_two_pow, decide_eq_true_iff]
        exact ⟨fun e => ⟨e, by omega⟩, fun e => e.1⟩
      · rw [if_neg h, Nat.zero_testBit]
        exact ⟨fun h => (by cases h), fun e => by omega⟩
    rw [bsN, Nat.testBit_or, Bool.or_eq_true, ih, h0]
    constructor
    · rintro (⟨j, h1, h2⟩ | h)
      · exact ⟨j, by omega, h2⟩
      · exact ⟨k, Nat.lt_succ_self k, h⟩
    · rintro ⟨j, h1, h2⟩
      by_cases e : j = k
      · subst e; exact Or.inr h2
      · exact Or.inl ⟨j, by omega, h2⟩
theorem dg_all {m P : Nat} (h : ∀ i, i < P → ∃ j, j < P ∧ dg m j = i) : ∀ j, j < P → dg m j < P := fun j hj => by
  have hf : ∀ i, i < P → fa_first (fun k => decide (dg m k = i)) P < P ∧ dg m (fa_first (fun k => decide (dg m k = i)) P) = i := fun i hi => by
    obtain ⟨k, hk, ek⟩ := h i hi
    have h1 : fa_first (fun k => decide (dg m k = i)) P < P := by
      rcases Nat.lt_or_ge (fa_first (fun k => decide (dg m k = i)) P) P with q | q
      · exact q
      · have := fa_first_no (fun k => decide (dg m k = i)) P k (by omega)
        rw [decide_eq_true ek] at this
        cases this
    exact ⟨h1, of_decide_eq_true (fa_first_yes (fun k => decide (dg m k = i)) P h1)⟩
  obtain ⟨i, hi, ei⟩ := fb_onto (n := P) (f := fun i => fa_first (fun k => decide (dg m k = i)) P) (fun i hi => (hf i hi).1) (fun i j hij hj e => by
    have h1 := (hf i (by omega)).2
    have h2 := (hf j hj).2
    rw [e, h2] at h1
    omega) hj
  have := (hf i hi).2
  rw [ei] at this
  omega
theorem sC_all {m P : Nat} : sC m P = 2 ^ P - 1 ↔ ∀ i, i < P → ∃ j, j < P ∧ dg m j = i := by
  constructor
  · intro h i hi
    refine (sC_tb m i P).mp ?_
    rw [h, Nat.testBit_two_pow_sub_one, decide_eq_true hi]
  · intro h
    apply Nat.eq_of_testBit_eq
    intro i
    rw [Nat.testBit_two_pow_sub_one, Bool.eq_iff_iff, sC_tb, decide_eq_true_iff]
    exact ⟨fun ⟨j, h1, h2⟩ => h2 ▸ dg_all h j h1, fun hi => h i hi⟩
theorem bsN_all {m P : Nat} : bsN m P P = 2 ^ P - 1 ↔ ∀ i, i < P → ∃ j, j < P ∧ dg m j = i := by
  constructor
  · intro h i hi
    obtain ⟨j, h1, h2, -⟩ := (bsN_tb m P i P).mp (by rw [h, Nat.testBit_two_pow_sub_one, decide_eq_true hi])
    exact ⟨j, h1, h2⟩
  · intro h
    apply Nat.eq_of_testBit_eq
    intro i
    rw [Nat.testBit_two_pow_sub_one, Bool.eq_iff_iff, bsN_tb, decide_eq_true_iff]
    exact ⟨fun ⟨j, h1, h2, h3⟩ => h3, fun hi => (h i hi).elim fun j hj => ⟨j, hj.1, hj.2, hi⟩⟩
theorem kBallot_eq (m P : Nat) : kBallot m P = mBallot m P := by
  unfold kBallot mBallot
  congr 1
  rw [Bool.eq_iff_iff, decide_eq_true_iff, decide_eq_true_iff, sC_all, bsN_all]
theorem BOK_put {s : Nat → Int32} {B P m : Nat} (hP : P ≤ 5) (hP0 : 0 < P) (hO : BOK s B P) (hk : kBallot m P = true) : BOK (baPut m P B s) (B + 1) P := by
  unfold kBallot at hk
  rw [Bool.and_eq_true, decide_eq_true_iff, decide_eq_true_iff] at hk
  have hA := sC_all.mp hk.2
  have hold : ∀ b, b < B → ∀ j, j < P → baPut m P B s (5 * b + j) = s (5 * b + j) := fun b hb j hj => by
    unfold baPut; rw [if_neg (by omega)]
  have hnew : ∀ j, j < P → baPut m P B s (5 * B + j) = nI (dg m (P - 1 - j)) := fun j hj => by
    unfold baPut; rw [if_pos (by omega), Nat.add_sub_cancel_left]
  refine ⟨fun b hb p hp => ?_, fun b hb j hj => ?_, Or.inr hP0⟩
  · by_cases e : b = B
    · subst e
      obtain ⟨j, h1, h2⟩ := hA p hp
      refine ⟨P - 1 - j, by omega, by omega, ?_⟩
      rw [hnew _ (by omega), show P - 1 - (P - 1 - j) = j by omega, h2]
    · obtain ⟨j, h1, h2, h3⟩ := hO.1 b (by omega) p hp
      exact ⟨j, h1, h2, by rw [hold b (by omega) j (by omega)]; exact h3⟩
  · by_cases e : b = B
    · subst e
      rw [hnew j hj]
      exact vp_in_nI (dg_all hA _ (by omega)) (by omega)
    · rw [hold b (by omega) j hj]
      exact hO.2.1 b (by omega) j hj
/-! wordings -/
theorem jBit_on : ∀ v, v < 64 → jBit (nI v) = onR (nI v) 9 := by decide +kernel
theorem jBit_0 : ∀ v, v < 64 → (jBit (nI v) ≤ 0 ↔ v = 0) := by decide +kernel
theorem xor64 {x y : Int32} (hx : vp_in x 64) (hy : vp_in y 64) : ∃ v, v < 64 ∧ x ^^^ y = nI v ∧ (v = 0 ↔ x = y) := by
  obtain ⟨a, ha, rfl⟩ := vp_in_of hx (by decide)
  obtain ⟨b, hb, rfl⟩ := vp_in_of hy (by decide)
  refine ⟨a ^^^ b, Nat.xor_lt_two_pow (n := 6) ha hb, fb_xorI a b, ?_⟩
  rw [nIne (by omega) (by omega)]
  constructor
  · intro h
    have : a ^^^ b ^^^ b = 0 ^^^ b := by rw [h]
    rw [Nat.xor_assoc, Nat.xor_self, Nat.xor_zero, Nat.zero_xor] at this
    exact this
  · intro h
    rw [h, Nat.xor_self]
theorem kMeant_eq {tw : Nat → Nat → Int32} {r : Nat → Int32} {B : Nat} (hr : ∀ k, k < B → tw 1 k = r k ∧ vp_in (r k) 64) (a b : Int32) : kMeant tw B a b = if inB a 64 = true then (if inB b 7 = true then bset (fun k => decide (onR (r k ^^^ a) 9 ≤ b)) B else -3) else -3 := by
  unfold kMeant
  by_cases h : inB a 64 = true
  · rw [if_pos h, if_pos h]
    congr 1
    refine bset_cong (fun k hk => ?_)
    obtain ⟨v, h1, h2, -⟩ := xor64 (hr k hk).2 (inB_t.mp h)
    rw [(hr k hk).1, h2, jBit_on v h1]
  · rw [if_neg h, if_neg h]
theorem wIn_b {c : Nat → Nat → Int32} {r : Nat → Int32} {i : Nat} {a : Int32} : ∀ k, (∀ j, j < k → c i j = onR (r i ^^^ r j) 9) → wIn c i a k = bIn r i a k := by
  intro k
  induction k with
  | zero => intro _; rfl
  | succ k ih =>
    intro h
    rw [wIn, bIn, ih (fun j hj => h j (by omega)), h k (Nat.lt_succ_self k)]
theorem wOut_b {c : Nat → Nat → Int32} {r : Nat → Int32} : ∀ k, (∀ i, i < k → ∀ j, j < i → c i j = onR (r i ^^^ r j) 9) → wOut c k = bOut r k := by
  intro k
  induction k with
  | zero => intro _; rfl
  | succ k ih =>
    intro h
    rw [wOut, bOut, ih (fun i hi => h i (by omega)), wIn_b k (h k (Nat.lt_succ_self k))]
theorem kBears_eq {tw : Nat → Nat → Int32} {r : Nat → Int32} {B : Nat} (hr : ∀ k, k < B → tw 1 k = r k ∧ vp_in (r k) 64) : kBears tw B = mBears r B := by
  unfold kBears mBears
  by_cases h0 : B = 0
  · rw [if_pos h0, if_pos (by omega), if_pos h0]
  · by_cases h1 : B = 1
    · rw [if_neg h0, if_pos h1, if_pos (by omega), if_neg h0]
    · rw [if_neg h0, if_neg h1, if_neg (by omega), wOut_b (r := r) B (fun i hi j hj => by
        show jBit (tw 1 i ^^^ tw 1 j) = _
        obtain ⟨v, h1, h2, -⟩ := xor64 (hr i hi).2 (hr j (by omega)).2
        rw [(hr i hi).1, (hr j (by omega)).1, h2, jBit_on v h1])]
theorem wfd_iff {r : Nat → Int32} {a : Int32} : ∀ k, wfd r a k = true ↔ ∃ j, j < k ∧ r j = a := by
  intro k
  induction k with
  | zero => exact ⟨fun h => (by cases h), fun ⟨j, h, _⟩ => (by omega)⟩
  | succ k ih =>
    rw [wfd, Bool.or_eq_true, ih, decide_eq_true_iff]
    constructor
    · rintro (⟨j, h1, h2⟩ | h)
      · exact ⟨j, by omega, h2⟩
      · exact ⟨k, Nat.lt_succ_self k, h⟩
    · rintro ⟨j, h1, h2⟩
      by_cases e : j = k
      · subst e; exact Or.inr h2
      · exact Or.inl ⟨j, by omega, h2⟩
theorem bset_0 {p : Nat → Bool} {n : Nat} (hn : n ≤ 32) : bset p n = 0 ↔ ∀ k, k < n → p k = false := by
  constructor
  · intro h k hk
    have := bt_bset p n hn k (by omega)
    rw [h, b_0, decide_eq_true hk, Bool.true_and] at this
    exact this.symm
  · intro h
    apply b_ext
    intro i hi
    rw [bt_bset p n hn i hi, b_0]
    by_cases hi2 : i < n
    · rw [h i hi2, Bool.and_false]
    · rw [decide_eq_false hi2, Bool.false_and]
theorem word_eq {tw : Nat → Nat → Int32} {r : Nat → Int32} {B : Nat} (hB : B ≤ 6) (hr : ∀ k, k < B → tw 1 k = r k ∧ vp_in (r k) 64) {a : Int32} (ha : inB a 64 = true) : (bset (fun k => decide (jBit (tw 1 k ^^^ a) ≤ 0)) B = 0) ↔ ¬ wfd r a B = true := by
  rw [bset_0 (by omega), wfd_iff]
  have h0 : ∀ k, k < B → (decide (jBit (tw 1 k ^^^ a) ≤ 0) = false ↔ ¬ r k = a) := fun k hk => by
    obtain ⟨v, h1, h2, h3⟩ := xor64 (hr k hk).2 (inB_t.mp ha)
    rw [(hr k hk).1, h2, decide_eq_false_iff_not, jBit_0 v h1, h3]
  exact ⟨fun h ⟨j, h1, h2⟩ => (h0 j h1).mp (h j h1) h2, fun h k hk => (h0 k hk).mpr (fun e => h ⟨k, hk, e⟩)⟩
