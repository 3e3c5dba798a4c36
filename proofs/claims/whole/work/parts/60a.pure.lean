/-! equalities: who is first, ballots, wordings -/
theorem i0 : (0 : Int32).toInt = 0 := rfl
theorem im1 : (-1 : Int32).toInt = -1 := rfl
theorem pbF_best (v : Nat → Int32) (h0 : 0 ≤ v 0) : ∀ n, (pbF v (n + 1)).2 < n + 1 ∧ (pbF v (n + 1)).1 = v (pbF v (n + 1)).2 ∧ (∀ j, j < n + 1 → (v j).toInt ≤ (v (pbF v (n + 1)).2).toInt) ∧ ∀ j, j < (pbF v (n + 1)).2 → (v j).toInt < (v (pbF v (n + 1)).2).toInt := by
  intro n
  induction n with
  | zero =>
    have h : (pbF v 0).1 < v 0 := by rw [fa_le, i0] at h0; rw [fa_lt]; show (-1 : Int32).toInt < _; rw [im1]; omega
    rw [pbF, if_pos h]
    exact ⟨Nat.lt_succ_self 0, rfl, fun j hj => by rw [show j = 0 by omega]; exact Int.le_refl _, fun j hj => absurd hj (Nat.not_lt_zero j)⟩
  | succ n ih =>
    obtain ⟨a1, a2, a3, a4⟩ := ih
    rw [pbF]
    by_cases h : (pbF v (n + 1)).1 < v (n + 1)
    · rw [if_pos h]
      rw [a2, fa_lt] at h
      refine ⟨Nat.lt_succ_self _, rfl, fun j hj => ?_, fun j hj => ?_⟩
      · show (v j).toInt ≤ (v (n + 1)).toInt
        by_cases e : j = n + 1
        · rw [e]; exact Int.le_refl _
        · have := a3 j (by omega); omega
      · show (v j).toInt < (v (n + 1)).toInt
        have := a3 j hj; omega
    · rw [if_neg h]
      rw [a2, fa_lt] at h
      refine ⟨by omega, a2, fun j hj => ?_, a4⟩
      by_cases e : j = n + 1
      · rw [e]; omega
      · exact a3 j (by omega)
theorem lom_best (v : Nat → Int32) : ∀ n, (∀ j, j < n + 1 → (v j).toInt ≤ (v (lom v (n + 1))).toInt) ∧ ∀ j, j < lom v (n + 1) → (v j).toInt < (v (lom v (n + 1))).toInt := by
  intro n
  induction n with
  | zero =>
    rw [lom, if_neg (by omega), show lom v 0 = 0 from rfl]
    exact ⟨fun j hj => by rw [show j = 0 by omega]; exact Int.le_refl _, fun j hj => absurd hj (Nat.not_lt_zero j)⟩
  | succ n ih =>
    obtain ⟨a3, a4⟩ := ih
    rw [lom]
    by_cases h : 0 < n + 1 ∧ v (lom v (n + 1)) < v (n + 1)
    · rw [if_pos h]
      have h2 := h.2
      rw [fa_lt] at h2
      refine ⟨fun j hj => ?_, fun j hj => ?_⟩
      · by_cases e : j = n + 1
        · rw [e]; exact Int.le_refl _
        · have := a3 j (by omega); omega
      · have := a3 j hj; omega
    · rw [if_neg h]
      have h2 : ¬ v (lom v (n + 1)) < v (n + 1) := fun q => h ⟨Nat.succ_pos n, q⟩
      rw [fa_lt] at h2
      refine ⟨fun j hj => ?_, a4⟩
      by_cases e : j = n + 1
      · rw [e]; omega
      · exact a3 j (by omega)
theorem lom_one {v : Nat → Int32} {P i : Nat} (hi : i < P) (h1 : ∀ j, j < P → (v j).toInt ≤ (v i).toInt) (h2 : ∀ j, j < i → (v j).toInt < (v i).toInt) : lom v P = i := by
  obtain ⟨n, rfl⟩ : ∃ n, P = n + 1 := ⟨P - 1, by omega⟩
  exact fb_best_one (f := fun j => (v j).toInt) (lom_lt v (n + 1) (by omega)) (lom_best v n).1 (lom_best v n).2 hi h1 h2
theorem pbF_lom {v : Nat → Int32} (h0 : 0 ≤ v 0) {P : Nat} (hP : 0 < P) : lom v P = (pbF v P).2 := by
  obtain ⟨n, rfl⟩ : ∃ n, P = n + 1 := ⟨P - 1, by omega⟩
  obtain ⟨a1, -, a3, a4⟩ := pbF_best v h0 n
  exact lom_one a1 a3 a4
/-! ballots -/
theorem nI_m1 {k : Nat} (h : k < 2 ^ 31) : ¬ nI k = -1 := fun e => by
  have := (fa_eq _ _).mp e
  rw [nI_toInt h, im1] at this
  omega
theorem fcN_le (s : Nat → Int32) (bv ov : Int32) (p : Nat) : ∀ k, fcN s bv ov p k ≤ k := by
  intro k
  induction k with
  | zero => exact Nat.le_refl _
  | succ k ih =>
    rw [fcN]
    generalize (if nI k = bv then ov else s (5 * k)) = y
    split <;> omega
theorem vC_fc {s : Nat → Int32} : ∀ {B : Nat}, B ≤ 9 → (∀ b, b < B → vp_in (s (5 * b)) 5) → ∀ p, p < 5 → vC s B p = nI (fcN s (-1) 0 p B) := by
  intro B
  induction B with
  | zero => intro _ _ p _; rfl
  | succ k ih =>
    intro hB hs p hp
    have ihk := ih (by omega) (fun b hb => hs b (by omega))
    obtain ⟨x, hx, ex⟩ := vp_in_of (hs k (by omega)) (by decide)
    rw [vC, fcN, if_neg (nI_m1 (by omega)), ex, nI_clamp (by omega)]
    by_cases e : p = x
    · subst e
      rw [pk_us, ihk p hp, nI_1, if_pos rfl]
    · rw [upd_ne e, ihk p hp, if_neg (fun h => e ((nIne (by omega) (by omega)).mp h).symm), Nat.add_zero]
theorem fcN_out {s : Nat → Int32} {ov : Int32} {b q : Nat} : ∀ {B : Nat}, B ≤ b → b ≤ 9 → fcN s (nI b) ov q B = fcN s (-1) 0 q B := by
  intro B
  induction B with
  | zero => intros; rfl
  | succ k ih =>
    intro h1 h2
    rw [fcN, fcN, ih (by omega) h2, if_neg (show ¬ nI k = nI b from fun h => by have := (nIne (by omega) (by omega)).mp h; omega), if_neg (show ¬ nI k = -1 from nI_m1 (by omega))]
theorem fcN_in {s : Nat → Int32} {ov : Int32} {b q : Nat} : ∀ {B : Nat}, b < B → B ≤ 9 → fcN s (nI b) ov q B + (if s (5 * b) = nI q then 1 else 0) = fcN s (-1) 0 q B + (if ov = nI q then 1 else 0) := by
  intro B
  induction B with
  | zero => intro h; omega
  | succ k ih =>
    intro h1 h2
    rw [fcN, fcN, if_neg (nI_m1 (show k < 2 ^ 31 by omega))]
    by_cases e : b = k
    · subst e
      rw [fcN_out (Nat.le_refl _) (by omega), if_pos rfl]
      omega
    · have := ih (by omega) (by omega)
      rw [if_neg (show ¬ nI k = nI b from fun h => by have := (nIne (by omega) (by omega)).mp h; omega)]
      omega
theorem vsw_fc {s : Nat → Int32} {B b p q : Nat} (hB : B ≤ 9) (hs : ∀ b, b < B → vp_in (s (5 * b)) 5) (hb : b < B) (hp : p < 5) (hq : q < 5) : vsw (vC s B) (s (5 * b)) (nI p) q = nI (fcN s (nI b) (nI p) q B) := by
  obtain ⟨x, hx, ex⟩ := vp_in_of (hs b hb) (by decide)
  have hv := vC_fc hB hs
  have hr := fcN_in (s := s) (ov := nI p) (q := q) hb hB
  rw [ex] at hr
  unfold vsw
  rw [ex, nI_clamp (by omega), nI_clamp (by omega)]
  by_cases e1 : q = p
  · subst e1
    rw [pk_us, if_pos rfl] at *
    by_cases e2 : q = x
    · subst e2
      rw [pk_us, xsa, hv q hq]
      rw [if_pos rfl] at hr
      rw [show fcN s (nI b) (nI q) q B = fcN s (-1) 0 q B by omega]
    · rw [upd_ne e2, hv q hq, nI_1]
      rw [if_neg (fun h => e2 ((nIne (by omega) (by omega)).mp h).symm)] at hr
      rw [show fcN s (nI b) (nI q) q B = fcN s (-1) 0 q B + 1 by omega]
  · rw [upd_ne e1]
    rw [if_neg (fun h => e1 ((nIne (show p < 2 ^ 31 by omega) (by omega)).mp h).symm)] at hr
    by_cases e2 : q = x
    · subst e2
      rw [pk_us, hv q hq]
      rw [if_pos rfl] at hr
      rw [show fcN s (-1) 0 q B = fcN s (nI b) (nI p) q B + 1 by omega, nI_pred]
    · rw [upd_ne e2, hv q hq]
      rw [if_neg (fun h => e2 ((nIne (by omega) (by omega)).mp h).symm)] at hr
      rw [show fcN s (nI b) (nI p) q B = fcN s (-1) 0 q B by omega]
theorem fcI {s : Nat → Int32} {bv ov : Int32} {p B : Nat} (hB : B ≤ 9) : (nI (fcN s bv ov p B)).toInt = (fcN s bv ov p B : Int) := nI_toInt (by have := fcN_le s bv ov p B; omega)
theorem fbN_best {s : Nat → Int32} {bv ov : Int32} {P B : Nat} (hB : B ≤ 9) (hP : 0 < P) : fbN s B P bv ov < P ∧ (∀ j, j < P → fcN s bv ov j B ≤ fcN s bv ov (fbN s B P bv ov) B) ∧ ∀ j, j < fbN s B P bv ov → fcN s bv ov j B < fcN s bv ov (fbN s B P bv ov) B := by
  obtain ⟨n, rfl⟩ : ∃ n, P = n + 1 := ⟨P - 1, by omega⟩
  obtain ⟨a1, -, a3, a4⟩ := pbF_best (fun p => nI (fcN s bv ov p B)) (by rw [fa_le, i0, fcI hB]; omega) n
  refine ⟨a1, fun j hj => ?_, fun j hj => ?_⟩
  · have := a3 j hj
    rw [fcI hB, fcI hB] at this
    exact Int.ofNat_le.mp this
  · have := a4 j hj
    rw [fcI hB, fcI hB] at this
    exact Int.ofNat_lt.mp this
theorem lom_fbN {s : Nat → Int32} {bv ov : Int32} {P B : Nat} {v : Nat → Int32} (hB : B ≤ 9) (hP : 0 < P) (h : ∀ j, j < P → v j = nI (fcN s bv ov j B)) : lom v P = fbN s B P bv ov := by
  obtain ⟨a1, a3, a4⟩ := fbN_best (s := s) (bv := bv) (ov := ov) hB hP
  refine lom_one a1 (fun j hj => ?_) (fun j hj => ?_)
  · rw [h j hj, h _ a1, fcI hB, fcI hB]; exact Int.ofNat_le.mpr (a3 j hj)
  · rw [h j (by omega), h _ a1, fcI hB, fcI hB]; exact Int.ofNat_lt.mpr (a4 j hj)
theorem BOK.vp {s : Nat → Int32} {B P : Nat} (h : BOK s B P) (hP : P ≤ 5) : ∀ b, b < B → ∀ j, j < P → vp_in (s (5 * b + j)) 5 := fun b hb j hj => by
  have := h.2.1 b hb j hj
  rw [vp_in_iff] at this ⊢
  omega
theorem BOK.vp0 {s : Nat → Int32} {B P : Nat} (h : BOK s B P) (hP : P ≤ 5) (hP0 : 0 < P) : ∀ b, b < B → vp_in (s (5 * b)) 5 := fun b hb => h.vp hP b hb 0 hP0
theorem csw_iff {s v : Nat → Int32} {f now : Int32} {P : Nat} : ∀ (k i : Nat) (acc : Bool), csw s v f now P k i acc = true ↔ (acc = true ∨ ∃ j, i ≤ j ∧ j < i + k ∧ (∀ j', i ≤ j' → j' ≤ j → ¬ s j' = now) ∧ nI (lom (vsw v f (s j)) P) = s j) := by
  intro k
  induction k with
  | zero =>
    intro i acc
    rw [csw]
    exact ⟨Or.inl, fun h => h.elim id (fun ⟨j, h1, h2, _⟩ => by omega)⟩
  | succ k ih =>
    intro i acc
    rw [csw]
    by_cases h : s i = now
    · rw [if_pos h]
      exact ⟨Or.inl, fun h' => h'.elim id (fun ⟨j, h1, h2, h3, _⟩ => absurd h (h3 i (Nat.le_refl _) h1))⟩
    · rw [if_neg h, ih, Bool.or_eq_true, decide_eq_true_iff]
      constructor
      · rintro ((h1 | h1) | ⟨j, h1, h2, h3, h4⟩)
        · exact Or.inl h1
        · exact Or.inr ⟨i, Nat.le_refl _, by omega, fun j' a b => by rw [show j' = i by omega]; exact h, h1⟩
        · exact Or.inr ⟨j, by omega, by omega, fun j' a b => by
            by_cases e : j' = i
            · rw [e]; exact h
            · exact h3 j' (by omega) b, h4⟩
      · rintro (h1 | ⟨j, h1, h2, h3, h4⟩)
        · exact Or.inl (Or.inl h1)
        · by_cases e : j = i
          · subst e; exact Or.inl (Or.inr h4)
          · exact Or.inr ⟨j, by omega, by omega, fun j' a b => h3 j' (by omega) b, h4⟩
theorem swI_iff {s : Nat → Int32} {B P b : Nat} : ∀ p, swI s B P b p = true ↔ ∃ q, q < p ∧ plF s b (nI (fbN s B P (nI b) (nI q))) P 0 < plF s b (nI (fbN s B P (-1) 0)) P 0 := by
  intro p
  induction p with
  | zero => exact ⟨fun h => (by cases h), fun ⟨q, h, _⟩ => (by omega)⟩
  | succ p ih =>
    rw [swI, Bool.or_eq_true, decide_eq_true_iff, ih]
    constructor
    · rintro (⟨q, h1, h2⟩ | h)
      · exact ⟨q, by omega, h2⟩
      · exact ⟨p, Nat.lt_succ_self p, h⟩
    · rintro ⟨q, h1, h2⟩
      by_cases e : q = p
      · subst e; exact Or.inr h2
      · exact Or.inl ⟨q, by omega, h2⟩
theorem sw_eq {s : Nat → Int32} {B P b : Nat} (hB : B ≤ 9) (hP : P ≤ 5) (hO : BOK s B P) (hb : b < B) : bsw s B P b = swI s B P b P := by
  have hP0 : 0 < P := hO.2.2.resolve_left (by omega)
  have hs0 := hO.vp0 hP hP0
  have hnow : lom (vC s B) P = fbN s B P (-1) 0 := lom_fbN hB hP0 (fun j hj => vC_fc hB hs0 j (by omega))
  have hlv : ∀ p, p < P → lom (vsw (vC s B) (s (5 * b)) (nI p)) P = fbN s B P (nI b) (nI p) := fun p hp => lom_fbN hB hP0 (fun j hj => vsw_fc hB hs0 hb (by omega) (by omega))
  obtain ⟨n1, -, -⟩ := fbN_best (s := s) (bv := -1) (ov := 0) hB hP0
  obtain ⟨m1, m2, m3, m4⟩ := plF_lt s b (nI (fbN s B P (-1) 0)) P 0 (hO.1 b hb _ n1)
  rw [Bool.eq_iff_iff, swI_iff]
  unfold bsw
  rw [csw_iff, hnow]
  constructor
  · rintro (h | ⟨j, h1, h2, h3, h4⟩)
    · cases h
    · obtain ⟨p, hp, ep⟩ := vp_in_of (hO.2.1 b hb j (by omega)) (by omega)
      rw [ep, hlv p hp] at h4
      refine ⟨p, hp, ?_⟩
      obtain ⟨k1, k2, k3, k4⟩ := plF_lt s b (nI p) P 0 (hO.1 b hb p hp)
      rw [h4]
      have a1 : ¬ j < plF s b (nI p) P 0 := fun q => k4 j (by omega) q ep
      have a2 : ¬ plF s b (nI (fbN s B P (-1) 0)) P 0 ≤ j := fun q => h3 _ m2 q m3
      omega
  · rintro ⟨q, hq, h⟩
    obtain ⟨g1, g2, g3⟩ := fbN_best (s := s) (bv := nI b) (ov := nI q) hB hP0
    generalize em : fbN s B P (nI b) (nI q) = m at *
    obtain ⟨k1, k2, k3, k4⟩ := plF_lt s b (nI m) P 0 (hO.1 b hb m g1)
    refine Or.inr ⟨plF s b (nI m) P 0, k2, k1, fun j' a1 a2 e => ?_, ?_⟩
    · exact m4 j' a1 (by omega) e
    · show nI (lom (vsw (vC s B) (s (5 * b)) (s (5 * b + plF s b (nI m) P 0))) P) = s (5 * b + plF s b (nI m) P 0)
      rw [k3, hlv m g1]
      by_cases e : m = q
      · subst e; rw [em]
      · have hu : ∀ r, r < P → fcN s (nI b) (nI q) r B + (if m = r then 1 else 0) = fcN s (nI b) (nI m) r B + (if q = r then 1 else 0) := fun r hr => by
          have x1 := fcN_in (s := s) (ov := nI q) (q := r) hb hB
          have x2 := fcN_in (s := s) (ov := nI m) (q := r) hb hB
          have y1 : (if nI q = nI r then 1 else 0) = (if q = r then 1 else 0) := by
            by_cases e : q = r
            · rw [if_pos e, if_pos (by rw [e])]
            · rw [if_neg e, if_neg (fun h => e ((nIne (by omega) (by omega)).mp h))]
          have y2 : (if nI m = nI r then 1 else 0) = (if m = r then 1 else 0) := by
            by_cases e : m = r
            · rw [if_pos e, if_pos (by rw [e])]
            · rw [if_neg e, if_neg (fun h => e ((nIne (by omega) (by omega)).mp h))]
          omega
        congr 1
        have hm := hu m g1
        rw [if_pos rfl, if_neg (fun h => e h.symm)] at hm
        have hmx : ∀ j, j < P → ¬ j = m → fcN s (nI b) (nI m) j B < fcN s (nI b) (nI m) m B := fun j hj hne => by
          have x1 := hu j hj
          have x2 := g2 j hj
          rw [if_neg (fun h => hne h.symm)] at x1
          split at x1 <;> omega
        obtain ⟨f1, f2, f3⟩ := fbN_best (s := s) (bv := nI b) (ov := nI m) hB hP0
        by_cases e9 : fbN s B P (nI b) (nI m) = m
        · exact e9
        · have := hmx _ f1 e9
          have := f2 m g1
          omega
