theorem chk_4 : ∀ i, i < 32 → ∀ j, j < 32 → chk 4 (32 * i + j) = true := by decide +kernel
theorem chk_5a : ∀ i, i < 8 → ∀ j, j < 32 → chk 5 (32 * i + j) = true := by decide +kernel
theorem chk_5b : ∀ i, i < 8 → ∀ j, j < 32 → chk 5 (32 * (8 + i) + j) = true := by decide +kernel
theorem chk_5c : ∀ i, i < 8 → ∀ j, j < 32 → chk 5 (32 * (16 + i) + j) = true := by decide +kernel
theorem chk_5d : ∀ i, i < 8 → ∀ j, j < 32 → chk 5 (32 * (24 + i) + j) = true := by decide +kernel
theorem chk_5 : ∀ i, i < 32 → ∀ j, j < 32 → chk 5 (32 * i + j) = true := by
  intro i hi j hj
  rcases (show i < 8 ∨ (8 ≤ i ∧ i < 16) ∨ (16 ≤ i ∧ i < 24) ∨ 24 ≤ i by omega) with h | h | h | h
  · exact chk_5a i h j hj
  · have := chk_5b (i - 8) (by omega) j hj
    rw [show 8 + (i - 8) = i by omega] at this
    exact this
  · have := chk_5c (i - 16) (by omega) j hj
    rw [show 16 + (i - 16) = i by omega] at this
    exact this
  · have := chk_5d (i - 24) (by omega) j hj
    rw [show 24 + (i - 24) = i by omega] at this
    exact this
theorem chk_00 (c : Nat) : chk 0 c = true := rfl
theorem chk_all {P c : Nat} (hP : P ≤ 5) (hc : c < 1024) : chk P c = true := by
  have h1 : 32 * (c / 32) + c % 32 = c := Nat.div_add_mod c 32
  have h2 : c / 32 < 32 := by omega
  have h3 : c % 32 < 32 := by omega
  rw [← h1]
  rcases (show P = 0 ∨ P = 1 ∨ P = 2 ∨ P = 3 ∨ P = 4 ∨ P = 5 by omega) with e | e | e | e | e | e <;> subst e
  · exact chk_00 _
  · exact chk_1 _ h2 _ h3
  · exact chk_2 _ h2 _ h3
  · exact chk_3 _ h2 _ h3
  · exact chk_4 _ h2 _ h3
  · exact chk_5 _ h2 _ h3
theorem pair_eq {E : Nat → Nat → Bool} (hs : ∀ a b, E a b = E b a) {P : Nat} (hP : P ≤ 5) (f g : Nat → Int32) : mwM (mwV (lyO E P P 0 (0, f, g)) (-1)) (2 ^ (lyO E P P 0 (0, f, g)).1) = mmk E P (2 ^ P - 1) ∧ (if mmk E P (2 ^ P - 1) = 0 then none else prL E P (mmk E P (2 ^ P - 1)) P 0) = fpOut E (mmk E P (2 ^ P - 1)) P P 0 := by
  have hE : ∀ a b, a < P → b < P → ¬ a = b → E a b = gE (gC E) a b := fun a b ha hb hab => (gE_eq hs (by omega) (by omega) hab).symm
  have hr := Rep_all (E := E) (a := 0) hP (Nat.zero_le _) f g
  rw [Nat.sub_zero] at hr
  have hl : (plO E P P 0).length ≤ 10 := Nat.le_trans (len_O _ _ (by omega)) (tri_le (by omega))
  have hm : mmk E P (2 ^ P - 1) = mmk (gE (gC E)) P (2 ^ P - 1) := mmk_E P _ (fun a b ha hb => hE a b ha (by omega) (by omega))
  have hc := chk_all hP (gC_lt E)
  unfold chk at hc
  rw [Bool.and_eq_true, beq_iff_eq, beq_iff_eq] at hc
  rw [mw_eq hr hl (must := 99) (Or.inl ⟨by decide, by omega⟩), hm, plO_E hE P 0 (by omega), prL_E hE P 0 (by omega), fpOut_E hE P 0 (by omega)]
  exact hc
theorem eM_sym (τ δ : Nat → Nat → Int32) : ∀ a b, eM τ δ a b = eM τ δ b a := fun a b => by
  unfold eM
  cases decide (bo (τ 2 a) (nI b) = 1) <;> cases decide (bo (τ 2 b) (nI a) = 1) <;> cases decide (δ 8 a = -1) <;> cases decide (δ 8 b = -1) <;> rfl
theorem kPairs_eq {τ δ : Nat → Nat → Int32} {P : Nat} (hP : P ≤ 5) (f g : Nat → Int32) (w : Int32) : kPairs τ δ P w = mPairs (eM τ δ) P f g w := by
  obtain ⟨h1, h2⟩ := pair_eq (eM_sym τ δ) hP f g
  unfold kPairs mPairs
  by_cases hw : inB w 3 = true
  · rw [if_pos hw, if_pos hw]
    by_cases e : w = 0
    · rw [if_pos e, if_pos e, h1]; rfl
    · rw [if_neg e, if_neg e, h1]
      unfold coP coM
      rw [← h2]
      by_cases z : mmk (eM τ δ) P (2 ^ P - 1) = 0
      · rw [if_pos z, if_pos z]
        split <;> rfl
      · rw [if_neg z, if_neg z, prO_pr hP w P 0 _ (Nat.zero_add P)]
        cases prL (eM τ δ) P (mmk (eM τ δ) P (2 ^ P - 1)) P 0 with
        | none => split <;> rfl
        | some x =>
          show (if w = 1 then nI x.1 else nI x.2) = if w = 1 then nI x.1 else nI x.2
          rfl
  · rw [if_neg hw, if_neg hw]
