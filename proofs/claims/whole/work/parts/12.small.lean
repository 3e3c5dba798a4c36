/-- a boolean answer -/
def xB (P : Prop) (r : Option Value) : Prop := (P ∧ some (.int 1) = r) ∨ (¬ P ∧ some (.int 0) = r)
theorem xin {x : Int32} {N : Nat} (hN : N < 2 ^ 31) : vp_in x N ↔ ¬ x < 0 ∧ ¬ nI N ≤ x := by
  rw [vp_in_iff, fa_lt, fa_le, nI_toInt hN]
  have h0 : (0 : Int32).toInt = 0 := rfl
  rw [h0]
  omega
theorem xle_nlt {x y : Int32} : ¬ x < y ↔ y ≤ x := by rw [fa_lt, fa_le]; omega
theorem xlt_nle {x y : Int32} : ¬ x ≤ y ↔ y < x := by rw [fa_lt, fa_le]; omega
set_option maxHeartbeats 4000000 in
set_option maxRecDepth 100000 in
theorem c_bitOf {n : Nat} {M : Nat → xE} {a b : Int32} : xMet mX10_bitOf [.int a, .int b] n M (fun r M' => M = M' ∧ some (.int ((a >>> (b &&& 31)) &&& 1)) = r) := by
  refine xMet.of _ (by decide) rfl (Nat.le_of_ble_eq_true rfl) ?_
  refine x_iload_n (q := 1) dX10_bitOf_0 rfl rfl ?_
  refine x_iload_n (q := 2) dX10_bitOf_1 rfl rfl ?_
  refine x_ishr (q := 3) dX10_bitOf_2 rfl ?_
  refine x_iconst (v := 1) (q := 4) dX10_bitOf_3 rfl (by decide) ?_
  refine x_iand (q := 5) dX10_bitOf_4 rfl ?_
  refine x_iret dX10_bitOf_5 rfl rfl (Nat.le_refl _) ?_
  exact ⟨rfl, rfl⟩

set_option maxHeartbeats 4000000 in
set_option maxRecDepth 100000 in
theorem c_isOutside {n : Nat} {M : Nat → xE} {a b c : Int32} : xMet mX10_isOutside [.int a, .int b, .int c] n M (fun r M' => M = M' ∧ xB (a < b ∨ c < a) r) := by
  refine xMet.of _ (by decide) rfl (Nat.le_of_ble_eq_true rfl) ?_
  refine x_iload_n (q := 1) dX10_isOutside_0 rfl rfl ?_
  refine x_iload_n (q := 2) dX10_isOutside_1 rfl rfl ?_
  refine x_icmp_lt (t := 10) (q := 5) dX10_isOutside_2 (by decide) rfl (fun c2 => ?_) (fun c2 => ?_)
  · refine x_iconst (v := 1) (q := 11) dX10_isOutside_10 rfl (by decide) ?_
    refine x_goto (q := 15) dX10_isOutside_11 (by decide) ?_
    refine x_zret dX10_isOutside_15 rfl rfl rfl (Nat.le_refl _) ?_
    exact ⟨rfl, Or.inl ⟨Or.inl c2, rfl⟩⟩
  · refine x_iload_n (q := 6) dX10_isOutside_5 rfl rfl ?_
    refine x_iload_n (q := 7) dX10_isOutside_6 rfl rfl ?_
    refine x_icmp_le (t := 14) (q := 10) dX10_isOutside_7 (by decide) rfl (fun c7 => ?_) (fun c7 => ?_)
    · refine x_iconst (v := 0) (q := 15) dX10_isOutside_14 rfl (by decide) ?_
      refine x_zret dX10_isOutside_15 rfl rfl rfl (Nat.le_refl _) ?_
      exact ⟨rfl, Or.inr ⟨by exact fun h => h.elim (fun h => c2 h) (fun h => (xle_nlt.mpr c7) h), rfl⟩⟩
    · refine x_iconst (v := 1) (q := 11) dX10_isOutside_10 rfl (by decide) ?_
      refine x_goto (q := 15) dX10_isOutside_11 (by decide) ?_
      refine x_zret dX10_isOutside_15 rfl rfl rfl (Nat.le_refl _) ?_
      exact ⟨rfl, Or.inl ⟨Or.inr (xlt_nle.mp c7), rfl⟩⟩

set_option maxHeartbeats 4000000 in
set_option maxRecDepth 100000 in
theorem c_isNoWorld {n : Nat} {M : Nat → xE} {a : Int32} : xMet mX10_isNoWorld [.int a] n M (fun r M' => M = M' ∧ xB (¬ vp_in a 4) r) := by
  refine xMet.of _ (by decide) rfl (Nat.le_of_ble_eq_true rfl) ?_
  refine x_iload_n (q := 1) dX10_isNoWorld_0 rfl rfl ?_
  refine x_if_lt (t := 9) (q := 4) dX10_isNoWorld_1 (by decide) rfl (fun c1 => ?_) (fun c1 => ?_)
  · refine x_iconst (v := 1) (q := 10) dX10_isNoWorld_9 rfl (by decide) ?_
    refine x_goto (q := 14) dX10_isNoWorld_10 (by decide) ?_
    refine x_zret dX10_isNoWorld_14 rfl rfl rfl (Nat.le_refl _) ?_
    exact ⟨rfl, Or.inl ⟨fun h => ((xin (by decide)).mp h).1 c1, rfl⟩⟩
  · refine x_iload_n (q := 5) dX10_isNoWorld_4 rfl rfl ?_
    refine x_iconst (v := 4) (q := 6) dX10_isNoWorld_5 rfl (by decide) ?_
    refine x_icmp_lt (t := 13) (q := 9) dX10_isNoWorld_6 (by decide) rfl (fun c6 => ?_) (fun c6 => ?_)
    · refine x_iconst (v := 0) (q := 14) dX10_isNoWorld_13 rfl (by decide) ?_
      refine x_zret dX10_isNoWorld_14 rfl rfl rfl (Nat.le_refl _) ?_
      exact ⟨rfl, Or.inr ⟨fun h => h ((xin (by decide)).mpr ⟨c1, xlt_nle.mpr c6⟩), rfl⟩⟩
    · refine x_iconst (v := 1) (q := 10) dX10_isNoWorld_9 rfl (by decide) ?_
      refine x_goto (q := 14) dX10_isNoWorld_10 (by decide) ?_
      refine x_zret dX10_isNoWorld_14 rfl rfl rfl (Nat.le_refl _) ?_
      exact ⟨rfl, Or.inl ⟨fun h => ((xin (by decide)).mp h).2 (xle_nlt.mp c6), rfl⟩⟩
