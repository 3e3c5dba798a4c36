set_option maxHeartbeats 4000000 in
set_option maxRecDepth 100000 in
theorem c_X3_init {M : Nat → xE} {p : Nat} (h0 : M p = .inr (3, [.int 0, .int 0, .int 0, .int 0, .int 0, .int 0, .int 0, .null, .null, .null])) : xMet mX3_init [.ref p] (p + 1) M (fun r M' => none = r ∧ oX3 p (fun _ _ => 0) M' ∧ ∀ j, j < p → M' j = M j) := by
  have hiX3 : ∀ w ∈ wsX30, w ∈ wsX3_init := by decide +kernel
  refine xMet.of _ (by decide) rfl (Nat.le_of_ble_eq_true rfl) ?_
  refine x_aload_n (q := 1) dX3_init_0 rfl rfl ?_
  refine x_obj (q := 4) (by decide +kernel) (by decide +kernel) (by decide +kernel) dX3_init_1 rfl (by decide) (Nat.le_of_ble_eq_true rfl) ?_
  refine x_aload_n (q := 5) dX3_init_4 rfl rfl ?_
  refine x_iconst (v := 5) (q := 6) dX3_init_5 rfl (by decide) ?_
  refine x_newI (N := 5) (q := 8) (by decide +kernel) (by decide) (by decide) (Nat.le_of_ble_eq_true rfl) ⟨by decide, by decide⟩ dX3_init_6 rfl (fun M6_0 w6_0 o6_0 => ?_)
  have w6_0 : M6_0 (p + 1) = .inl (0, 5, .inl (fun _ => 0)) := w6_0
  have o6_0 : ∀ j, j ≠ (p + 1) → M6_0 j = M j := o6_0
  have hv1_1_p := ((o6_0 (p) (by omega)).trans h0)
  refine x_putF (C := RX3) (T := TX3) (N := 10) (k := 7) (q := 11) (ty := .array .int) tyX3_ok nmX3 hv1_1_p (by omega) rfl hiX3 (by decide) (by decide +kernel) rfl (by decide +kernel) rfl (by decide +kernel) (fun _ => rfl) (fun _ => rfl) (Nat.le_of_ble_eq_true rfl) dX3_init_8 rfl (fun M8 w8 o8 => ?_)
  refine x_aload_n (q := 12) dX3_init_11 rfl rfl ?_
  refine x_iconst (v := 5) (q := 13) dX3_init_12 rfl (by decide) ?_
  refine x_newI (N := 5) (q := 15) (by decide +kernel) (by decide) (by decide) (Nat.le_of_ble_eq_true rfl) ⟨by decide, by decide⟩ dX3_init_13 rfl (fun M13_2 w13_2 o13_2 => ?_)
  have w13_2 : M13_2 (p + 2) = .inl (0, 5, .inl (fun _ => 0)) := w13_2
  have o13_2 : ∀ j, j ≠ (p + 2) → M13_2 j = M8 j := o13_2
  have hv3_2_p := ((o13_2 (p) (by omega)).trans w8)
  refine x_putF (C := RX3) (T := TX3) (N := 10) (k := 8) (q := 18) (ty := .array .int) tyX3_ok nmX3 hv3_2_p (by omega) rfl hiX3 (by decide) (by decide +kernel) rfl (by decide +kernel) rfl (by decide +kernel) (fun _ => rfl) (fun _ => rfl) (Nat.le_of_ble_eq_true rfl) dX3_init_15 rfl (fun M15 w15 o15 => ?_)
  refine x_aload_n (q := 19) dX3_init_18 rfl rfl ?_
  refine x_bipush (v := 6) (q := 21) dX3_init_19 rfl (by decide) ?_
  refine x_newI (N := 6) (q := 23) (by decide +kernel) (by decide) (by decide) (Nat.le_of_ble_eq_true rfl) ⟨by decide, by decide⟩ dX3_init_21 rfl (fun M21_4 w21_4 o21_4 => ?_)
  have w21_4 : M21_4 (p + 3) = .inl (0, 6, .inl (fun _ => 0)) := w21_4
  have o21_4 : ∀ j, j ≠ (p + 3) → M21_4 j = M15 j := o21_4
  have hv5_3_p := ((o21_4 (p) (by omega)).trans w15)
  refine x_putF (C := RX3) (T := TX3) (N := 10) (k := 9) (q := 26) (ty := .array .int) tyX3_ok nmX3 hv5_3_p (by omega) rfl hiX3 (by decide) (by decide +kernel) rfl (by decide +kernel) rfl (by decide +kernel) (fun _ => rfl) (fun _ => rfl) (Nat.le_of_ble_eq_true rfl) dX3_init_23 rfl (fun M23 w23 o23 => ?_)
  refine x_vret dX3_init_26 rfl rfl (Nat.le_refl _) ?_
  have hv6_4_p1 := ((o23 (p + 1) (by omega)).trans ((o21_4 (p + 1) (by omega)).trans ((o15 (p + 1) (by omega)).trans ((o13_2 (p + 1) (by omega)).trans ((o8 (p + 1) (by omega)).trans w6_0)))))
  have hv6_5_p2 := ((o23 (p + 2) (by omega)).trans ((o21_4 (p + 2) (by omega)).trans ((o15 (p + 2) (by omega)).trans w13_2)))
  have hv6_6_p3 := ((o23 (p + 3) (by omega)).trans w21_4)
  exact ⟨rfl, ⟨w23, hv6_4_p1, hv6_5_p2, hv6_6_p3⟩, (fun j hj => ((o23 j (by omega)).trans ((o21_4 j (by omega)).trans ((o15 j (by omega)).trans ((o13_2 j (by omega)).trans ((o8 j (by omega)).trans ((o6_0 j (by omega)).trans rfl)))))))⟩

set_option maxHeartbeats 4000000 in
set_option maxRecDepth 100000 in
theorem c_X6_init {M : Nat → xE} {p : Nat} (h0 : M p = .inr (6, [.int 0, .int 0, .int 0, .null, .null, .null, .null, .null, .null, .null])) : xMet mX6_init [.ref p] (p + 1) M (fun r M' => none = r ∧ oX6 p (fun _ _ => 0) M' ∧ ∀ j, j < p → M' j = M j) := by
  have hiX6 : ∀ w ∈ wsX60, w ∈ wsX6_init := by decide +kernel
  refine xMet.of _ (by decide) rfl (Nat.le_of_ble_eq_true rfl) ?_
  refine x_aload_n (q := 1) dX6_init_0 rfl rfl ?_
  refine x_obj (q := 4) (by decide +kernel) (by decide +kernel) (by decide +kernel) dX6_init_1 rfl (by decide) (Nat.le_of_ble_eq_true rfl) ?_
  refine x_aload_n (q := 5) dX6_init_4 rfl rfl ?_
  refine x_iconst (v := 5) (q := 6) dX6_init_5 rfl (by decide) ?_
  refine x_newI (N := 5) (q := 8) (by decide +kernel) (by decide) (by decide) (Nat.le_of_ble_eq_true rfl) ⟨by decide, by decide⟩ dX6_init_6 rfl (fun M6_0 w6_0 o6_0 => ?_)
  have w6_0 : M6_0 (p + 1) = .inl (0, 5, .inl (fun _ => 0)) := w6_0
  have o6_0 : ∀ j, j ≠ (p + 1) → M6_0 j = M j := o6_0
  have hv1_1_p := ((o6_0 (p) (by omega)).trans h0)
  refine x_putF (C := RX6) (T := TX6) (N := 10) (k := 3) (q := 11) (ty := .array .int) tyX6_ok nmX6 hv1_1_p (by omega) rfl hiX6 (by decide) (by decide +kernel) rfl (by decide +kernel) rfl (by decide +kernel) (fun _ => rfl) (fun _ => rfl) (Nat.le_of_ble_eq_true rfl) dX6_init_8 rfl (fun M8 w8 o8 => ?_)
  refine x_aload_n (q := 12) dX6_init_11 rfl rfl ?_
  refine x_iconst (v := 5) (q := 13) dX6_init_12 rfl (by decide) ?_
  refine x_newI (N := 5) (q := 15) (by decide +kernel) (by decide) (by decide) (Nat.le_of_ble_eq_true rfl) ⟨by decide, by decide⟩ dX6_init_13 rfl (fun M13_2 w13_2 o13_2 => ?_)
  have w13_2 : M13_2 (p + 2) = .inl (0, 5, .inl (fun _ => 0)) := w13_2
  have o13_2 : ∀ j, j ≠ (p + 2) → M13_2 j = M8 j := o13_2
  have hv3_2_p := ((o13_2 (p) (by omega)).trans w8)
  refine x_putF (C := RX6) (T := TX6) (N := 10) (k := 4) (q := 18) (ty := .array .int) tyX6_ok nmX6 hv3_2_p (by omega) rfl hiX6 (by decide) (by decide +kernel) rfl (by decide +kernel) rfl (by decide +kernel) (fun _ => rfl) (fun _ => rfl) (Nat.le_of_ble_eq_true rfl) dX6_init_15 rfl (fun M15 w15 o15 => ?_)
  refine x_aload_n (q := 19) dX6_init_18 rfl rfl ?_
  refine x_bipush (v := 6) (q := 21) dX6_init_19 rfl (by decide) ?_
  refine x_newI (N := 6) (q := 23) (by decide +kernel) (by decide) (by decide) (Nat.le_of_ble_eq_true rfl) ⟨by decide, by decide⟩ dX6_init_21 rfl (fun M21_4 w21_4 o21_4 => ?_)
  have w21_4 : M21_4 (p + 3) = .inl (0, 6, .inl (fun _ => 0)) := w21_4
  have o21_4 : ∀ j, j ≠ (p + 3) → M21_4 j = M15 j := o21_4
  have hv5_3_p := ((o21_4 (p) (by omega)).trans w15)
  refine x_putF (C := RX6) (T := TX6) (N := 10) (k := 5) (q := 26) (ty := .array .int) tyX6_ok nmX6 hv5_3_p (by omega) rfl hiX6 (by decide) (by decide +kernel) rfl (by decide +kernel) rfl (by decide +kernel) (fun _ => rfl) (fun _ => rfl) (Nat.le_of_ble_eq_true rfl) dX6_init_23 rfl (fun M23 w23 o23 => ?_)
  refine x_aload_n (q := 27) dX6_init_26 rfl rfl ?_
  refine x_bipush (v := 64) (q := 29) dX6_init_27 rfl (by decide) ?_
  refine x_newI (N := 64) (q := 31) (by decide +kernel) (by decide) (by decide) (Nat.le_of_ble_eq_true rfl) ⟨by decide, by decide⟩ dX6_init_29 rfl (fun M29_6 w29_6 o29_6 => ?_)
  have w29_6 : M29_6 (p + 4) = .inl (0, 64, .inl (fun _ => 0)) := w29_6
  have o29_6 : ∀ j, j ≠ (p + 4) → M29_6 j = M23 j := o29_6
  have hv7_4_p := ((o29_6 (p) (by omega)).trans w23)
  refine x_putF (C := RX6) (T := TX6) (N := 10) (k := 6) (q := 34) (ty := .array .int) tyX6_ok nmX6 hv7_4_p (by omega) rfl hiX6 (by decide) (by decide +kernel) rfl (by decide +kernel) rfl (by decide +kernel) (fun _ => rfl) (fun _ => rfl) (Nat.le_of_ble_eq_true rfl) dX6_init_31 rfl (fun M31 w31 o31 => ?_)
  refine x_aload_n (q := 35) dX6_init_34 rfl rfl ?_
  refine x_bipush (v := 64) (q := 37) dX6_init_35 rfl (by decide) ?_
  refine x_newI (N := 64) (q := 39) (by decide +kernel) (by decide) (by decide) (Nat.le_of_ble_eq_true rfl) ⟨by decide, by decide⟩ dX6_init_37 rfl (fun M37_8 w37_8 o37_8 => ?_)
  have w37_8 : M37_8 (p + 5) = .inl (0, 64, .inl (fun _ => 0)) := w37_8
  have o37_8 : ∀ j, j ≠ (p + 5) → M37_8 j = M31 j := o37_8
  have hv9_5_p := ((o37_8 (p) (by omega)).trans w31)
  refine x_putF (C := RX6) (T := TX6) (N := 10) (k := 7) (q := 42) (ty := .array .int) tyX6_ok nmX6 hv9_5_p (by omega) rfl hiX6 (by decide) (by decide +kernel) rfl (by decide +kernel) rfl (by decide +kernel) (fun _ => rfl) (fun _ => rfl) (Nat.le_of_ble_eq_true rfl) dX6_init_39 rfl (fun M39 w39 o39 => ?_)
  refine x_aload_n (q := 43) dX6_init_42 rfl rfl ?_
  refine x_bipush (v := 64) (q := 45) dX6_init_43 rfl (by decide) ?_
  refine x_newI (N := 64) (q := 47) (by decide +kernel) (by decide) (by decide) (Nat.le_of_ble_eq_true rfl) ⟨by decide, by decide⟩ dX6_init_45 rfl (fun M45_10 w45_10 o45_10 => ?_)
  have w45_10 : M45_10 (p + 6) = .inl (0, 64, .inl (fun _ => 0)) := w45_10
  have o45_10 : ∀ j, j ≠ (p + 6) → M45_10 j = M39 j := o45_10
  have hv11_6_p := ((o45_10 (p) (by omega)).trans w39)
  refine x_putF (C := RX6) (T := TX6) (N := 10) (k := 8) (q := 50) (ty := .array .int) tyX6_ok nmX6 hv11_6_p (by omega) rfl hiX6 (by decide) (by decide +kernel) rfl (by decide +kernel) rfl (by decide +kernel) (fun _ => rfl) (fun _ => rfl) (Nat.le_of_ble_eq_true rfl) dX6_init_47 rfl (fun M47 w47 o47 => ?_)
  refine x_aload_n (q := 51) dX6_init_50 rfl rfl ?_
  refine x_bipush (v := 64) (q := 53) dX6_init_51 rfl (by decide) ?_
  refine x_newI (N := 64) (q := 55) (by decide +kernel) (by decide) (by decide) (Nat.le_of_ble_eq_true rfl) ⟨by decide, by decide⟩ dX6_init_53 rfl (fun M53_12 w53_12 o53_12 => ?_)
  have w53_12 : M53_12 (p + 7) = .inl (0, 64, .inl (fun _ => 0)) := w53_12
  have o53_12 : ∀ j, j ≠ (p + 7) → M53_12 j = M47 j := o53_12
  have hv13_7_p := ((o53_12 (p) (by omega)).trans w47)
  refine x_putF (C := RX6) (T := TX6) (N := 10) (k := 9) (q := 58) (ty := .array .int) tyX6_ok nmX6 hv13_7_p (by omega) rfl hiX6 (by decide) (by decide +kernel) rfl (by decide +kernel) rfl (by decide +kernel) (fun _ => rfl) (fun _ => rfl) (Nat.le_of_ble_eq_true rfl) dX6_init_55 rfl (fun M55 w55 o55 => ?_)
  refine x_vret dX6_init_58 rfl rfl (Nat.le_refl _) ?_
  have hv14_8_p1 := ((o55 (p + 1) (by omega)).trans ((o53_12 (p + 1) (by omega)).trans ((o47 (p + 1) (by omega)).trans ((o45_10 (p + 1) (by omega)).trans ((o39 (p + 1) (by omega)).trans ((o37_8 (p + 1) (by omega)).trans ((o31 (p + 1) (by omega)).trans ((o29_6 (p + 1) (by omega)).trans ((o23 (p + 1) (by omega)).trans ((o21_4 (p + 1) (by omega)).trans ((o15 (p + 1) (by omega)).trans ((o13_2 (p + 1) (by omega)).trans ((o8 (p + 1) (by omega)).trans w6_0)))))))))))))
  have hv14_9_p2 := ((o55 (p + 2) (by omega)).trans ((o53_12 (p + 2) (by omega)).trans ((o47 (p + 2) (by omega)).trans ((o45_10 (p + 2) (by omega)).trans ((o39 (p + 2) (by omega)).trans ((o37_8 (p + 2) (by omega)).trans ((o31 (p + 2) (by omega)).trans ((o29_6 (p + 2) (by omega)).trans ((o23 (p + 2) (by omega)).trans ((o21_4 (p + 2) (by omega)).trans ((o15 (p + 2) (by omega)).trans w13_2)))))))))))
  have hv14_10_p3 := ((o55 (p + 3) (by omega)).trans ((o53_12 (p + 3) (by omega)).trans ((o47 (p + 3) (by omega)).trans ((o45_10 (p + 3) (by omega)).trans ((o39 (p + 3) (by omega)).trans ((o37_8 (p + 3) (by omega)).trans ((o31 (p + 3) (by omega)).trans ((o29_6 (p + 3) (by omega)).trans ((o23 (p + 3) (by omega)).trans w21_4)))))))))
  have hv14_11_p4 := ((o55 (p + 4) (by omega)).trans ((o53_12 (p + 4) (by omega)).trans ((o47 (p + 4) (by omega)).trans ((o45_10 (p + 4) (by omega)).trans ((o39 (p + 4) (by omega)).trans ((o37_8 (p + 4) (by omega)).trans ((o31 (p + 4) (by omega)).trans w29_6)))))))
  have hv14_12_p5 := ((o55 (p + 5) (by omega)).trans ((o53_12 (p + 5) (by omega)).trans ((o47 (p + 5) (by omega)).trans ((o45_10 (p + 5) (by omega)).trans ((o39 (p + 5) (by omega)).trans w37_8)))))
  have hv14_13_p6 := ((o55 (p + 6) (by omega)).trans ((o53_12 (p + 6) (by omega)).trans ((o47 (p + 6) (by omega)).trans w45_10)))
  have hv14_14_p7 := ((o55 (p + 7) (by omega)).trans w53_12)
  exact ⟨rfl, ⟨w55, hv14_8_p1, hv14_9_p2, hv14_10_p3, hv14_11_p4, hv14_12_p5, hv14_13_p6, hv14_14_p7⟩, (fun j hj => ((o55 j (by omega)).trans ((o53_12 j (by omega)).trans ((o47 j (by omega)).trans ((o45_10 j (by omega)).trans ((o39 j (by omega)).trans ((o37_8 j (by omega)).trans ((o31 j (by omega)).trans ((o29_6 j (by omega)).trans ((o23 j (by omega)).trans ((o21_4 j (by omega)).trans ((o15 j (by omega)).trans ((o13_2 j (by omega)).trans ((o8 j (by omega)).trans ((o6_0 j (by omega)).trans rfl)))))))))))))))⟩

set_option maxHeartbeats 4000000 in
set_option maxRecDepth 100000 in
theorem c_X4_init {M : Nat → xE} {p : Nat} (h0 : M p = .inr (4, [.int 0, .int 0, .int 0, .null, .null])) : xMet mX4_init [.ref p] (p + 1) M (fun r M' => none = r ∧ oX4 p (fun _ _ => 0) M' ∧ ∀ j, j < p → M' j = M j) := by
  have hiX4 : ∀ w ∈ wsX40, w ∈ wsX4_init := by decide +kernel
  refine xMet.of _ (by decide) rfl (Nat.le_of_ble_eq_true rfl) ?_
  refine x_aload_n (q := 1) dX4_init_0 rfl rfl ?_
  refine x_obj (q := 4) (by decide +kernel) (by decide +kernel) (by decide +kernel) dX4_init_1 rfl (by decide) (Nat.le_of_ble_eq_true rfl) ?_
  refine x_aload_n (q := 5) dX4_init_4 rfl rfl ?_
  refine x_bipush (v := 45) (q := 7) dX4_init_5 rfl (by decide) ?_
  refine x_newI (N := 45) (q := 9) (by decide +kernel) (by decide) (by decide) (Nat.le_of_ble_eq_true rfl) ⟨by decide, by decide⟩ dX4_init_7 rfl (fun M7_0 w7_0 o7_0 => ?_)
  have w7_0 : M7_0 (p + 1) = .inl (0, 45, .inl (fun _ => 0)) := w7_0
  have o7_0 : ∀ j, j ≠ (p + 1) → M7_0 j = M j := o7_0
  have hv1_1_p := ((o7_0 (p) (by omega)).trans h0)
  refine x_putF (C := RX4) (T := TX4) (N := 5) (k := 3) (q := 12) (ty := .array .int) tyX4_ok nmX4 hv1_1_p (by omega) rfl hiX4 (by decide) (by decide +kernel) rfl (by decide +kernel) rfl (by decide +kernel) (fun _ => rfl) (fun _ => rfl) (Nat.le_of_ble_eq_true rfl) dX4_init_9 rfl (fun M9 w9 o9 => ?_)
  refine x_aload_n (q := 13) dX4_init_12 rfl rfl ?_
  refine x_bipush (v := 32) (q := 15) dX4_init_13 rfl (by decide) ?_
  refine x_newI (N := 32) (q := 17) (by decide +kernel) (by decide) (by decide) (Nat.le_of_ble_eq_true rfl) ⟨by decide, by decide⟩ dX4_init_15 rfl (fun M15_2 w15_2 o15_2 => ?_)
  have w15_2 : M15_2 (p + 2) = .inl (0, 32, .inl (fun _ => 0)) := w15_2
  have o15_2 : ∀ j, j ≠ (p + 2) → M15_2 j = M9 j := o15_2
  have hv3_2_p := ((o15_2 (p) (by omega)).trans w9)
  refine x_putF (C := RX4) (T := TX4) (N := 5) (k := 4) (q := 20) (ty := .array .int) tyX4_ok nmX4 hv3_2_p (by omega) rfl hiX4 (by decide) (by decide +kernel) rfl (by decide +kernel) rfl (by decide +kernel) (fun _ => rfl) (fun _ => rfl) (Nat.le_of_ble_eq_true rfl) dX4_init_17 rfl (fun M17 w17 o17 => ?_)
  refine x_vret dX4_init_20 rfl rfl (Nat.le_refl _) ?_
  have hv4_3_p1 := ((o17 (p + 1) (by omega)).trans ((o15_2 (p + 1) (by omega)).trans ((o9 (p + 1) (by omega)).trans w7_0)))
  have hv4_4_p2 := ((o17 (p + 2) (by omega)).trans w15_2)
  exact ⟨rfl, ⟨w17, hv4_3_p1, hv4_4_p2⟩, (fun j hj => ((o17 j (by omega)).trans ((o15_2 j (by omega)).trans ((o9 j (by omega)).trans ((o7_0 j (by omega)).trans rfl)))))⟩

set_option maxHeartbeats 4000000 in
set_option maxRecDepth 100000 in
theorem c_X1_init {M : Nat → xE} {p : Nat} (h0 : M p = .inr (1, [.int 0, .null, .null, .null, .null, .null, .null])) : xMet mX1_init [.ref p] (p + 1) M (fun r M' => none = r ∧ oX1 p (fun _ _ => 0) (fun _ _ => 0) M' ∧ ∀ j, j < p → M' j = M j) := by
  have hiX1 : ∀ w ∈ wsX10, w ∈ wsX1_init := by decide +kernel
  refine xMet.of _ (by decide) rfl (Nat.le_of_ble_eq_true rfl) ?_
  refine x_aload_n (q := 1) dX1_init_0 rfl rfl ?_
  refine x_obj (q := 4) (by decide +kernel) (by decide +kernel) (by decide +kernel) dX1_init_1 rfl (by decide) (Nat.le_of_ble_eq_true rfl) ?_
  refine x_aload_n (q := 5) dX1_init_4 rfl rfl ?_
  refine x_bipush (v := 6) (q := 7) dX1_init_5 rfl (by decide) ?_
  refine x_newI (N := 6) (q := 9) (by decide +kernel) (by decide) (by decide) (Nat.le_of_ble_eq_true rfl) ⟨by decide, by decide⟩ dX1_init_7 rfl (fun M7_0 w7_0 o7_0 => ?_)
  have w7_0 : M7_0 (p + 1) = .inl (0, 6, .inl (fun _ => 0)) := w7_0
  have o7_0 : ∀ j, j ≠ (p + 1) → M7_0 j = M j := o7_0
  have hv1_1_p := ((o7_0 (p) (by omega)).trans h0)
  refine x_putF (C := RX1) (T := TX1) (N := 7) (k := 1) (q := 12) (ty := .array .int) tyX1_ok nmX1 hv1_1_p (by omega) rfl hiX1 (by decide) (by decide +kernel) rfl (by decide +kernel) rfl (by decide +kernel) (fun _ => rfl) (fun _ => rfl) (Nat.le_of_ble_eq_true rfl) dX1_init_9 rfl (fun M9 w9 o9 => ?_)
  refine x_aload_n (q := 13) dX1_init_12 rfl rfl ?_
  refine x_bipush (v := 6) (q := 15) dX1_init_13 rfl (by decide) ?_
  refine x_newI (N := 6) (q := 17) (by decide +kernel) (by decide) (by decide) (Nat.le_of_ble_eq_true rfl) ⟨by decide, by decide⟩ dX1_init_15 rfl (fun M15_2 w15_2 o15_2 => ?_)
  have w15_2 : M15_2 (p + 2) = .inl (0, 6, .inl (fun _ => 0)) := w15_2
  have o15_2 : ∀ j, j ≠ (p + 2) → M15_2 j = M9 j := o15_2
  have hv3_2_p := ((o15_2 (p) (by omega)).trans w9)
  refine x_putF (C := RX1) (T := TX1) (N := 7) (k := 2) (q := 20) (ty := .array .int) tyX1_ok nmX1 hv3_2_p (by omega) rfl hiX1 (by decide) (by decide +kernel) rfl (by decide +kernel) rfl (by decide +kernel) (fun _ => rfl) (fun _ => rfl) (Nat.le_of_ble_eq_true rfl) dX1_init_17 rfl (fun M17 w17 o17 => ?_)
  refine x_aload_n (q := 21) dX1_init_20 rfl rfl ?_
  refine x_bipush (v := 6) (q := 23) dX1_init_21 rfl (by decide) ?_
  refine x_newI (N := 6) (q := 25) (by decide +kernel) (by decide) (by decide) (Nat.le_of_ble_eq_true rfl) ⟨by decide, by decide⟩ dX1_init_23 rfl (fun M23_4 w23_4 o23_4 => ?_)
  have w23_4 : M23_4 (p + 3) = .inl (0, 6, .inl (fun _ => 0)) := w23_4
  have o23_4 : ∀ j, j ≠ (p + 3) → M23_4 j = M17 j := o23_4
  have hv5_3_p := ((o23_4 (p) (by omega)).trans w17)
  refine x_putF (C := RX1) (T := TX1) (N := 7) (k := 3) (q := 28) (ty := .array .int) tyX1_ok nmX1 hv5_3_p (by omega) rfl hiX1 (by decide) (by decide +kernel) rfl (by decide +kernel) rfl (by decide +kernel) (fun _ => rfl) (fun _ => rfl) (Nat.le_of_ble_eq_true rfl) dX1_init_25 rfl (fun M25 w25 o25 => ?_)
  refine x_aload_n (q := 29) dX1_init_28 rfl rfl ?_
  refine x_iconst (v := 4) (q := 30) dX1_init_29 rfl (by decide) ?_
  refine x_newJ (N := 4) (q := 32) (by decide +kernel) (by decide) (by decide) (Nat.le_of_ble_eq_true rfl) ⟨by decide, by decide⟩ dX1_init_30 rfl (fun M30_6 w30_6 o30_6 => ?_)
  have w30_6 : M30_6 (p + 4) = .inl (1, 4, .inr (.inl (fun _ => 0))) := w30_6
  have o30_6 : ∀ j, j ≠ (p + 4) → M30_6 j = M25 j := o30_6
  have hv7_4_p := ((o30_6 (p) (by omega)).trans w25)
  refine x_putF (C := RX1) (T := TX1) (N := 7) (k := 4) (q := 35) (ty := .array .long) tyX1_ok nmX1 hv7_4_p (by omega) rfl hiX1 (by decide) (by decide +kernel) rfl (by decide +kernel) rfl (by decide +kernel) (fun _ => rfl) (fun _ => rfl) (Nat.le_of_ble_eq_true rfl) dX1_init_32 rfl (fun M32 w32 o32 => ?_)
  refine x_aload_n (q := 36) dX1_init_35 rfl rfl ?_
  refine x_iconst (v := 4) (q := 37) dX1_init_36 rfl (by decide) ?_
  refine x_newJ (N := 4) (q := 39) (by decide +kernel) (by decide) (by decide) (Nat.le_of_ble_eq_true rfl) ⟨by decide, by decide⟩ dX1_init_37 rfl (fun M37_8 w37_8 o37_8 => ?_)
  have w37_8 : M37_8 (p + 5) = .inl (1, 4, .inr (.inl (fun _ => 0))) := w37_8
  have o37_8 : ∀ j, j ≠ (p + 5) → M37_8 j = M32 j := o37_8
  have hv9_5_p := ((o37_8 (p) (by omega)).trans w32)
  refine x_putF (C := RX1) (T := TX1) (N := 7) (k := 5) (q := 42) (ty := .array .long) tyX1_ok nmX1 hv9_5_p (by omega) rfl hiX1 (by decide) (by decide +kernel) rfl (by decide +kernel) rfl (by decide +kernel) (fun _ => rfl) (fun _ => rfl) (Nat.le_of_ble_eq_true rfl) dX1_init_39 rfl (fun M39 w39 o39 => ?_)
  refine x_aload_n (q := 43) dX1_init_42 rfl rfl ?_
  refine x_iconst (v := 4) (q := 44) dX1_init_43 rfl (by decide) ?_
  refine x_newJ (N := 4) (q := 46) (by decide +kernel) (by decide) (by decide) (Nat.le_of_ble_eq_true rfl) ⟨by decide, by decide⟩ dX1_init_44 rfl (fun M44_10 w44_10 o44_10 => ?_)
  have w44_10 : M44_10 (p + 6) = .inl (1, 4, .inr (.inl (fun _ => 0))) := w44_10
  have o44_10 : ∀ j, j ≠ (p + 6) → M44_10 j = M39 j := o44_10
  have hv11_6_p := ((o44_10 (p) (by omega)).trans w39)
  refine x_putF (C := RX1) (T := TX1) (N := 7) (k := 6) (q := 49) (ty := .array .long) tyX1_ok nmX1 hv11_6_p (by omega) rfl hiX1 (by decide) (by decide +kernel) rfl (by decide +kernel) rfl (by decide +kernel) (fun _ => rfl) (fun _ => rfl) (Nat.le_of_ble_eq_true rfl) dX1_init_46 rfl (fun M46 w46 o46 => ?_)
  refine x_vret dX1_init_49 rfl rfl (Nat.le_refl _) ?_
  have hv12_7_p1 := ((o46 (p + 1) (by omega)).trans ((o44_10 (p + 1) (by omega)).trans ((o39 (p + 1) (by omega)).trans ((o37_8 (p + 1) (by omega)).trans ((o32 (p + 1) (by omega)).trans ((o30_6 (p + 1) (by omega)).trans ((o25 (p + 1) (by omega)).trans ((o23_4 (p + 1) (by omega)).trans ((o17 (p + 1) (by omega)).trans ((o15_2 (p + 1) (by omega)).trans ((o9 (p + 1) (by omega)).trans w7_0)))))))))))
  have hv12_8_p2 := ((o46 (p + 2) (by omega)).trans ((o44_10 (p + 2) (by omega)).trans ((o39 (p + 2) (by omega)).trans ((o37_8 (p + 2) (by omega)).trans ((o32 (p + 2) (by omega)).trans ((o30_6 (p + 2) (by omega)).trans ((o25 (p + 2) (by omega)).trans ((o23_4 (p + 2) (by omega)).trans ((o17 (p + 2) (by omega)).trans w15_2)))))))))
  have hv12_9_p3 := ((o46 (p + 3) (by omega)).trans ((o44_10 (p + 3) (by omega)).trans ((o39 (p + 3) (by omega)).trans ((o37_8 (p + 3) (by omega)).trans ((o32 (p + 3) (by omega)).trans ((o30_6 (p + 3) (by omega)).trans ((o25 (p + 3) (by omega)).trans w23_4)))))))
  have hv12_10_p4 := ((o46 (p + 4) (by omega)).trans ((o44_10 (p + 4) (by omega)).trans ((o39 (p + 4) (by omega)).trans ((o37_8 (p + 4) (by omega)).trans ((o32 (p + 4) (by omega)).trans w30_6)))))
  have hv12_11_p5 := ((o46 (p + 5) (by omega)).trans ((o44_10 (p + 5) (by omega)).trans ((o39 (p + 5) (by omega)).trans w37_8)))
  have hv12_12_p6 := ((o46 (p + 6) (by omega)).trans w44_10)
  exact ⟨rfl, ⟨w46, hv12_7_p1, hv12_8_p2, hv12_9_p3, hv12_10_p4, hv12_11_p5, hv12_12_p6⟩, (fun j hj => ((o46 j (by omega)).trans ((o44_10 j (by omega)).trans ((o39 j (by omega)).trans ((o37_8 j (by omega)).trans ((o32 j (by omega)).trans ((o30_6 j (by omega)).trans ((o25 j (by omega)).trans ((o23_4 j (by omega)).trans ((o17 j (by omega)).trans ((o15_2 j (by omega)).trans ((o9 j (by omega)).trans ((o7_0 j (by omega)).trans rfl)))))))))))))⟩

set_option maxHeartbeats 4000000 in
set_option maxRecDepth 100000 in
theorem c_X2_init {M : Nat → xE} {p : Nat} (h0 : M p = .inr (2, [.int 0, .int 0, .int 0, .null, .null])) : xMet mX2_init [.ref p] (p + 1) M (fun r M' => none = r ∧ oX2 p (fun _ _ => 0) M' ∧ ∀ j, j < p → M' j = M j) := by
  have hiX2 : ∀ w ∈ wsX20, w ∈ wsX2_init := by decide +kernel
  refine xMet.of _ (by decide) rfl (Nat.le_of_ble_eq_true rfl) ?_
  refine x_aload_n (q := 1) dX2_init_0 rfl rfl ?_
  refine x_obj (q := 4) (by decide +kernel) (by decide +kernel) (by decide +kernel) dX2_init_1 rfl (by decide) (Nat.le_of_ble_eq_true rfl) ?_
  refine x_aload_n (q := 5) dX2_init_4 rfl rfl ?_
  refine x_iconst (v := 5) (q := 6) dX2_init_5 rfl (by decide) ?_
  refine x_newI (N := 5) (q := 8) (by decide +kernel) (by decide) (by decide) (Nat.le_of_ble_eq_true rfl) ⟨by decide, by decide⟩ dX2_init_6 rfl (fun M6_0 w6_0 o6_0 => ?_)
  have w6_0 : M6_0 (p + 1) = .inl (0, 5, .inl (fun _ => 0)) := w6_0
  have o6_0 : ∀ j, j ≠ (p + 1) → M6_0 j = M j := o6_0
  have hv1_1_p := ((o6_0 (p) (by omega)).trans h0)
  refine x_putF (C := RX2) (T := TX2) (N := 5) (k := 3) (q := 11) (ty := .array .int) tyX2_ok nmX2 hv1_1_p (by omega) rfl hiX2 (by decide) (by decide +kernel) rfl (by decide +kernel) rfl (by decide +kernel) (fun _ => rfl) (fun _ => rfl) (Nat.le_of_ble_eq_true rfl) dX2_init_8 rfl (fun M8 w8 o8 => ?_)
  refine x_aload_n (q := 12) dX2_init_11 rfl rfl ?_
  refine x_bipush (v := 32) (q := 14) dX2_init_12 rfl (by decide) ?_
  refine x_newI (N := 32) (q := 16) (by decide +kernel) (by decide) (by decide) (Nat.le_of_ble_eq_true rfl) ⟨by decide, by decide⟩ dX2_init_14 rfl (fun M14_2 w14_2 o14_2 => ?_)
  have w14_2 : M14_2 (p + 2) = .inl (0, 32, .inl (fun _ => 0)) := w14_2
  have o14_2 : ∀ j, j ≠ (p + 2) → M14_2 j = M8 j := o14_2
  have hv3_2_p := ((o14_2 (p) (by omega)).trans w8)
  refine x_putF (C := RX2) (T := TX2) (N := 5) (k := 4) (q := 19) (ty := .array .int) tyX2_ok nmX2 hv3_2_p (by omega) rfl hiX2 (by decide) (by decide +kernel) rfl (by decide +kernel) rfl (by decide +kernel) (fun _ => rfl) (fun _ => rfl) (Nat.le_of_ble_eq_true rfl) dX2_init_16 rfl (fun M16 w16 o16 => ?_)
  refine x_vret dX2_init_19 rfl rfl (Nat.le_refl _) ?_
  have hv4_3_p1 := ((o16 (p + 1) (by omega)).trans ((o14_2 (p + 1) (by omega)).trans ((o8 (p + 1) (by omega)).trans w6_0)))
  have hv4_4_p2 := ((o16 (p + 2) (by omega)).trans w14_2)
  exact ⟨rfl, ⟨w16, hv4_3_p1, hv4_4_p2⟩, (fun j hj => ((o16 j (by omega)).trans ((o14_2 j (by omega)).trans ((o8 j (by omega)).trans ((o6_0 j (by omega)).trans rfl)))))⟩

set_option maxHeartbeats 4000000 in
set_option maxRecDepth 100000 in
theorem c_X9_init {M : Nat → xE} {p : Nat} (h0 : M p = .inr (9, [.int 0, .null])) : xMet mX9_init [.ref p] (p + 1) M (fun r M' => none = r ∧ oX9 p (fun _ _ => 0) M' ∧ ∀ j, j < p → M' j = M j) := by
  have hiX9 : ∀ w ∈ wsX90, w ∈ wsX9_init := by decide +kernel
  refine xMet.of _ (by decide) rfl (Nat.le_of_ble_eq_true rfl) ?_
  refine x_aload_n (q := 1) dX9_init_0 rfl rfl ?_
  refine x_obj (q := 4) (by decide +kernel) (by decide +kernel) (by decide +kernel) dX9_init_1 rfl (by decide) (Nat.le_of_ble_eq_true rfl) ?_
  refine x_aload_n (q := 5) dX9_init_4 rfl rfl ?_
  refine x_bipush (v := 6) (q := 7) dX9_init_5 rfl (by decide) ?_
  refine x_newI (N := 6) (q := 9) (by decide +kernel) (by decide) (by decide) (Nat.le_of_ble_eq_true rfl) ⟨by decide, by decide⟩ dX9_init_7 rfl (fun M7_0 w7_0 o7_0 => ?_)
  have w7_0 : M7_0 (p + 1) = .inl (0, 6, .inl (fun _ => 0)) := w7_0
  have o7_0 : ∀ j, j ≠ (p + 1) → M7_0 j = M j := o7_0
  have hv1_1_p := ((o7_0 (p) (by omega)).trans h0)
  refine x_putF (C := RX9) (T := TX9) (N := 2) (k := 1) (q := 12) (ty := .array .int) tyX9_ok nmX9 hv1_1_p (by omega) rfl hiX9 (by decide) (by decide +kernel) rfl (by decide +kernel) rfl (by decide +kernel) (fun _ => rfl) (fun _ => rfl) (Nat.le_of_ble_eq_true rfl) dX9_init_9 rfl (fun M9 w9 o9 => ?_)
  refine x_vret dX9_init_12 rfl rfl (Nat.le_refl _) ?_
  have hv2_2_p1 := ((o9 (p + 1) (by omega)).trans w7_0)
  exact ⟨rfl, ⟨w9, hv2_2_p1⟩, (fun j hj => ((o9 j (by omega)).trans ((o7_0 j (by omega)).trans rfl)))⟩

set_option maxHeartbeats 4000000 in
set_option maxRecDepth 100000 in
theorem c_X0_init {M : Nat → xE} {p : Nat} (h0 : M p = .inr (0, [.int 0, .null, .null, .null])) : xMet mX0_init [.ref p] (p + 1) M (fun r M' => none = r ∧ oX0 p (fun _ _ => 0) M' ∧ ∀ j, j < p → M' j = M j) := by
  have hiX0 : ∀ w ∈ wsX00, w ∈ wsX0_init := by decide +kernel
  refine xMet.of _ (by decide) rfl (Nat.le_of_ble_eq_true rfl) ?_
  refine x_aload_n (q := 1) dX0_init_0 rfl rfl ?_
  refine x_obj (q := 4) (by decide +kernel) (by decide +kernel) (by decide +kernel) dX0_init_1 rfl (by decide) (Nat.le_of_ble_eq_true rfl) ?_
  refine x_aload_n (q := 5) dX0_init_4 rfl rfl ?_
  refine x_bipush (v := 45) (q := 7) dX0_init_5 rfl (by decide) ?_
  refine x_newI (N := 45) (q := 9) (by decide +kernel) (by decide) (by decide) (Nat.le_of_ble_eq_true rfl) ⟨by decide, by decide⟩ dX0_init_7 rfl (fun M7_0 w7_0 o7_0 => ?_)
  have w7_0 : M7_0 (p + 1) = .inl (0, 45, .inl (fun _ => 0)) := w7_0
  have o7_0 : ∀ j, j ≠ (p + 1) → M7_0 j = M j := o7_0
  have hv1_1_p := ((o7_0 (p) (by omega)).trans h0)
  refine x_putF (C := RX0) (T := TX0) (N := 4) (k := 1) (q := 12) (ty := .array .int) tyX0_ok nmX0 hv1_1_p (by omega) rfl hiX0 (by decide) (by decide +kernel) rfl (by decide +kernel) rfl (by decide +kernel) (fun _ => rfl) (fun _ => rfl) (Nat.le_of_ble_eq_true rfl) dX0_init_9 rfl (fun M9 w9 o9 => ?_)
  refine x_aload_n (q := 13) dX0_init_12 rfl rfl ?_
  refine x_iconst (v := 5) (q := 14) dX0_init_13 rfl (by decide) ?_
  refine x_newI (N := 5) (q := 16) (by decide +kernel) (by decide) (by decide) (Nat.le_of_ble_eq_true rfl) ⟨by decide, by decide⟩ dX0_init_14 rfl (fun M14_2 w14_2 o14_2 => ?_)
  have w14_2 : M14_2 (p + 2) = .inl (0, 5, .inl (fun _ => 0)) := w14_2
  have o14_2 : ∀ j, j ≠ (p + 2) → M14_2 j = M9 j := o14_2
  have hv3_2_p := ((o14_2 (p) (by omega)).trans w9)
  refine x_putF (C := RX0) (T := TX0) (N := 4) (k := 2) (q := 19) (ty := .array .int) tyX0_ok nmX0 hv3_2_p (by omega) rfl hiX0 (by decide) (by decide +kernel) rfl (by decide +kernel) rfl (by decide +kernel) (fun _ => rfl) (fun _ => rfl) (Nat.le_of_ble_eq_true rfl) dX0_init_16 rfl (fun M16 w16 o16 => ?_)
  refine x_aload_n (q := 20) dX0_init_19 rfl rfl ?_
  refine x_iconst (v := 5) (q := 21) dX0_init_20 rfl (by decide) ?_
  refine x_newI (N := 5) (q := 23) (by decide +kernel) (by decide) (by decide) (Nat.le_of_ble_eq_true rfl) ⟨by decide, by decide⟩ dX0_init_21 rfl (fun M21_4 w21_4 o21_4 => ?_)
  have w21_4 : M21_4 (p + 3) = .inl (0, 5, .inl (fun _ => 0)) := w21_4
  have o21_4 : ∀ j, j ≠ (p + 3) → M21_4 j = M16 j := o21_4
  have hv5_3_p := ((o21_4 (p) (by omega)).trans w16)
  refine x_putF (C := RX0) (T := TX0) (N := 4) (k := 3) (q := 26) (ty := .array .int) tyX0_ok nmX0 hv5_3_p (by omega) rfl hiX0 (by decide) (by decide +kernel) rfl (by decide +kernel) rfl (by decide +kernel) (fun _ => rfl) (fun _ => rfl) (Nat.le_of_ble_eq_true rfl) dX0_init_23 rfl (fun M23 w23 o23 => ?_)
  refine x_vret dX0_init_26 rfl rfl (Nat.le_refl _) ?_
  have hv6_4_p1 := ((o23 (p + 1) (by omega)).trans ((o21_4 (p + 1) (by omega)).trans ((o16 (p + 1) (by omega)).trans ((o14_2 (p + 1) (by omega)).trans ((o9 (p + 1) (by omega)).trans w7_0)))))
  have hv6_5_p2 := ((o23 (p + 2) (by omega)).trans ((o21_4 (p + 2) (by omega)).trans ((o16 (p + 2) (by omega)).trans w14_2)))
  have hv6_6_p3 := ((o23 (p + 3) (by omega)).trans w21_4)
  exact ⟨rfl, ⟨w23, hv6_4_p1, hv6_5_p2, hv6_6_p3⟩, (fun j hj => ((o23 j (by omega)).trans ((o21_4 j (by omega)).trans ((o16 j (by omega)).trans ((o14_2 j (by omega)).trans ((o9 j (by omega)).trans ((o7_0 j (by omega)).trans rfl)))))))⟩

set_option maxHeartbeats 4000000 in
set_option maxRecDepth 100000 in
theorem c_X8_init {M : Nat → xE} {p : Nat} (h0 : M p = .inr (8, [.int 0, .null, .null, .int 0, .null, .null, .null, .null, .int 0, .int 0, .null, .null, .int 0, .null, .null])) : xMet mX8_init [.ref p] (p + 1) M (fun r M' => none = r ∧ oX8 p (tNone (fun _ _ => 0)) M' ∧ ∀ j, j < p → M' j = M j) := by
  have hiX8 : ∀ w ∈ wsX80, w ∈ wsX8_init := by decide +kernel
  refine xMet.of _ (by decide) rfl (Nat.le_of_ble_eq_true rfl) ?_
  refine x_aload_n (q := 1) dX8_init_0 rfl rfl ?_
  refine x_obj (q := 4) (by decide +kernel) (by decide +kernel) (by decide +kernel) dX8_init_1 rfl (by decide) (Nat.le_of_ble_eq_true rfl) ?_
  refine x_aload_n (q := 5) dX8_init_4 rfl rfl ?_
  refine x_iconst (v := 5) (q := 6) dX8_init_5 rfl (by decide) ?_
  refine x_newI (N := 5) (q := 8) (by decide +kernel) (by decide) (by decide) (Nat.le_of_ble_eq_true rfl) ⟨by decide, by decide⟩ dX8_init_6 rfl (fun M6_0 w6_0 o6_0 => ?_)
  have w6_0 : M6_0 (p + 1) = .inl (0, 5, .inl (fun _ => 0)) := w6_0
  have o6_0 : ∀ j, j ≠ (p + 1) → M6_0 j = M j := o6_0
  have hv1_1_p := ((o6_0 (p) (by omega)).trans h0)
  refine x_putF (C := RX8) (T := TX8) (N := 15) (k := 1) (q := 11) (ty := .array .int) tyX8_ok nmX8 hv1_1_p (by omega) rfl hiX8 (by decide) (by decide +kernel) rfl (by decide +kernel) rfl (by decide +kernel) (fun _ => rfl) (fun _ => rfl) (Nat.le_of_ble_eq_true rfl) dX8_init_8 rfl (fun M8 w8 o8 => ?_)
  refine x_aload_n (q := 12) dX8_init_11 rfl rfl ?_
  refine x_iconst (v := 5) (q := 13) dX8_init_12 rfl (by decide) ?_
  refine x_newI (N := 5) (q := 15) (by decide +kernel) (by decide) (by decide) (Nat.le_of_ble_eq_true rfl) ⟨by decide, by decide⟩ dX8_init_13 rfl (fun M13_2 w13_2 o13_2 => ?_)
  have w13_2 : M13_2 (p + 2) = .inl (0, 5, .inl (fun _ => 0)) := w13_2
  have o13_2 : ∀ j, j ≠ (p + 2) → M13_2 j = M8 j := o13_2
  have hv3_2_p := ((o13_2 (p) (by omega)).trans w8)
  refine x_putF (C := RX8) (T := TX8) (N := 15) (k := 2) (q := 18) (ty := .array .int) tyX8_ok nmX8 hv3_2_p (by omega) rfl hiX8 (by decide) (by decide +kernel) rfl (by decide +kernel) rfl (by decide +kernel) (fun _ => rfl) (fun _ => rfl) (Nat.le_of_ble_eq_true rfl) dX8_init_15 rfl (fun M15 w15 o15 => ?_)
  refine x_aload_n (q := 19) dX8_init_18 rfl rfl ?_
  refine x_bipush (v := 6) (q := 21) dX8_init_19 rfl (by decide) ?_
  refine x_newI (N := 6) (q := 23) (by decide +kernel) (by decide) (by decide) (Nat.le_of_ble_eq_true rfl) ⟨by decide, by decide⟩ dX8_init_21 rfl (fun M21_4 w21_4 o21_4 => ?_)
  have w21_4 : M21_4 (p + 3) = .inl (0, 6, .inl (fun _ => 0)) := w21_4
  have o21_4 : ∀ j, j ≠ (p + 3) → M21_4 j = M15 j := o21_4
  have hv5_3_p := ((o21_4 (p) (by omega)).trans w15)
  refine x_putF (C := RX8) (T := TX8) (N := 15) (k := 4) (q := 26) (ty := .array .int) tyX8_ok nmX8 hv5_3_p (by omega) rfl hiX8 (by decide) (by decide +kernel) rfl (by decide +kernel) rfl (by decide +kernel) (fun _ => rfl) (fun _ => rfl) (Nat.le_of_ble_eq_true rfl) dX8_init_23 rfl (fun M23 w23 o23 => ?_)
  refine x_aload_n (q := 27) dX8_init_26 rfl rfl ?_
  refine x_bipush (v := 6) (q := 29) dX8_init_27 rfl (by decide) ?_
  refine x_newI (N := 6) (q := 31) (by decide +kernel) (by decide) (by decide) (Nat.le_of_ble_eq_true rfl) ⟨by decide, by decide⟩ dX8_init_29 rfl (fun M29_6 w29_6 o29_6 => ?_)
  have w29_6 : M29_6 (p + 4) = .inl (0, 6, .inl (fun _ => 0)) := w29_6
  have o29_6 : ∀ j, j ≠ (p + 4) → M29_6 j = M23 j := o29_6
  have hv7_4_p := ((o29_6 (p) (by omega)).trans w23)
  refine x_putF (C := RX8) (T := TX8) (N := 15) (k := 5) (q := 34) (ty := .array .int) tyX8_ok nmX8 hv7_4_p (by omega) rfl hiX8 (by decide) (by decide +kernel) rfl (by decide +kernel) rfl (by decide +kernel) (fun _ => rfl) (fun _ => rfl) (Nat.le_of_ble_eq_true rfl) dX8_init_31 rfl (fun M31 w31 o31 => ?_)
  refine x_aload_n (q := 35) dX8_init_34 rfl rfl ?_
  refine x_bipush (v := 6) (q := 37) dX8_init_35 rfl (by decide) ?_
  refine x_newI (N := 6) (q := 39) (by decide +kernel) (by decide) (by decide) (Nat.le_of_ble_eq_true rfl) ⟨by decide, by decide⟩ dX8_init_37 rfl (fun M37_8 w37_8 o37_8 => ?_)
  have w37_8 : M37_8 (p + 5) = .inl (0, 6, .inl (fun _ => 0)) := w37_8
  have o37_8 : ∀ j, j ≠ (p + 5) → M37_8 j = M31 j := o37_8
  have hv9_5_p := ((o37_8 (p) (by omega)).trans w31)
  refine x_putF (C := RX8) (T := TX8) (N := 15) (k := 6) (q := 42) (ty := .array .int) tyX8_ok nmX8 hv9_5_p (by omega) rfl hiX8 (by decide) (by decide +kernel) rfl (by decide +kernel) rfl (by decide +kernel) (fun _ => rfl) (fun _ => rfl) (Nat.le_of_ble_eq_true rfl) dX8_init_39 rfl (fun M39 w39 o39 => ?_)
  refine x_aload_n (q := 43) dX8_init_42 rfl rfl ?_
  refine x_bipush (v := 6) (q := 45) dX8_init_43 rfl (by decide) ?_
  refine x_newI (N := 6) (q := 47) (by decide +kernel) (by decide) (by decide) (Nat.le_of_ble_eq_true rfl) ⟨by decide, by decide⟩ dX8_init_45 rfl (fun M45_10 w45_10 o45_10 => ?_)
  have w45_10 : M45_10 (p + 6) = .inl (0, 6, .inl (fun _ => 0)) := w45_10
  have o45_10 : ∀ j, j ≠ (p + 6) → M45_10 j = M39 j := o45_10
  have hv11_6_p := ((o45_10 (p) (by omega)).trans w39)
  refine x_putF (C := RX8) (T := TX8) (N := 15) (k := 7) (q := 50) (ty := .array .int) tyX8_ok nmX8 hv11_6_p (by omega) rfl hiX8 (by decide) (by decide +kernel) rfl (by decide +kernel) rfl (by decide +kernel) (fun _ => rfl) (fun _ => rfl) (Nat.le_of_ble_eq_true rfl) dX8_init_47 rfl (fun M47 w47 o47 => ?_)
  refine x_aload_n (q := 51) dX8_init_50 rfl rfl ?_
  refine x_iconst (v := 5) (q := 52) dX8_init_51 rfl (by decide) ?_
  refine x_newI (N := 5) (q := 54) (by decide +kernel) (by decide) (by decide) (Nat.le_of_ble_eq_true rfl) ⟨by decide, by decide⟩ dX8_init_52 rfl (fun M52_12 w52_12 o52_12 => ?_)
  have w52_12 : M52_12 (p + 7) = .inl (0, 5, .inl (fun _ => 0)) := w52_12
  have o52_12 : ∀ j, j ≠ (p + 7) → M52_12 j = M47 j := o52_12
  have hv13_7_p := ((o52_12 (p) (by omega)).trans w47)
  refine x_putF (C := RX8) (T := TX8) (N := 15) (k := 10) (q := 57) (ty := .array .int) tyX8_ok nmX8 hv13_7_p (by omega) rfl hiX8 (by decide) (by decide +kernel) rfl (by decide +kernel) rfl (by decide +kernel) (fun _ => rfl) (fun _ => rfl) (Nat.le_of_ble_eq_true rfl) dX8_init_54 rfl (fun M54 w54 o54 => ?_)
  refine x_aload_n (q := 58) dX8_init_57 rfl rfl ?_
  refine x_iconst (v := 5) (q := 59) dX8_init_58 rfl (by decide) ?_
  refine x_newI (N := 5) (q := 61) (by decide +kernel) (by decide) (by decide) (Nat.le_of_ble_eq_true rfl) ⟨by decide, by decide⟩ dX8_init_59 rfl (fun M59_14 w59_14 o59_14 => ?_)
  have w59_14 : M59_14 (p + 8) = .inl (0, 5, .inl (fun _ => 0)) := w59_14
  have o59_14 : ∀ j, j ≠ (p + 8) → M59_14 j = M54 j := o59_14
  have hv15_8_p := ((o59_14 (p) (by omega)).trans w54)
  refine x_putF (C := RX8) (T := TX8) (N := 15) (k := 11) (q := 64) (ty := .array .int) tyX8_ok nmX8 hv15_8_p (by omega) rfl hiX8 (by decide) (by decide +kernel) rfl (by decide +kernel) rfl (by decide +kernel) (fun _ => rfl) (fun _ => rfl) (Nat.le_of_ble_eq_true rfl) dX8_init_61 rfl (fun M61 w61 o61 => ?_)
  refine x_aload_n (q := 65) dX8_init_64 rfl rfl ?_
  refine x_iconst (v := 4) (q := 66) dX8_init_65 rfl (by decide) ?_
  refine x_newI (N := 4) (q := 68) (by decide +kernel) (by decide) (by decide) (Nat.le_of_ble_eq_true rfl) ⟨by decide, by decide⟩ dX8_init_66 rfl (fun M66_16 w66_16 o66_16 => ?_)
  have w66_16 : M66_16 (p + 9) = .inl (0, 4, .inl (fun _ => 0)) := w66_16
  have o66_16 : ∀ j, j ≠ (p + 9) → M66_16 j = M61 j := o66_16
  have hv17_9_p := ((o66_16 (p) (by omega)).trans w61)
  refine x_putF (C := RX8) (T := TX8) (N := 15) (k := 13) (q := 71) (ty := .array .int) tyX8_ok nmX8 hv17_9_p (by omega) rfl hiX8 (by decide) (by decide +kernel) rfl (by decide +kernel) rfl (by decide +kernel) (fun _ => rfl) (fun _ => rfl) (Nat.le_of_ble_eq_true rfl) dX8_init_68 rfl (fun M68 w68 o68 => ?_)
  refine x_aload_n (q := 72) dX8_init_71 rfl rfl ?_
  refine x_iconst (v := 4) (q := 73) dX8_init_72 rfl (by decide) ?_
  refine x_newI (N := 4) (q := 75) (by decide +kernel) (by decide) (by decide) (Nat.le_of_ble_eq_true rfl) ⟨by decide, by decide⟩ dX8_init_73 rfl (fun M73_18 w73_18 o73_18 => ?_)
  have w73_18 : M73_18 (p + 10) = .inl (0, 4, .inl (fun _ => 0)) := w73_18
  have o73_18 : ∀ j, j ≠ (p + 10) → M73_18 j = M68 j := o73_18
  have hv19_10_p := ((o73_18 (p) (by omega)).trans w68)
  refine x_putF (C := RX8) (T := TX8) (N := 15) (k := 14) (q := 78) (ty := .array .int) tyX8_ok nmX8 hv19_10_p (by omega) rfl hiX8 (by decide) (by decide +kernel) rfl (by decide +kernel) rfl (by decide +kernel) (fun _ => rfl) (fun _ => rfl) (Nat.le_of_ble_eq_true rfl) dX8_init_75 rfl (fun M75 w75 o75 => ?_)
  refine x_aload_n (q := 79) dX8_init_78 rfl rfl ?_
  have hv20_11_p1 := ((o75 (p + 1) (by omega)).trans ((o73_18 (p + 1) (by omega)).trans ((o68 (p + 1) (by omega)).trans ((o66_16 (p + 1) (by omega)).trans ((o61 (p + 1) (by omega)).trans ((o59_14 (p + 1) (by omega)).trans ((o54 (p + 1) (by omega)).trans ((o52_12 (p + 1) (by omega)).trans ((o47 (p + 1) (by omega)).trans ((o45_10 (p + 1) (by omega)).trans ((o39 (p + 1) (by omega)).trans ((o37_8 (p + 1) (by omega)).trans ((o31 (p + 1) (by omega)).trans ((o29_6 (p + 1) (by omega)).trans ((o23 (p + 1) (by omega)).trans ((o21_4 (p + 1) (by omega)).trans ((o15 (p + 1) (by omega)).trans ((o13_2 (p + 1) (by omega)).trans ((o8 (p + 1) (by omega)).trans w6_0)))))))))))))))))))
  have hv20_12_p2 := ((o75 (p + 2) (by omega)).trans ((o73_18 (p + 2) (by omega)).trans ((o68 (p + 2) (by omega)).trans ((o66_16 (p + 2) (by omega)).trans ((o61 (p + 2) (by omega)).trans ((o59_14 (p + 2) (by omega)).trans ((o54 (p + 2) (by omega)).trans ((o52_12 (p + 2) (by omega)).trans ((o47 (p + 2) (by omega)).trans ((o45_10 (p + 2) (by omega)).trans ((o39 (p + 2) (by omega)).trans ((o37_8 (p + 2) (by omega)).trans ((o31 (p + 2) (by omega)).trans ((o29_6 (p + 2) (by omega)).trans ((o23 (p + 2) (by omega)).trans ((o21_4 (p + 2) (by omega)).trans ((o15 (p + 2) (by omega)).trans w13_2)))))))))))))))))
  have hv20_13_p3 := ((o75 (p + 3) (by omega)).trans ((o73_18 (p + 3) (by omega)).trans ((o68 (p + 3) (by omega)).trans ((o66_16 (p + 3) (by omega)).trans ((o61 (p + 3) (by omega)).trans ((o59_14 (p + 3) (by omega)).trans ((o54 (p + 3) (by omega)).trans ((o52_12 (p + 3) (by omega)).trans ((o47 (p + 3) (by omega)).trans ((o45_10 (p + 3) (by omega)).trans ((o39 (p + 3) (by omega)).trans ((o37_8 (p + 3) (by omega)).trans ((o31 (p + 3) (by omega)).trans ((o29_6 (p + 3) (by omega)).trans ((o23 (p + 3) (by omega)).trans w21_4)))))))))))))))
  have hv20_14_p4 := ((o75 (p + 4) (by omega)).trans ((o73_18 (p + 4) (by omega)).trans ((o68 (p + 4) (by omega)).trans ((o66_16 (p + 4) (by omega)).trans ((o61 (p + 4) (by omega)).trans ((o59_14 (p + 4) (by omega)).trans ((o54 (p + 4) (by omega)).trans ((o52_12 (p + 4) (by omega)).trans ((o47 (p + 4) (by omega)).trans ((o45_10 (p + 4) (by omega)).trans ((o39 (p + 4) (by omega)).trans ((o37_8 (p + 4) (by omega)).trans ((o31 (p + 4) (by omega)).trans w29_6)))))))))))))
  have hv20_15_p5 := ((o75 (p + 5) (by omega)).trans ((o73_18 (p + 5) (by omega)).trans ((o68 (p + 5) (by omega)).trans ((o66_16 (p + 5) (by omega)).trans ((o61 (p + 5) (by omega)).trans ((o59_14 (p + 5) (by omega)).trans ((o54 (p + 5) (by omega)).trans ((o52_12 (p + 5) (by omega)).trans ((o47 (p + 5) (by omega)).trans ((o45_10 (p + 5) (by omega)).trans ((o39 (p + 5) (by omega)).trans w37_8)))))))))))
  have hv20_16_p6 := ((o75 (p + 6) (by omega)).trans ((o73_18 (p + 6) (by omega)).trans ((o68 (p + 6) (by omega)).trans ((o66_16 (p + 6) (by omega)).trans ((o61 (p + 6) (by omega)).trans ((o59_14 (p + 6) (by omega)).trans ((o54 (p + 6) (by omega)).trans ((o52_12 (p + 6) (by omega)).trans ((o47 (p + 6) (by omega)).trans w45_10)))))))))
  have hv20_17_p7 := ((o75 (p + 7) (by omega)).trans ((o73_18 (p + 7) (by omega)).trans ((o68 (p + 7) (by omega)).trans ((o66_16 (p + 7) (by omega)).trans ((o61 (p + 7) (by omega)).trans ((o59_14 (p + 7) (by omega)).trans ((o54 (p + 7) (by omega)).trans w52_12)))))))
  have hv20_18_p8 := ((o75 (p + 8) (by omega)).trans ((o73_18 (p + 8) (by omega)).trans ((o68 (p + 8) (by omega)).trans ((o66_16 (p + 8) (by omega)).trans ((o61 (p + 8) (by omega)).trans w59_14)))))
  have hv20_19_p9 := ((o75 (p + 9) (by omega)).trans ((o73_18 (p + 9) (by omega)).trans ((o68 (p + 9) (by omega)).trans w66_16)))
  have hv20_20_p10 := ((o75 (p + 10) (by omega)).trans w73_18)
  have hT9 : oX8 p (fun _ _ => 0) M75 := ⟨w75, hv20_11_p1, hv20_12_p2, hv20_13_p3, hv20_14_p4, hv20_15_p5, hv20_16_p6, hv20_17_p7, hv20_18_p8, hv20_19_p9, hv20_20_p10⟩
  refine x_callV (q := 82) (ci := 8) (c_Told_none (p := p) (by omega) hT9) eX8_init_42 gX8_init_X8_tellNothing w75 (by omega) rfl rfl rfl (Nat.le_of_ble_eq_true rfl) ⟨by decide, by decide⟩ dX8_init_79 rfl rfl (fun r79 M79 p79 => ?_)
  obtain ⟨rfl, hV, frV⟩ := p79
  refine x_vret dX8_init_82 rfl rfl (Nat.le_refl _) ?_
  exact ⟨rfl, hV, fun j hj => (frV j (by omega)).trans ((o75 j (by omega)).trans ((o73_18 j (by omega)).trans ((o68 j (by omega)).trans ((o66_16 j (by omega)).trans ((o61 j (by omega)).trans ((o59_14 j (by omega)).trans ((o54 j (by omega)).trans ((o52_12 j (by omega)).trans ((o47 j (by omega)).trans ((o45_10 j (by omega)).trans ((o39 j (by omega)).trans ((o37_8 j (by omega)).trans ((o31 j (by omega)).trans ((o29_6 j (by omega)).trans ((o23 j (by omega)).trans ((o21_4 j (by omega)).trans ((o15 j (by omega)).trans ((o13_2 j (by omega)).trans ((o8 j (by omega)).trans ((o6_0 j (by omega)).trans rfl))))))))))))))))))))⟩

set_option maxHeartbeats 4000000 in
set_option maxRecDepth 100000 in
theorem c_X7_init {M : Nat → xE} {p : Nat} (h0 : M p = .inr (7, [.null, .null, .int 0, .int 0, .int 0, .int 0, .int 0, .int 0])) : xMet mX7_init [.ref p] (p + 1) M (fun r M' => none = r ∧ oX7 p (fun _ _ => 0) M' ∧ oX8 (p + 2) (tNone (fun _ _ => 0)) M' ∧ ∀ j, j < p → M' j = M j) := by
  have hiX7 : ∀ w ∈ wsX70, w ∈ wsX7_init := by decide +kernel
  have hiX8 : ∀ w ∈ wsX80, w ∈ wsX7_init := by decide +kernel
  refine xMet.of _ (by decide) rfl (Nat.le_of_ble_eq_true rfl) ?_
  refine x_aload_n (q := 1) dX7_init_0 rfl rfl ?_
  refine x_obj (q := 4) (by decide +kernel) (by decide +kernel) (by decide +kernel) dX7_init_1 rfl (by decide) (Nat.le_of_ble_eq_true rfl) ?_
  refine x_aload_n (q := 5) dX7_init_4 rfl rfl ?_
  refine x_sipush (v := 160) (q := 8) dX7_init_5 rfl (by decide) ?_
  refine x_newI (N := 160) (q := 10) (by decide +kernel) (by decide) (by decide) (Nat.le_of_ble_eq_true rfl) ⟨by decide, by decide⟩ dX7_init_8 rfl (fun M8_0 w8_0 o8_0 => ?_)
  have w8_0 : M8_0 (p + 1) = .inl (0, 160, .inl (fun _ => 0)) := w8_0
  have o8_0 : ∀ j, j ≠ (p + 1) → M8_0 j = M j := o8_0
  have hv1_1_p := ((o8_0 (p) (by omega)).trans h0)
  refine x_putF (C := RX7) (T := TX7) (N := 8) (k := 0) (q := 13) (ty := .array .int) tyX7_ok nmX7 hv1_1_p (by omega) rfl hiX7 (by decide) (by decide +kernel) rfl (by decide +kernel) rfl (by decide +kernel) (fun _ => rfl) (fun _ => rfl) (Nat.le_of_ble_eq_true rfl) dX7_init_10 rfl (fun M10 w10 o10 => ?_)
  refine x_aload_n (q := 14) dX7_init_13 rfl rfl ?_
  refine x_new (C := RX8) (T := TX8) (N := 15) (ci := 8) (fs := [.int 0, .null, .null, .int 0, .null, .null, .null, .null, .int 0, .int 0, .null, .null, .int 0, .null, .null]) (q := 17) tyX8_ok rfl hiX8 (by decide +kernel) (by decide +kernel) (by decide +kernel) (fun g j hj => by rcases (show j = 0 ∨ j = 1 ∨ j = 2 ∨ j = 3 ∨ j = 4 ∨ j = 5 ∨ j = 6 ∨ j = 7 ∨ j = 8 ∨ j = 9 ∨ j = 10 ∨ j = 11 ∨ j = 12 ∨ j = 13 ∨ j = 14 by omega) with h | h | h | h | h | h | h | h | h | h | h | h | h | h | h <;> subst h <;> rfl) ⟨by decide, by decide⟩ dX7_init_14 rfl (fun M14_2 w14_2 o14_2 => ?_)
  have w14_2 : M14_2 (p + 2) = .inr (8, [.int 0, .null, .null, .int 0, .null, .null, .null, .null, .int 0, .int 0, .null, .null, .int 0, .null, .null]) := w14_2
  have o14_2 : ∀ j, j ≠ (p + 2) → M14_2 j = M10 j := o14_2
  refine x_dup (q := 18) dX7_init_17 rfl rfl ?_
  refine x_callI (q := 21) (c_X8_init (p := p + 2) w14_2) eX7_init_17 rfl gX7_init_X8_init (by decide +kernel) (by decide +kernel) (by decide +kernel) rfl rfl (Nat.le_of_ble_eq_true rfl) ⟨by decide, by decide⟩ dX7_init_18 rfl rfl (fun r18 M18 p18 => ?_)
  obtain ⟨rfl, hV, frV⟩ := p18
  have hv4_2_p := ((frV (p) (by omega)).trans ((o14_2 (p) (by omega)).trans w10))
  refine x_putF (C := RX7) (T := TX7) (N := 8) (k := 1) (q := 24) (ty := .object "CenturyTown$Told") tyX7_ok nmX7 hv4_2_p (by omega) rfl hiX7 (by decide) (by decide +kernel) rfl (by decide +kernel) rfl (by decide +kernel) (fun _ => rfl) (fun _ => rfl) (Nat.le_of_ble_eq_true rfl) dX7_init_21 rfl (fun M21 w21 o21 => ?_)
  refine x_vret dX7_init_24 rfl rfl (Nat.le_refl _) ?_
  have hv5_3_p1 := ((o21 (p + 1) (by omega)).trans ((frV (p + 1) (by omega)).trans ((o14_2 (p + 1) (by omega)).trans ((o10 (p + 1) (by omega)).trans w8_0))))
  exact ⟨rfl, ⟨w21, hv5_3_p1⟩, hV.keep (fun j h1 h2 => o21 j (by omega)), (fun j hj => ((o21 j (by omega)).trans ((frV j (by omega)).trans ((o14_2 j (by omega)).trans ((o10 j (by omega)).trans ((o8_0 j (by omega)).trans rfl))))))⟩

set_option maxHeartbeats 4000000 in
set_option maxRecDepth 100000 in
theorem c_X5_init {M : Nat → xE} {p : Nat} (h0 : M p = .inr (5, [.int 0, .int 0, .null])) : xMet mX5_init [.ref p] (p + 1) M (fun r M' => none = r ∧ oPast p 0 0 (fun _ _ _ => 0) M' ∧ ∀ j, j < p → M' j = M j) := by
  have hiX3 : ∀ w ∈ wsX30, w ∈ wsX5_init := by decide +kernel
  have hiX5 : ∀ w ∈ wsX50, w ∈ wsX5_init := by decide +kernel
  refine xMet.of _ (by decide) rfl (Nat.le_of_ble_eq_true rfl) ?_
  refine x_aload_n (q := 1) dX5_init_0 rfl rfl ?_
  refine x_obj (q := 4) (by decide +kernel) (by decide +kernel) (by decide +kernel) dX5_init_1 rfl (by decide) (Nat.le_of_ble_eq_true rfl) ?_
  refine x_aload_n (q := 5) dX5_init_4 rfl rfl ?_
  refine x_bipush (v := 8) (q := 7) dX5_init_5 rfl (by decide) ?_
  refine x_newD (N := 8) (q := 10) (by decide +kernel) (by decide) (by decide) (Nat.le_of_ble_eq_true rfl) ⟨by decide, by decide⟩ dX5_init_7 rfl (fun M7_0 w7_0 o7_0 => ?_)
  have w7_0 : M7_0 (p + 1) = .inl (3, 8, .inr (.inr (.inr (.inr (fun _ => none))))) := w7_0
  have o7_0 : ∀ j, j ≠ (p + 1) → M7_0 j = M j := o7_0
  have hv1_1_p := ((o7_0 (p) (by omega)).trans h0)
  refine x_putF (C := RX5) (T := TX5) (N := 3) (k := 2) (q := 13) (ty := .array (.object "CenturyTown$Day")) tyX5_ok nmX5 hv1_1_p (by omega) rfl hiX5 (by decide) (by decide +kernel) rfl (by decide +kernel) rfl (by decide +kernel) (fun _ => rfl) (fun _ => rfl) (Nat.le_of_ble_eq_true rfl) dX5_init_10 rfl (fun M10 w10 o10 => ?_)
  refine x_iconst (v := 0) (q := 14) dX5_init_13 rfl (by decide) ?_
  refine x_istore_n (L' := fun x1_14 => [(1, .int x1_14), (0, .ref p)]) (q := 15) dX5_init_14 rfl (by decide) (fun _ => rfl) (fun x1_14 ex1_14 => ?_)
  obtain rfl : x1_14 = 0 := ex1_14
  refine x_iload_n (q := 16) dX5_init_15 rfl rfl ?_
  refine x_bipush (v := 8) (q := 18) dX5_init_16 rfl (by decide) ?_
  refine x_icmp_ge (t := 40) (q := 21) dX5_init_18 (by decide) rfl (fun c18 => absurd c18 (by decide)) (fun c18 => ?_)
  refine x_aload_n (q := 22) dX5_init_21 rfl rfl ?_
  refine x_getf (C := RX5) (T := TX5) (N := 3) (k := 2) (q := 25) w10 (by omega) rfl hiX5 (by decide) (by decide +kernel) rfl dX5_init_22 rfl ?_
  refine x_iload_n (q := 26) dX5_init_25 rfl rfl ?_
  refine x_new (C := RX3) (T := TX3) (N := 10) (ci := 3) (fs := [.int 0, .int 0, .int 0, .int 0, .int 0, .int 0, .int 0, .null, .null, .null]) (q := 29) tyX3_ok rfl hiX3 (by decide +kernel) (by decide +kernel) (by decide +kernel) (fun g j hj => by rcases (show j = 0 ∨ j = 1 ∨ j = 2 ∨ j = 3 ∨ j = 4 ∨ j = 5 ∨ j = 6 ∨ j = 7 ∨ j = 8 ∨ j = 9 by omega) with h | h | h | h | h | h | h | h | h | h <;> subst h <;> rfl) ⟨by decide, by decide⟩ dX5_init_26 rfl (fun M26_2 w26_2 o26_2 => ?_)
  have w26_2 : M26_2 (p + 2) = .inr (3, [.int 0, .int 0, .int 0, .int 0, .int 0, .int 0, .int 0, .null, .null, .null]) := w26_2
  have o26_2 : ∀ j, j ≠ (p + 2) → M26_2 j = M10 j := o26_2
  refine x_dup (q := 30) dX5_init_29 rfl rfl ?_
  refine x_callI (q := 33) (c_X3_init (p := p + 2) w26_2) eX5_init_17 rfl gX5_init_X3_init (by decide +kernel) (by decide +kernel) (by decide +kernel) rfl rfl (Nat.le_of_ble_eq_true rfl) ⟨by decide, by decide⟩ dX5_init_30 rfl rfl (fun r30 M30 p30 => ?_)
  obtain ⟨rfl, hD0, frD0⟩ := p30
  have hv4_2_p1 := ((frD0 (p + 1) (by omega)).trans ((o26_2 (p + 1) (by omega)).trans ((o10 (p + 1) (by omega)).trans w7_0)))
  refine x_aast (q := 34) hv4_2_p1 (by omega) hD0.1 (by omega) (xinl (by decide +kernel)) dX5_init_33 rfl (fun M33_4 w33_4 o33_4 => ?_)
  refine x_iinc (L' := fun x1_34 => [(1, .int x1_34), (0, .ref p)]) (q := 37) dX5_init_34 rfl rfl (by decide) (fun _ => rfl) (fun x1_34 ex1_34 => ?_)
  obtain rfl : x1_34 = 1 := ex1_34.trans (by decide)
  refine x_goto (q := 15) dX5_init_37 (by decide) ?_
  refine x_iload_n (q := 16) dX5_init_15 rfl rfl ?_
  refine x_bipush (v := 8) (q := 18) dX5_init_16 rfl (by decide) ?_
  refine x_icmp_ge (t := 40) (q := 21) dX5_init_18 (by decide) rfl (fun c18 => absurd c18 (by decide)) (fun c18 => ?_)
  refine x_aload_n (q := 22) dX5_init_21 rfl rfl ?_
  have hv5_3_p := ((o33_4 (p) (by omega)).trans ((frD0 (p) (by omega)).trans ((o26_2 (p) (by omega)).trans w10)))
  refine x_getf (C := RX5) (T := TX5) (N := 3) (k := 2) (q := 25) hv5_3_p (by omega) rfl hiX5 (by decide) (by decide +kernel) rfl dX5_init_22 rfl ?_
  refine x_iload_n (q := 26) dX5_init_25 rfl rfl ?_
  refine x_new (C := RX3) (T := TX3) (N := 10) (ci := 3) (fs := [.int 0, .int 0, .int 0, .int 0, .int 0, .int 0, .int 0, .null, .null, .null]) (q := 29) tyX3_ok rfl hiX3 (by decide +kernel) (by decide +kernel) (by decide +kernel) (fun g j hj => by rcases (show j = 0 ∨ j = 1 ∨ j = 2 ∨ j = 3 ∨ j = 4 ∨ j = 5 ∨ j = 6 ∨ j = 7 ∨ j = 8 ∨ j = 9 by omega) with h | h | h | h | h | h | h | h | h | h <;> subst h <;> rfl) ⟨by decide, by decide⟩ dX5_init_26 rfl (fun M26_5 w26_5 o26_5 => ?_)
  have w26_5 : M26_5 (p + 6) = .inr (3, [.int 0, .int 0, .int 0, .int 0, .int 0, .int 0, .int 0, .null, .null, .null]) := w26_5
  have o26_5 : ∀ j, j ≠ (p + 6) → M26_5 j = M33_4 j := o26_5
  refine x_dup (q := 30) dX5_init_29 rfl rfl ?_
  refine x_callI (q := 33) (c_X3_init (p := p + 6) w26_5) eX5_init_17 rfl gX5_init_X3_init (by decide +kernel) (by decide +kernel) (by decide +kernel) rfl rfl (Nat.le_of_ble_eq_true rfl) ⟨by decide, by decide⟩ dX5_init_30 rfl rfl (fun r30 M30 p30 => ?_)
  obtain ⟨rfl, hD1, frD1⟩ := p30
  have hv7_4_p1 := ((frD1 (p + 1) (by omega)).trans ((o26_5 (p + 1) (by omega)).trans w33_4))
  refine x_aast (q := 34) hv7_4_p1 (by omega) hD1.1 (by omega) (xinl (by decide +kernel)) dX5_init_33 rfl (fun M33_7 w33_7 o33_7 => ?_)
  refine x_iinc (L' := fun x1_34 => [(1, .int x1_34), (0, .ref p)]) (q := 37) dX5_init_34 rfl rfl (by decide) (fun _ => rfl) (fun x1_34 ex1_34 => ?_)
  obtain rfl : x1_34 = 2 := ex1_34.trans (by decide)
  refine x_goto (q := 15) dX5_init_37 (by decide) ?_
  refine x_iload_n (q := 16) dX5_init_15 rfl rfl ?_
  refine x_bipush (v := 8) (q := 18) dX5_init_16 rfl (by decide) ?_
  refine x_icmp_ge (t := 40) (q := 21) dX5_init_18 (by decide) rfl (fun c18 => absurd c18 (by decide)) (fun c18 => ?_)
  refine x_aload_n (q := 22) dX5_init_21 rfl rfl ?_
  have hv8_5_p := ((o33_7 (p) (by omega)).trans ((frD1 (p) (by omega)).trans ((o26_5 (p) (by omega)).trans hv5_3_p)))
  refine x_getf (C := RX5) (T := TX5) (N := 3) (k := 2) (q := 25) hv8_5_p (by omega) rfl hiX5 (by decide) (by decide +kernel) rfl dX5_init_22 rfl ?_
  refine x_iload_n (q := 26) dX5_init_25 rfl rfl ?_
  refine x_new (C := RX3) (T := TX3) (N := 10) (ci := 3) (fs := [.int 0, .int 0, .int 0, .int 0, .int 0, .int 0, .int 0, .null, .null, .null]) (q := 29) tyX3_ok rfl hiX3 (by decide +kernel) (by decide +kernel) (by decide +kernel) (fun g j hj => by rcases (show j = 0 ∨ j = 1 ∨ j = 2 ∨ j = 3 ∨ j = 4 ∨ j = 5 ∨ j = 6 ∨ j = 7 ∨ j = 8 ∨ j = 9 by omega) with h | h | h | h | h | h | h | h | h | h <;> subst h <;> rfl) ⟨by decide, by decide⟩ dX5_init_26 rfl (fun M26_8 w26_8 o26_8 => ?_)
  have w26_8 : M26_8 (p + 10) = .inr (3, [.int 0, .int 0, .int 0, .int 0, .int 0, .int 0, .int 0, .null, .null, .null]) := w26_8
  have o26_8 : ∀ j, j ≠ (p + 10) → M26_8 j = M33_7 j := o26_8
  refine x_dup (q := 30) dX5_init_29 rfl rfl ?_
  refine x_callI (q := 33) (c_X3_init (p := p + 10) w26_8) eX5_init_17 rfl gX5_init_X3_init (by decide +kernel) (by decide +kernel) (by decide +kernel) rfl rfl (Nat.le_of_ble_eq_true rfl) ⟨by decide, by decide⟩ dX5_init_30 rfl rfl (fun r30 M30 p30 => ?_)
  obtain ⟨rfl, hD2, frD2⟩ := p30
  have hv10_6_p1 := ((frD2 (p + 1) (by omega)).trans ((o26_8 (p + 1) (by omega)).trans w33_7))
  refine x_aast (q := 34) hv10_6_p1 (by omega) hD2.1 (by omega) (xinl (by decide +kernel)) dX5_init_33 rfl (fun M33_10 w33_10 o33_10 => ?_)
  refine x_iinc (L' := fun x1_34 => [(1, .int x1_34), (0, .ref p)]) (q := 37) dX5_init_34 rfl rfl (by decide) (fun _ => rfl) (fun x1_34 ex1_34 => ?_)
  obtain rfl : x1_34 = 3 := ex1_34.trans (by decide)
  refine x_goto (q := 15) dX5_init_37 (by decide) ?_
  refine x_iload_n (q := 16) dX5_init_15 rfl rfl ?_
  refine x_bipush (v := 8) (q := 18) dX5_init_16 rfl (by decide) ?_
  refine x_icmp_ge (t := 40) (q := 21) dX5_init_18 (by decide) rfl (fun c18 => absurd c18 (by decide)) (fun c18 => ?_)
  refine x_aload_n (q := 22) dX5_init_21 rfl rfl ?_
  have hv11_7_p := ((o33_10 (p) (by omega)).trans ((frD2 (p) (by omega)).trans ((o26_8 (p) (by omega)).trans hv8_5_p)))
  refine x_getf (C := RX5) (T := TX5) (N := 3) (k := 2) (q := 25) hv11_7_p (by omega) rfl hiX5 (by decide) (by decide +kernel) rfl dX5_init_22 rfl ?_
  refine x_iload_n (q := 26) dX5_init_25 rfl rfl ?_
  refine x_new (C := RX3) (T := TX3) (N := 10) (ci := 3) (fs := [.int 0, .int 0, .int 0, .int 0, .int 0, .int 0, .int 0, .null, .null, .null]) (q := 29) tyX3_ok rfl hiX3 (by decide +kernel) (by decide +kernel) (by decide +kernel) (fun g j hj => by rcases (show j = 0 ∨ j = 1 ∨ j = 2 ∨ j = 3 ∨ j = 4 ∨ j = 5 ∨ j = 6 ∨ j = 7 ∨ j = 8 ∨ j = 9 by omega) with h | h | h | h | h | h | h | h | h | h <;> subst h <;> rfl) ⟨by decide, by decide⟩ dX5_init_26 rfl (fun M26_11 w26_11 o26_11 => ?_)
  have w26_11 : M26_11 (p + 14) = .inr (3, [.int 0, .int 0, .int 0, .int 0, .int 0, .int 0, .int 0, .null, .null, .null]) := w26_11
  have o26_11 : ∀ j, j ≠ (p + 14) → M26_11 j = M33_10 j := o26_11
  refine x_dup (q := 30) dX5_init_29 rfl rfl ?_
  refine x_callI (q := 33) (c_X3_init (p := p + 14) w26_11) eX5_init_17 rfl gX5_init_X3_init (by decide +kernel) (by decide +kernel) (by decide +kernel) rfl rfl (Nat.le_of_ble_eq_true rfl) ⟨by decide, by decide⟩ dX5_init_30 rfl rfl (fun r30 M30 p30 => ?_)
  obtain ⟨rfl, hD3, frD3⟩ := p30
  have hv13_8_p1 := ((frD3 (p + 1) (by omega)).trans ((o26_11 (p + 1) (by omega)).trans w33_10))
  refine x_aast (q := 34) hv13_8_p1 (by omega) hD3.1 (by omega) (xinl (by decide +kernel)) dX5_init_33 rfl (fun M33_13 w33_13 o33_13 => ?_)
  refine x_iinc (L' := fun x1_34 => [(1, .int x1_34), (0, .ref p)]) (q := 37) dX5_init_34 rfl rfl (by decide) (fun _ => rfl) (fun x1_34 ex1_34 => ?_)
  obtain rfl : x1_34 = 4 := ex1_34.trans (by decide)
  refine x_goto (q := 15) dX5_init_37 (by decide) ?_
  refine x_iload_n (q := 16) dX5_init_15 rfl rfl ?_
  refine x_bipush (v := 8) (q := 18) dX5_init_16 rfl (by decide) ?_
  refine x_icmp_ge (t := 40) (q := 21) dX5_init_18 (by decide) rfl (fun c18 => absurd c18 (by decide)) (fun c18 => ?_)
  refine x_aload_n (q := 22) dX5_init_21 rfl rfl ?_
  have hv14_9_p := ((o33_13 (p) (by omega)).trans ((frD3 (p) (by omega)).trans ((o26_11 (p) (by omega)).trans hv11_7_p)))
  refine x_getf (C := RX5) (T := TX5) (N := 3) (k := 2) (q := 25) hv14_9_p (by omega) rfl hiX5 (by decide) (by decide +kernel) rfl dX5_init_22 rfl ?_
  refine x_iload_n (q := 26) dX5_init_25 rfl rfl ?_
  refine x_new (C := RX3) (T := TX3) (N := 10) (ci := 3) (fs := [.int 0, .int 0, .int 0, .int 0, .int 0, .int 0, .int 0, .null, .null, .null]) (q := 29) tyX3_ok rfl hiX3 (by decide +kernel) (by decide +kernel) (by decide +kernel) (fun g j hj => by rcases (show j = 0 ∨ j = 1 ∨ j = 2 ∨ j = 3 ∨ j = 4 ∨ j = 5 ∨ j = 6 ∨ j = 7 ∨ j = 8 ∨ j = 9 by omega) with h | h | h | h | h | h | h | h | h | h <;> subst h <;> rfl) ⟨by decide, by decide⟩ dX5_init_26 rfl (fun M26_14 w26_14 o26_14 => ?_)
  have w26_14 : M26_14 (p + 18) = .inr (3, [.int 0, .int 0, .int 0, .int 0, .int 0, .int 0, .int 0, .null, .null, .null]) := w26_14
  have o26_14 : ∀ j, j ≠ (p + 18) → M26_14 j = M33_13 j := o26_14
  refine x_dup (q := 30) dX5_init_29 rfl rfl ?_
  refine x_callI (q := 33) (c_X3_init (p := p + 18) w26_14) eX5_init_17 rfl gX5_init_X3_init (by decide +kernel) (by decide +kernel) (by decide +kernel) rfl rfl (Nat.le_of_ble_eq_true rfl) ⟨by decide, by decide⟩ dX5_init_30 rfl rfl (fun r30 M30 p30 => ?_)
  obtain ⟨rfl, hD4, frD4⟩ := p30
  have hv16_10_p1 := ((frD4 (p + 1) (by omega)).trans ((o26_14 (p + 1) (by omega)).trans w33_13))
  refine x_aast (q := 34) hv16_10_p1 (by omega) hD4.1 (by omega) (xinl (by decide +kernel)) dX5_init_33 rfl (fun M33_16 w33_16 o33_16 => ?_)
  refine x_iinc (L' := fun x1_34 => [(1, .int x1_34), (0, .ref p)]) (q := 37) dX5_init_34 rfl rfl (by decide) (fun _ => rfl) (fun x1_34 ex1_34 => ?_)
  obtain rfl : x1_34 = 5 := ex1_34.trans (by decide)
  refine x_goto (q := 15) dX5_init_37 (by decide) ?_
  refine x_iload_n (q := 16) dX5_init_15 rfl rfl ?_
  refine x_bipush (v := 8) (q := 18) dX5_init_16 rfl (by decide) ?_
  refine x_icmp_ge (t := 40) (q := 21) dX5_init_18 (by decide) rfl (fun c18 => absurd c18 (by decide)) (fun c18 => ?_)
  refine x_aload_n (q := 22) dX5_init_21 rfl rfl ?_
  have hv17_11_p := ((o33_16 (p) (by omega)).trans ((frD4 (p) (by omega)).trans ((o26_14 (p) (by omega)).trans hv14_9_p)))
  refine x_getf (C := RX5) (T := TX5) (N := 3) (k := 2) (q := 25) hv17_11_p (by omega) rfl hiX5 (by decide) (by decide +kernel) rfl dX5_init_22 rfl ?_
  refine x_iload_n (q := 26) dX5_init_25 rfl rfl ?_
  refine x_new (C := RX3) (T := TX3) (N := 10) (ci := 3) (fs := [.int 0, .int 0, .int 0, .int 0, .int 0, .int 0, .int 0, .null, .null, .null]) (q := 29) tyX3_ok rfl hiX3 (by decide +kernel) (by decide +kernel) (by decide +kernel) (fun g j hj => by rcases (show j = 0 ∨ j = 1 ∨ j = 2 ∨ j = 3 ∨ j = 4 ∨ j = 5 ∨ j = 6 ∨ j = 7 ∨ j = 8 ∨ j = 9 by omega) with h | h | h | h | h | h | h | h | h | h <;> subst h <;> rfl) ⟨by decide, by decide⟩ dX5_init_26 rfl (fun M26_17 w26_17 o26_17 => ?_)
  have w26_17 : M26_17 (p + 22) = .inr (3, [.int 0, .int 0, .int 0, .int 0, .int 0, .int 0, .int 0, .null, .null, .null]) := w26_17
  have o26_17 : ∀ j, j ≠ (p + 22) → M26_17 j = M33_16 j := o26_17
  refine x_dup (q := 30) dX5_init_29 rfl rfl ?_
  refine x_callI (q := 33) (c_X3_init (p := p + 22) w26_17) eX5_init_17 rfl gX5_init_X3_init (by decide +kernel) (by decide +kernel) (by decide +kernel) rfl rfl (Nat.le_of_ble_eq_true rfl) ⟨by decide, by decide⟩ dX5_init_30 rfl rfl (fun r30 M30 p30 => ?_)
  obtain ⟨rfl, hD5, frD5⟩ := p30
  have hv19_12_p1 := ((frD5 (p + 1) (by omega)).trans ((o26_17 (p + 1) (by omega)).trans w33_16))
  refine x_aast (q := 34) hv19_12_p1 (by omega) hD5.1 (by omega) (xinl (by decide +kernel)) dX5_init_33 rfl (fun M33_19 w33_19 o33_19 => ?_)
  refine x_iinc (L' := fun x1_34 => [(1, .int x1_34), (0, .ref p)]) (q := 37) dX5_init_34 rfl rfl (by decide) (fun _ => rfl) (fun x1_34 ex1_34 => ?_)
  obtain rfl : x1_34 = 6 := ex1_34.trans (by decide)
  refine x_goto (q := 15) dX5_init_37 (by decide) ?_
  refine x_iload_n (q := 16) dX5_init_15 rfl rfl ?_
  refine x_bipush (v := 8) (q := 18) dX5_init_16 rfl (by decide) ?_
  refine x_icmp_ge (t := 40) (q := 21) dX5_init_18 (by decide) rfl (fun c18 => absurd c18 (by decide)) (fun c18 => ?_)
  refine x_aload_n (q := 22) dX5_init_21 rfl rfl ?_
  have hv20_13_p := ((o33_19 (p) (by omega)).trans ((frD5 (p) (by omega)).trans ((o26_17 (p) (by omega)).trans hv17_11_p)))
  refine x_getf (C := RX5) (T := TX5) (N := 3) (k := 2) (q := 25) hv20_13_p (by omega) rfl hiX5 (by decide) (by decide +kernel) rfl dX5_init_22 rfl ?_
  refine x_iload_n (q := 26) dX5_init_25 rfl rfl ?_
  refine x_new (C := RX3) (T := TX3) (N := 10) (ci := 3) (fs := [.int 0, .int 0, .int 0, .int 0, .int 0, .int 0, .int 0, .null, .null, .null]) (q := 29) tyX3_ok rfl hiX3 (by decide +kernel) (by decide +kernel) (by decide +kernel) (fun g j hj => by rcases (show j = 0 ∨ j = 1 ∨ j = 2 ∨ j = 3 ∨ j = 4 ∨ j = 5 ∨ j = 6 ∨ j = 7 ∨ j = 8 ∨ j = 9 by omega) with h | h | h | h | h | h | h | h | h | h <;> subst h <;> rfl) ⟨by decide, by decide⟩ dX5_init_26 rfl (fun M26_20 w26_20 o26_20 => ?_)
  have w26_20 : M26_20 (p + 26) = .inr (3, [.int 0, .int 0, .int 0, .int 0, .int 0, .int 0, .int 0, .null, .null, .null]) := w26_20
  have o26_20 : ∀ j, j ≠ (p + 26) → M26_20 j = M33_19 j := o26_20
  refine x_dup (q := 30) dX5_init_29 rfl rfl ?_
  refine x_callI (q := 33) (c_X3_init (p := p + 26) w26_20) eX5_init_17 rfl gX5_init_X3_init (by decide +kernel) (by decide +kernel) (by decide +kernel) rfl rfl (Nat.le_of_ble_eq_true rfl) ⟨by decide, by decide⟩ dX5_init_30 rfl rfl (fun r30 M30 p30 => ?_)
  obtain ⟨rfl, hD6, frD6⟩ := p30
  have hv22_14_p1 := ((frD6 (p + 1) (by omega)).trans ((o26_20 (p + 1) (by omega)).trans w33_19))
  refine x_aast (q := 34) hv22_14_p1 (by omega) hD6.1 (by omega) (xinl (by decide +kernel)) dX5_init_33 rfl (fun M33_22 w33_22 o33_22 => ?_)
  refine x_iinc (L' := fun x1_34 => [(1, .int x1_34), (0, .ref p)]) (q := 37) dX5_init_34 rfl rfl (by decide) (fun _ => rfl) (fun x1_34 ex1_34 => ?_)
  obtain rfl : x1_34 = 7 := ex1_34.trans (by decide)
  refine x_goto (q := 15) dX5_init_37 (by decide) ?_
  refine x_iload_n (q := 16) dX5_init_15 rfl rfl ?_
  refine x_bipush (v := 8) (q := 18) dX5_init_16 rfl (by decide) ?_
  refine x_icmp_ge (t := 40) (q := 21) dX5_init_18 (by decide) rfl (fun c18 => absurd c18 (by decide)) (fun c18 => ?_)
  refine x_aload_n (q := 22) dX5_init_21 rfl rfl ?_
  have hv23_15_p := ((o33_22 (p) (by omega)).trans ((frD6 (p) (by omega)).trans ((o26_20 (p) (by omega)).trans hv20_13_p)))
  refine x_getf (C := RX5) (T := TX5) (N := 3) (k := 2) (q := 25) hv23_15_p (by omega) rfl hiX5 (by decide) (by decide +kernel) rfl dX5_init_22 rfl ?_
  refine x_iload_n (q := 26) dX5_init_25 rfl rfl ?_
  refine x_new (C := RX3) (T := TX3) (N := 10) (ci := 3) (fs := [.int 0, .int 0, .int 0, .int 0, .int 0, .int 0, .int 0, .null, .null, .null]) (q := 29) tyX3_ok rfl hiX3 (by decide +kernel) (by decide +kernel) (by decide +kernel) (fun g j hj => by rcases (show j = 0 ∨ j = 1 ∨ j = 2 ∨ j = 3 ∨ j = 4 ∨ j = 5 ∨ j = 6 ∨ j = 7 ∨ j = 8 ∨ j = 9 by omega) with h | h | h | h | h | h | h | h | h | h <;> subst h <;> rfl) ⟨by decide, by decide⟩ dX5_init_26 rfl (fun M26_23 w26_23 o26_23 => ?_)
  have w26_23 : M26_23 (p + 30) = .inr (3, [.int 0, .int 0, .int 0, .int 0, .int 0, .int 0, .int 0, .null, .null, .null]) := w26_23
  have o26_23 : ∀ j, j ≠ (p + 30) → M26_23 j = M33_22 j := o26_23
  refine x_dup (q := 30) dX5_init_29 rfl rfl ?_
  refine x_callI (q := 33) (c_X3_init (p := p + 30) w26_23) eX5_init_17 rfl gX5_init_X3_init (by decide +kernel) (by decide +kernel) (by decide +kernel) rfl rfl (Nat.le_of_ble_eq_true rfl) ⟨by decide, by decide⟩ dX5_init_30 rfl rfl (fun r30 M30 p30 => ?_)
  obtain ⟨rfl, hD7, frD7⟩ := p30
  have hv25_16_p1 := ((frD7 (p + 1) (by omega)).trans ((o26_23 (p + 1) (by omega)).trans w33_22))
  refine x_aast (q := 34) hv25_16_p1 (by omega) hD7.1 (by omega) (xinl (by decide +kernel)) dX5_init_33 rfl (fun M33_25 w33_25 o33_25 => ?_)
  refine x_iinc (L' := fun x1_34 => [(1, .int x1_34), (0, .ref p)]) (q := 37) dX5_init_34 rfl rfl (by decide) (fun _ => rfl) (fun x1_34 ex1_34 => ?_)
  obtain rfl : x1_34 = 8 := ex1_34.trans (by decide)
  refine x_goto (q := 15) dX5_init_37 (by decide) ?_
  refine x_iload_n (q := 16) dX5_init_15 rfl rfl ?_
  refine x_bipush (v := 8) (q := 18) dX5_init_16 rfl (by decide) ?_
  refine x_icmp_ge (t := 40) (q := 21) dX5_init_18 (by decide) rfl (fun c18 => ?_) (fun c18 => absurd c18 (by decide))
  refine x_vret dX5_init_40 rfl rfl (Nat.le_refl _) ?_
  have hv26_17_p := ((o33_25 (p) (by omega)).trans ((frD7 (p) (by omega)).trans ((o26_23 (p) (by omega)).trans hv23_15_p)))
  have e0 : oX3 (p + 2 + 4 * 0) (fun _ _ => 0) M33_25 := hD0.keep (fun j h1 h2 => ((o33_25 j (by omega)).trans ((frD7 j (by omega)).trans ((o26_23 j (by omega)).trans ((o33_22 j (by omega)).trans ((frD6 j (by omega)).trans ((o26_20 j (by omega)).trans ((o33_19 j (by omega)).trans ((frD5 j (by omega)).trans ((o26_17 j (by omega)).trans ((o33_16 j (by omega)).trans ((frD4 j (by omega)).trans ((o26_14 j (by omega)).trans ((o33_13 j (by omega)).trans ((frD3 j (by omega)).trans ((o26_11 j (by omega)).trans ((o33_10 j (by omega)).trans ((frD2 j (by omega)).trans ((o26_8 j (by omega)).trans ((o33_7 j (by omega)).trans ((frD1 j (by omega)).trans ((o26_5 j (by omega)).trans (o33_4 j (by omega))))))))))))))))))))))))
  have e1 : oX3 (p + 2 + 4 * 1) (fun _ _ => 0) M33_25 := hD1.keep (fun j h1 h2 => ((o33_25 j (by omega)).trans ((frD7 j (by omega)).trans ((o26_23 j (by omega)).trans ((o33_22 j (by omega)).trans ((frD6 j (by omega)).trans ((o26_20 j (by omega)).trans ((o33_19 j (by omega)).trans ((frD5 j (by omega)).trans ((o26_17 j (by omega)).trans ((o33_16 j (by omega)).trans ((frD4 j (by omega)).trans ((o26_14 j (by omega)).trans ((o33_13 j (by omega)).trans ((frD3 j (by omega)).trans ((o26_11 j (by omega)).trans ((o33_10 j (by omega)).trans ((frD2 j (by omega)).trans ((o26_8 j (by omega)).trans (o33_7 j (by omega)))))))))))))))))))))
  have e2 : oX3 (p + 2 + 4 * 2) (fun _ _ => 0) M33_25 := hD2.keep (fun j h1 h2 => ((o33_25 j (by omega)).trans ((frD7 j (by omega)).trans ((o26_23 j (by omega)).trans ((o33_22 j (by omega)).trans ((frD6 j (by omega)).trans ((o26_20 j (by omega)).trans ((o33_19 j (by omega)).trans ((frD5 j (by omega)).trans ((o26_17 j (by omega)).trans ((o33_16 j (by omega)).trans ((frD4 j (by omega)).trans ((o26_14 j (by omega)).trans ((o33_13 j (by omega)).trans ((frD3 j (by omega)).trans ((o26_11 j (by omega)).trans (o33_10 j (by omega))))))))))))))))))
  have e3 : oX3 (p + 2 + 4 * 3) (fun _ _ => 0) M33_25 := hD3.keep (fun j h1 h2 => ((o33_25 j (by omega)).trans ((frD7 j (by omega)).trans ((o26_23 j (by omega)).trans ((o33_22 j (by omega)).trans ((frD6 j (by omega)).trans ((o26_20 j (by omega)).trans ((o33_19 j (by omega)).trans ((frD5 j (by omega)).trans ((o26_17 j (by omega)).trans ((o33_16 j (by omega)).trans ((frD4 j (by omega)).trans ((o26_14 j (by omega)).trans (o33_13 j (by omega)))))))))))))))
  have e4 : oX3 (p + 2 + 4 * 4) (fun _ _ => 0) M33_25 := hD4.keep (fun j h1 h2 => ((o33_25 j (by omega)).trans ((frD7 j (by omega)).trans ((o26_23 j (by omega)).trans ((o33_22 j (by omega)).trans ((frD6 j (by omega)).trans ((o26_20 j (by omega)).trans ((o33_19 j (by omega)).trans ((frD5 j (by omega)).trans ((o26_17 j (by omega)).trans (o33_16 j (by omega))))))))))))
  have e5 : oX3 (p + 2 + 4 * 5) (fun _ _ => 0) M33_25 := hD5.keep (fun j h1 h2 => ((o33_25 j (by omega)).trans ((frD7 j (by omega)).trans ((o26_23 j (by omega)).trans ((o33_22 j (by omega)).trans ((frD6 j (by omega)).trans ((o26_20 j (by omega)).trans (o33_19 j (by omega)))))))))
  have e6 : oX3 (p + 2 + 4 * 6) (fun _ _ => 0) M33_25 := hD6.keep (fun j h1 h2 => ((o33_25 j (by omega)).trans ((frD7 j (by omega)).trans ((o26_23 j (by omega)).trans (o33_22 j (by omega))))))
  have e7 : oX3 (p + 2 + 4 * 7) (fun _ _ => 0) M33_25 := hD7.keep (fun j h1 h2 => (o33_25 j (by omega)))
  refine ⟨rfl, ⟨hv26_17_p, ?_, fun j hj => ?_⟩, (fun j hj => ((o33_25 j (by omega)).trans ((frD7 j (by omega)).trans ((o26_23 j (by omega)).trans ((o33_22 j (by omega)).trans ((frD6 j (by omega)).trans ((o26_20 j (by omega)).trans ((o33_19 j (by omega)).trans ((frD5 j (by omega)).trans ((o26_17 j (by omega)).trans ((o33_16 j (by omega)).trans ((frD4 j (by omega)).trans ((o26_14 j (by omega)).trans ((o33_13 j (by omega)).trans ((frD3 j (by omega)).trans ((o26_11 j (by omega)).trans ((o33_10 j (by omega)).trans ((frD2 j (by omega)).trans ((o26_8 j (by omega)).trans ((o33_7 j (by omega)).trans ((frD1 j (by omega)).trans ((o26_5 j (by omega)).trans ((o33_4 j (by omega)).trans ((frD0 j (by omega)).trans ((o26_2 j (by omega)).trans ((o10 j (by omega)).trans ((o7_0 j (by omega)).trans rfl)))))))))))))))))))))))))))⟩
  · refine w33_25.trans ?_
    refine congrArg (fun f => (.inl (3, 8, .inr (.inr (.inr (.inr f)))) : xE)) (funext fun j => ?_)
    unfold pRing va_up
    rcases (show j = 0 ∨ j = 1 ∨ j = 2 ∨ j = 3 ∨ j = 4 ∨ j = 5 ∨ j = 6 ∨ j = 7 ∨ 8 ≤ j by omega) with h | h | h | h | h | h | h | h | h
    · subst h; rfl
    · subst h; rfl
    · subst h; rfl
    · subst h; rfl
    · subst h; rfl
    · subst h; rfl
    · subst h; rfl
    · subst h; rfl
    · rw [if_neg (show ¬ j < 8 by omega)]
      rw [if_neg (show ¬ j = (7 : Int32).toNatClampNeg from fun e => by have : (7 : Int32).toNatClampNeg = 7 := rfl; omega), if_neg (show ¬ j = (6 : Int32).toNatClampNeg from fun e => by have : (6 : Int32).toNatClampNeg = 6 := rfl; omega), if_neg (show ¬ j = (5 : Int32).toNatClampNeg from fun e => by have : (5 : Int32).toNatClampNeg = 5 := rfl; omega), if_neg (show ¬ j = (4 : Int32).toNatClampNeg from fun e => by have : (4 : Int32).toNatClampNeg = 4 := rfl; omega), if_neg (show ¬ j = (3 : Int32).toNatClampNeg from fun e => by have : (3 : Int32).toNatClampNeg = 3 := rfl; omega), if_neg (show ¬ j = (2 : Int32).toNatClampNeg from fun e => by have : (2 : Int32).toNatClampNeg = 2 := rfl; omega), if_neg (show ¬ j = (1 : Int32).toNatClampNeg from fun e => by have : (1 : Int32).toNatClampNeg = 1 := rfl; omega), if_neg (show ¬ j = (0 : Int32).toNatClampNeg from fun e => by have : (0 : Int32).toNatClampNeg = 0 := rfl; omega)]
  · rcases (show j = 0 ∨ j = 1 ∨ j = 2 ∨ j = 3 ∨ j = 4 ∨ j = 5 ∨ j = 6 ∨ j = 7 by omega) with h | h | h | h | h | h | h | h <;> subst h
    · exact e0
    · exact e1
    · exact e2
    · exact e3
    · exact e4
    · exact e5
    · exact e6
    · exact e7

