set_option maxHeartbeats 4000000 in
set_option maxRecDepth 100000 in
theorem c_Day_copy {n : Nat} {M : Nat → xE} {p q : Nat} {t s : Nat → Nat → Int32} (hpq : p + 4 ≤ q ∨ q + 4 ≤ p) (hp : p + 3 < n) (hq : q + 3 < n) (hT : oX3 p t M) (hS : oX3 q s M) : xMet mX3_copyFrom [.ref p, .ref q] n M (fun r M' => none = r ∧ oX3 p s M' ∧ xfr p (p + 4) M M') := by
  obtain ⟨tp0, tp1, tp2, tp3⟩ := hT
  obtain ⟨sp0, sp1, sp2, sp3⟩ := hS
  have hiX3 : ∀ w ∈ wsX30, w ∈ wsX3_copyFrom := by decide +kernel
  refine xMet.of _ (by decide) rfl (Nat.le_of_ble_eq_true rfl) ?_
  refine x_aload_n (q := 1) dX3_copyFrom_0 rfl rfl ?_
  refine x_aload_n (q := 2) dX3_copyFrom_1 rfl rfl ?_
  refine x_getf (C := RX3) (T := TX3) (N := 10) (k := 0) (q := 5) sp0 (by omega) rfl hiX3 (by decide) (by decide +kernel) rfl dX3_copyFrom_2 rfl ?_
  refine x_put (C := RX3) (T := TX3) (N := 10) (k := 0) (q := 8) (ty := .int) tyX3_ok nmX3 tp0 (by omega) rfl hiX3 (by decide) (by decide +kernel) rfl (by decide +kernel) (fun _ => rfl) (fun _ => rfl) (Nat.le_of_ble_eq_true rfl) dX3_copyFrom_5 rfl (fun M5 w5 o5 => ?_)
  refine x_aload_n (q := 9) dX3_copyFrom_8 rfl rfl ?_
  refine x_aload_n (q := 10) dX3_copyFrom_9 rfl rfl ?_
  have hv1_1_q := ((o5 (q) (by omega)).trans sp0)
  refine x_getf (C := RX3) (T := TX3) (N := 10) (k := 1) (q := 13) hv1_1_q (by omega) rfl hiX3 (by decide) (by decide +kernel) rfl dX3_copyFrom_10 rfl ?_
  refine x_put (C := RX3) (T := TX3) (N := 10) (k := 1) (q := 16) (ty := .int) tyX3_ok nmX3 w5 (by omega) rfl hiX3 (by decide) (by decide +kernel) rfl (by decide +kernel) (fun _ => rfl) (fun _ => rfl) (Nat.le_of_ble_eq_true rfl) dX3_copyFrom_13 rfl (fun M13 w13 o13 => ?_)
  refine x_aload_n (q := 17) dX3_copyFrom_16 rfl rfl ?_
  refine x_aload_n (q := 18) dX3_copyFrom_17 rfl rfl ?_
  have hv2_2_q := ((o13 (q) (by omega)).trans hv1_1_q)
  refine x_getf (C := RX3) (T := TX3) (N := 10) (k := 2) (q := 21) hv2_2_q (by omega) rfl hiX3 (by decide) (by decide +kernel) rfl dX3_copyFrom_18 rfl ?_
  refine x_put (C := RX3) (T := TX3) (N := 10) (k := 2) (q := 24) (ty := .int) tyX3_ok nmX3 w13 (by omega) rfl hiX3 (by decide) (by decide +kernel) rfl (by decide +kernel) (fun _ => rfl) (fun _ => rfl) (Nat.le_of_ble_eq_true rfl) dX3_copyFrom_21 rfl (fun M21 w21 o21 => ?_)
  refine x_aload_n (q := 25) dX3_copyFrom_24 rfl rfl ?_
  refine x_aload_n (q := 26) dX3_copyFrom_25 rfl rfl ?_
  have hv3_3_q := ((o21 (q) (by omega)).trans hv2_2_q)
  refine x_getf (C := RX3) (T := TX3) (N := 10) (k := 3) (q := 29) hv3_3_q (by omega) rfl hiX3 (by decide) (by decide +kernel) rfl dX3_copyFrom_26 rfl ?_
  refine x_put (C := RX3) (T := TX3) (N := 10) (k := 3) (q := 32) (ty := .int) tyX3_ok nmX3 w21 (by omega) rfl hiX3 (by decide) (by decide +kernel) rfl (by decide +kernel) (fun _ => rfl) (fun _ => rfl) (Nat.le_of_ble_eq_true rfl) dX3_copyFrom_29 rfl (fun M29 w29 o29 => ?_)
  refine x_aload_n (q := 33) dX3_copyFrom_32 rfl rfl ?_
  refine x_aload_n (q := 34) dX3_copyFrom_33 rfl rfl ?_
  have hv4_4_q := ((o29 (q) (by omega)).trans hv3_3_q)
  refine x_getf (C := RX3) (T := TX3) (N := 10) (k := 4) (q := 37) hv4_4_q (by omega) rfl hiX3 (by decide) (by decide +kernel) rfl dX3_copyFrom_34 rfl ?_
  refine x_put (C := RX3) (T := TX3) (N := 10) (k := 4) (q := 40) (ty := .int) tyX3_ok nmX3 w29 (by omega) rfl hiX3 (by decide) (by decide +kernel) rfl (by decide +kernel) (fun _ => rfl) (fun _ => rfl) (Nat.le_of_ble_eq_true rfl) dX3_copyFrom_37 rfl (fun M37 w37 o37 => ?_)
  refine x_aload_n (q := 41) dX3_copyFrom_40 rfl rfl ?_
  refine x_aload_n (q := 42) dX3_copyFrom_41 rfl rfl ?_
  have hv5_5_q := ((o37 (q) (by omega)).trans hv4_4_q)
  refine x_getf (C := RX3) (T := TX3) (N := 10) (k := 5) (q := 45) hv5_5_q (by omega) rfl hiX3 (by decide) (by decide +kernel) rfl dX3_copyFrom_42 rfl ?_
  refine x_put (C := RX3) (T := TX3) (N := 10) (k := 5) (q := 48) (ty := .int) tyX3_ok nmX3 w37 (by omega) rfl hiX3 (by decide) (by decide +kernel) rfl (by decide +kernel) (fun _ => rfl) (fun _ => rfl) (Nat.le_of_ble_eq_true rfl) dX3_copyFrom_45 rfl (fun M45 w45 o45 => ?_)
  refine x_aload_n (q := 49) dX3_copyFrom_48 rfl rfl ?_
  refine x_aload_n (q := 50) dX3_copyFrom_49 rfl rfl ?_
  have hv6_6_q := ((o45 (q) (by omega)).trans hv5_5_q)
  refine x_getf (C := RX3) (T := TX3) (N := 10) (k := 6) (q := 53) hv6_6_q (by omega) rfl hiX3 (by decide) (by decide +kernel) rfl dX3_copyFrom_50 rfl ?_
  refine x_put (C := RX3) (T := TX3) (N := 10) (k := 6) (q := 56) (ty := .int) tyX3_ok nmX3 w45 (by omega) rfl hiX3 (by decide) (by decide +kernel) rfl (by decide +kernel) (fun _ => rfl) (fun _ => rfl) (Nat.le_of_ble_eq_true rfl) dX3_copyFrom_53 rfl (fun M53 w53 o53 => ?_)
  refine x_aload_n (q := 57) dX3_copyFrom_56 rfl rfl ?_
  have hv7_7_q := ((o53 (q) (by omega)).trans hv6_6_q)
  refine x_getf (C := RX3) (T := TX3) (N := 10) (k := 7) (q := 60) hv7_7_q (by omega) rfl hiX3 (by decide) (by decide +kernel) rfl dX3_copyFrom_57 rfl ?_
  refine x_iconst (v := 0) (q := 61) dX3_copyFrom_60 rfl (by decide) ?_
  refine x_aload_n (q := 62) dX3_copyFrom_61 rfl rfl ?_
  refine x_getf (C := RX3) (T := TX3) (N := 10) (k := 7) (q := 65) w53 (by omega) rfl hiX3 (by decide) (by decide +kernel) rfl dX3_copyFrom_62 rfl ?_
  refine x_iconst (v := 0) (q := 66) dX3_copyFrom_65 rfl (by decide) ?_
  refine x_iconst (v := 5) (q := 67) dX3_copyFrom_66 rfl (by decide) ?_
  have hv7_8_q1 := ((o53 (q + 1) (by omega)).trans ((o45 (q + 1) (by omega)).trans ((o37 (q + 1) (by omega)).trans ((o29 (q + 1) (by omega)).trans ((o21 (q + 1) (by omega)).trans ((o13 (q + 1) (by omega)).trans ((o5 (q + 1) (by omega)).trans sp1)))))))
  have hv7_9_p1 := ((o53 (p + 1) (by omega)).trans ((o45 (p + 1) (by omega)).trans ((o37 (p + 1) (by omega)).trans ((o29 (p + 1) (by omega)).trans ((o21 (p + 1) (by omega)).trans ((o13 (p + 1) (by omega)).trans ((o5 (p + 1) (by omega)).trans tp1)))))))
  refine x_copyi (q := 70) (by decide +kernel) (by decide +kernel) (by decide +kernel) (by decide +kernel) hv7_8_q1 (by omega) hv7_9_p1 (by omega) (by decide +kernel) (by decide +kernel) (by decide +kernel) (by decide +kernel) (by decide +kernel) (by decide) (by decide) dX3_copyFrom_67 rfl (fun M67 w67 o67 => ?_)
  refine x_aload_n (q := 71) dX3_copyFrom_70 rfl rfl ?_
  have hv8_10_q := ((o67 (q) (by omega)).trans hv7_7_q)
  refine x_getf (C := RX3) (T := TX3) (N := 10) (k := 8) (q := 74) hv8_10_q (by omega) rfl hiX3 (by decide) (by decide +kernel) rfl dX3_copyFrom_71 rfl ?_
  refine x_iconst (v := 0) (q := 75) dX3_copyFrom_74 rfl (by decide) ?_
  refine x_aload_n (q := 76) dX3_copyFrom_75 rfl rfl ?_
  have hv8_11_p := ((o67 (p) (by omega)).trans w53)
  refine x_getf (C := RX3) (T := TX3) (N := 10) (k := 8) (q := 79) hv8_11_p (by omega) rfl hiX3 (by decide) (by decide +kernel) rfl dX3_copyFrom_76 rfl ?_
  refine x_iconst (v := 0) (q := 80) dX3_copyFrom_79 rfl (by decide) ?_
  refine x_iconst (v := 5) (q := 81) dX3_copyFrom_80 rfl (by decide) ?_
  have hv8_12_q2 := ((o67 (q + 2) (by omega)).trans ((o53 (q + 2) (by omega)).trans ((o45 (q + 2) (by omega)).trans ((o37 (q + 2) (by omega)).trans ((o29 (q + 2) (by omega)).trans ((o21 (q + 2) (by omega)).trans ((o13 (q + 2) (by omega)).trans ((o5 (q + 2) (by omega)).trans sp2))))))))
  have hv8_13_p2 := ((o67 (p + 2) (by omega)).trans ((o53 (p + 2) (by omega)).trans ((o45 (p + 2) (by omega)).trans ((o37 (p + 2) (by omega)).trans ((o29 (p + 2) (by omega)).trans ((o21 (p + 2) (by omega)).trans ((o13 (p + 2) (by omega)).trans ((o5 (p + 2) (by omega)).trans tp2))))))))
  refine x_copyi (q := 84) (by decide +kernel) (by decide +kernel) (by decide +kernel) (by decide +kernel) hv8_12_q2 (by omega) hv8_13_p2 (by omega) (by decide +kernel) (by decide +kernel) (by decide +kernel) (by decide +kernel) (by decide +kernel) (by decide) (by decide) dX3_copyFrom_81 rfl (fun M81 w81 o81 => ?_)
  refine x_aload_n (q := 85) dX3_copyFrom_84 rfl rfl ?_
  have hv9_14_q := ((o81 (q) (by omega)).trans hv8_10_q)
  refine x_getf (C := RX3) (T := TX3) (N := 10) (k := 9) (q := 88) hv9_14_q (by omega) rfl hiX3 (by decide) (by decide +kernel) rfl dX3_copyFrom_85 rfl ?_
  refine x_iconst (v := 0) (q := 89) dX3_copyFrom_88 rfl (by decide) ?_
  refine x_aload_n (q := 90) dX3_copyFrom_89 rfl rfl ?_
  have hv9_15_p := ((o81 (p) (by omega)).trans hv8_11_p)
  refine x_getf (C := RX3) (T := TX3) (N := 10) (k := 9) (q := 93) hv9_15_p (by omega) rfl hiX3 (by decide) (by decide +kernel) rfl dX3_copyFrom_90 rfl ?_
  refine x_iconst (v := 0) (q := 94) dX3_copyFrom_93 rfl (by decide) ?_
  refine x_bipush (v := 6) (q := 96) dX3_copyFrom_94 rfl (by decide) ?_
  have hv9_16_q3 := ((o81 (q + 3) (by omega)).trans ((o67 (q + 3) (by omega)).trans ((o53 (q + 3) (by omega)).trans ((o45 (q + 3) (by omega)).trans ((o37 (q + 3) (by omega)).trans ((o29 (q + 3) (by omega)).trans ((o21 (q + 3) (by omega)).trans ((o13 (q + 3) (by omega)).trans ((o5 (q + 3) (by omega)).trans sp3)))))))))
  have hv9_17_p3 := ((o81 (p + 3) (by omega)).trans ((o67 (p + 3) (by omega)).trans ((o53 (p + 3) (by omega)).trans ((o45 (p + 3) (by omega)).trans ((o37 (p + 3) (by omega)).trans ((o29 (p + 3) (by omega)).trans ((o21 (p + 3) (by omega)).trans ((o13 (p + 3) (by omega)).trans ((o5 (p + 3) (by omega)).trans tp3)))))))))
  refine x_copyi (q := 99) (by decide +kernel) (by decide +kernel) (by decide +kernel) (by decide +kernel) hv9_16_q3 (by omega) hv9_17_p3 (by omega) (by decide +kernel) (by decide +kernel) (by decide +kernel) (by decide +kernel) (by decide +kernel) (by decide) (by decide) dX3_copyFrom_96 rfl (fun M96 w96 o96 => ?_)
  have hv10_18_p1 := ((o96 (p + 1) (by omega)).trans ((o81 (p + 1) (by omega)).trans w67))
  refine x_fixI (f' := s 7) hv10_18_p1 (by omega) (fun j hj => pk_cpy_in (Nat.zero_le j) (by simpa using hj) |>.trans (by simp)) (fun Mf1 wf1 of1 => ?_)
  have hv11_19_p2 := ((of1 (p + 2) (by omega)).trans ((o96 (p + 2) (by omega)).trans w81))
  refine x_fixI (f' := s 8) hv11_19_p2 (by omega) (fun j hj => pk_cpy_in (Nat.zero_le j) (by simpa using hj) |>.trans (by simp)) (fun Mf2 wf2 of2 => ?_)
  have hv12_20_p3 := ((of2 (p + 3) (by omega)).trans ((of1 (p + 3) (by omega)).trans w96))
  refine x_fixI (f' := s 9) hv12_20_p3 (by omega) (fun j hj => pk_cpy_in (Nat.zero_le j) (by simpa using hj) |>.trans (by simp)) (fun Mf3 wf3 of3 => ?_)
  refine x_vret dX3_copyFrom_99 rfl rfl (Nat.le_refl _) ?_
  have hv13_21_p := ((of3 (p) (by omega)).trans ((of2 (p) (by omega)).trans ((of1 (p) (by omega)).trans ((o96 (p) (by omega)).trans hv9_15_p))))
  have hv13_22_p1 := ((of3 (p + 1) (by omega)).trans ((of2 (p + 1) (by omega)).trans wf1))
  have hv13_23_p2 := ((of3 (p + 2) (by omega)).trans wf2)
  exact ⟨rfl, ⟨hv13_21_p, hv13_22_p1, hv13_23_p2, wf3⟩, (fun j hj => ((of3 j (by omega)).trans ((of2 j (by omega)).trans ((of1 j (by omega)).trans ((o96 j (by omega)).trans ((o81 j (by omega)).trans ((o67 j (by omega)).trans ((o53 j (by omega)).trans ((o45 j (by omega)).trans ((o37 j (by omega)).trans ((o29 j (by omega)).trans ((o21 j (by omega)).trans ((o13 j (by omega)).trans ((o5 j (by omega)).trans rfl))))))))))))))⟩

def dNew (len : Int32) : Nat → Nat → Int32 := fun i _ => if i = 7 then len else if i = 8 then -1 else 0
set_option maxHeartbeats 4000000 in
set_option maxRecDepth 100000 in
theorem c_Day_begin {n : Nat} {M : Nat → xE} {p : Nat} {t : Nat → Nat → Int32} {len : Int32} (hp : p + 3 < n) (hT : oX3 p t M) : xMet mX3_beginAnew [.ref p, .int len] n M (fun r M' => none = r ∧ oX3 p (dNew len) M' ∧ xfr p (p + 4) M M') := by
  obtain ⟨tp0, tp1, tp2, tp3⟩ := hT
  have hiX3 : ∀ w ∈ wsX30, w ∈ wsX3_beginAnew := by decide +kernel
  refine xMet.of _ (by decide) rfl (Nat.le_of_ble_eq_true rfl) ?_
  refine x_aload_n (q := 1) dX3_beginAnew_0 rfl rfl ?_
  refine x_iconst (v := 0) (q := 2) dX3_beginAnew_1 rfl (by decide) ?_
  refine x_put (C := RX3) (T := TX3) (N := 10) (k := 0) (q := 5) (ty := .int) tyX3_ok nmX3 tp0 (by omega) rfl hiX3 (by decide) (by decide +kernel) rfl (by decide +kernel) (fun _ => rfl) (fun _ => rfl) (Nat.le_of_ble_eq_true rfl) dX3_beginAnew_2 rfl (fun M2 w2 o2 => ?_)
  refine x_aload_n (q := 6) dX3_beginAnew_5 rfl rfl ?_
  refine x_iconst (v := 0) (q := 7) dX3_beginAnew_6 rfl (by decide) ?_
  refine x_put (C := RX3) (T := TX3) (N := 10) (k := 1) (q := 10) (ty := .int) tyX3_ok nmX3 w2 (by omega) rfl hiX3 (by decide) (by decide +kernel) rfl (by decide +kernel) (fun _ => rfl) (fun _ => rfl) (Nat.le_of_ble_eq_true rfl) dX3_beginAnew_7 rfl (fun M7 w7 o7 => ?_)
  refine x_aload_n (q := 11) dX3_beginAnew_10 rfl rfl ?_
  refine x_iconst (v := 0) (q := 12) dX3_beginAnew_11 rfl (by decide) ?_
  refine x_put (C := RX3) (T := TX3) (N := 10) (k := 2) (q := 15) (ty := .int) tyX3_ok nmX3 w7 (by omega) rfl hiX3 (by decide) (by decide +kernel) rfl (by decide +kernel) (fun _ => rfl) (fun _ => rfl) (Nat.le_of_ble_eq_true rfl) dX3_beginAnew_12 rfl (fun M12 w12 o12 => ?_)
  refine x_aload_n (q := 16) dX3_beginAnew_15 rfl rfl ?_
  refine x_iconst (v := 0) (q := 17) dX3_beginAnew_16 rfl (by decide) ?_
  refine x_put (C := RX3) (T := TX3) (N := 10) (k := 3) (q := 20) (ty := .int) tyX3_ok nmX3 w12 (by omega) rfl hiX3 (by decide) (by decide +kernel) rfl (by decide +kernel) (fun _ => rfl) (fun _ => rfl) (Nat.le_of_ble_eq_true rfl) dX3_beginAnew_17 rfl (fun M17 w17 o17 => ?_)
  refine x_aload_n (q := 21) dX3_beginAnew_20 rfl rfl ?_
  refine x_iconst (v := 0) (q := 22) dX3_beginAnew_21 rfl (by decide) ?_
  refine x_put (C := RX3) (T := TX3) (N := 10) (k := 4) (q := 25) (ty := .int) tyX3_ok nmX3 w17 (by omega) rfl hiX3 (by decide) (by decide +kernel) rfl (by decide +kernel) (fun _ => rfl) (fun _ => rfl) (Nat.le_of_ble_eq_true rfl) dX3_beginAnew_22 rfl (fun M22 w22 o22 => ?_)
  refine x_aload_n (q := 26) dX3_beginAnew_25 rfl rfl ?_
  refine x_iconst (v := 0) (q := 27) dX3_beginAnew_26 rfl (by decide) ?_
  refine x_put (C := RX3) (T := TX3) (N := 10) (k := 5) (q := 30) (ty := .int) tyX3_ok nmX3 w22 (by omega) rfl hiX3 (by decide) (by decide +kernel) rfl (by decide +kernel) (fun _ => rfl) (fun _ => rfl) (Nat.le_of_ble_eq_true rfl) dX3_beginAnew_27 rfl (fun M27 w27 o27 => ?_)
  refine x_aload_n (q := 31) dX3_beginAnew_30 rfl rfl ?_
  refine x_iconst (v := 0) (q := 32) dX3_beginAnew_31 rfl (by decide) ?_
  refine x_put (C := RX3) (T := TX3) (N := 10) (k := 6) (q := 35) (ty := .int) tyX3_ok nmX3 w27 (by omega) rfl hiX3 (by decide) (by decide +kernel) rfl (by decide +kernel) (fun _ => rfl) (fun _ => rfl) (Nat.le_of_ble_eq_true rfl) dX3_beginAnew_32 rfl (fun M32 w32 o32 => ?_)
  refine x_aload_n (q := 36) dX3_beginAnew_35 rfl rfl ?_
  refine x_getf (C := RX3) (T := TX3) (N := 10) (k := 7) (q := 39) w32 (by omega) rfl hiX3 (by decide) (by decide +kernel) rfl dX3_beginAnew_36 rfl ?_
  refine x_iload_n (q := 40) dX3_beginAnew_39 rfl rfl ?_
  have hv7_1_p1 := ((o32 (p + 1) (by omega)).trans ((o27 (p + 1) (by omega)).trans ((o22 (p + 1) (by omega)).trans ((o17 (p + 1) (by omega)).trans ((o12 (p + 1) (by omega)).trans ((o7 (p + 1) (by omega)).trans ((o2 (p + 1) (by omega)).trans tp1)))))))
  refine x_callS (q := 43) (c_fillI (by omega) (by decide) hv7_1_p1) eX3_beginAnew_43 gX3_beginAnew_J7_fill_53178 rfl (by decide) ⟨Nat.le_refl _, Nat.le_refl _⟩ dX3_beginAnew_40 rfl rfl (fun r40 M40 p40 => ?_)
  obtain ⟨rfl, w40, o40⟩ := p40
  refine x_aload_n (q := 44) dX3_beginAnew_43 rfl rfl ?_
  have hv8_2_p := ((o40 (p) (by omega)).trans w32)
  refine x_getf (C := RX3) (T := TX3) (N := 10) (k := 8) (q := 47) hv8_2_p (by omega) rfl hiX3 (by decide) (by decide +kernel) rfl dX3_beginAnew_44 rfl ?_
  refine x_iconst (v := -1) (q := 48) dX3_beginAnew_47 rfl (by decide) ?_
  have hv8_3_p2 := ((o40 (p + 2) (by omega)).trans ((o32 (p + 2) (by omega)).trans ((o27 (p + 2) (by omega)).trans ((o22 (p + 2) (by omega)).trans ((o17 (p + 2) (by omega)).trans ((o12 (p + 2) (by omega)).trans ((o7 (p + 2) (by omega)).trans ((o2 (p + 2) (by omega)).trans tp2))))))))
  refine x_callS (q := 51) (c_fillI (by omega) (by decide) hv8_3_p2) eX3_beginAnew_43 gX3_beginAnew_J7_fill_53178 rfl (by decide) ⟨Nat.le_refl _, Nat.le_refl _⟩ dX3_beginAnew_48 rfl rfl (fun r48 M48 p48 => ?_)
  obtain ⟨rfl, w48, o48⟩ := p48
  refine x_aload_n (q := 52) dX3_beginAnew_51 rfl rfl ?_
  have hv9_4_p := ((o48 (p) (by omega)).trans hv8_2_p)
  refine x_getf (C := RX3) (T := TX3) (N := 10) (k := 9) (q := 55) hv9_4_p (by omega) rfl hiX3 (by decide) (by decide +kernel) rfl dX3_beginAnew_52 rfl ?_
  refine x_iconst (v := 0) (q := 56) dX3_beginAnew_55 rfl (by decide) ?_
  have hv9_5_p3 := ((o48 (p + 3) (by omega)).trans ((o40 (p + 3) (by omega)).trans ((o32 (p + 3) (by omega)).trans ((o27 (p + 3) (by omega)).trans ((o22 (p + 3) (by omega)).trans ((o17 (p + 3) (by omega)).trans ((o12 (p + 3) (by omega)).trans ((o7 (p + 3) (by omega)).trans ((o2 (p + 3) (by omega)).trans tp3)))))))))
  refine x_callS (q := 59) (c_fillI (by omega) (by decide) hv9_5_p3) eX3_beginAnew_43 gX3_beginAnew_J7_fill_53178 rfl (by decide) ⟨Nat.le_refl _, Nat.le_refl _⟩ dX3_beginAnew_56 rfl rfl (fun r56 M56 p56 => ?_)
  obtain ⟨rfl, w56, o56⟩ := p56
  refine x_vret dX3_beginAnew_59 rfl rfl (Nat.le_refl _) ?_
  have hv10_6_p := ((o56 (p) (by omega)).trans hv9_4_p)
  have hv10_7_p1 := ((o56 (p + 1) (by omega)).trans ((o48 (p + 1) (by omega)).trans w40))
  have hv10_8_p2 := ((o56 (p + 2) (by omega)).trans w48)
  exact ⟨rfl, ⟨hv10_6_p, hv10_7_p1, hv10_8_p2, w56⟩, (fun j hj => ((o56 j (by omega)).trans ((o48 j (by omega)).trans ((o40 j (by omega)).trans ((o32 j (by omega)).trans ((o27 j (by omega)).trans ((o22 j (by omega)).trans ((o17 j (by omega)).trans ((o12 j (by omega)).trans ((o7 j (by omega)).trans ((o2 j (by omega)).trans rfl)))))))))))⟩

set_option maxHeartbeats 4000000 in
set_option maxRecDepth 100000 in
theorem c_Day_isMarried {n : Nat} {M : Nat → xE} {p : Nat} {t : Nat → Nat → Int32} {a : Int32} (hp : p + 3 < n) (hT : oX3 p t M) (ha : vp_in a 5) : xMet mX3_isMarried [.ref p, .int a] n M (fun r M' => M = M' ∧ xB (¬ t 8 a.toNatClampNeg = -1) r) := by
  obtain ⟨tp0, tp1, tp2, tp3⟩ := hT
  have hiX3 : ∀ w ∈ wsX30, w ∈ wsX3_isMarried := by decide +kernel
  refine xMet.of _ (by decide) rfl (Nat.le_of_ble_eq_true rfl) ?_
  refine x_aload_n (q := 1) dX3_isMarried_0 rfl rfl ?_
  refine x_getf (C := RX3) (T := TX3) (N := 10) (k := 8) (q := 4) tp0 (by omega) rfl hiX3 (by decide) (by decide +kernel) rfl dX3_isMarried_1 rfl ?_
  refine x_iload_n (q := 5) dX3_isMarried_4 rfl rfl ?_
  refine x_iald (q := 6) tp2 (by omega) (by assumption) dX3_isMarried_5 rfl ?_
  refine x_iconst (v := -1) (q := 7) dX3_isMarried_6 rfl (by decide) ?_
  refine x_icmp_eq (t := 14) (q := 10) dX3_isMarried_7 (by decide) rfl (fun c7 => ?_) (fun c7 => ?_)
  · refine x_iconst (v := 0) (q := 15) dX3_isMarried_14 rfl (by decide) ?_
    refine x_zret dX3_isMarried_15 rfl rfl rfl (Nat.le_refl _) ?_
    first | exact ⟨rfl, Or.inl ⟨by assumption, rfl⟩⟩ | exact ⟨rfl, Or.inr ⟨by simp_all, rfl⟩⟩
  · refine x_iconst (v := 1) (q := 11) dX3_isMarried_10 rfl (by decide) ?_
    refine x_goto (q := 15) dX3_isMarried_11 (by decide) ?_
    refine x_zret dX3_isMarried_15 rfl rfl rfl (Nat.le_refl _) ?_
    first | exact ⟨rfl, Or.inl ⟨by assumption, rfl⟩⟩ | exact ⟨rfl, Or.inr ⟨by simp_all, rfl⟩⟩

set_option maxHeartbeats 4000000 in
set_option maxRecDepth 100000 in
theorem c_Told_world {n : Nat} {M : Nat → xE} {p : Nat} {t : Nat → Nat → Int32} {a b c : Int32} (hp : p + 10 < n) (hT : oX8 p t M) (ha : vp_in a 4) : xMet mX8_tellWorld [.ref p, .int a, .int b, .int c] n M (fun r M' => none = r ∧ oX8 p (fun i => if i = 13 then upd (t 13) a.toNatClampNeg b else if i = 14 then upd (t 14) a.toNatClampNeg c else t i) M' ∧ xfr p (p + 11) M M') := by
  obtain ⟨tp0, tp1, tp2, tp3, tp4, tp5, tp6, tp7, tp8, tp9, tp10⟩ := hT
  have hiX8 : ∀ w ∈ wsX80, w ∈ wsX8_tellWorld := by decide +kernel
  refine xMet.of _ (by decide) rfl (Nat.le_of_ble_eq_true rfl) ?_
  refine x_aload_n (q := 1) dX8_tellWorld_0 rfl rfl ?_
  refine x_getf (C := RX8) (T := TX8) (N := 15) (k := 13) (q := 4) tp0 (by omega) rfl hiX8 (by decide) (by decide +kernel) rfl dX8_tellWorld_1 rfl ?_
  refine x_iload_n (q := 5) dX8_tellWorld_4 rfl rfl ?_
  refine x_iload_n (q := 6) dX8_tellWorld_5 rfl rfl ?_
  refine x_iast (q := 7) tp9 (by omega) (by assumption) dX8_tellWorld_6 rfl (fun M6 w6 o6 => ?_)
  refine x_aload_n (q := 8) dX8_tellWorld_7 rfl rfl ?_
  have hv1_1_p := ((o6 (p) (by omega)).trans tp0)
  refine x_getf (C := RX8) (T := TX8) (N := 15) (k := 14) (q := 11) hv1_1_p (by omega) rfl hiX8 (by decide) (by decide +kernel) rfl dX8_tellWorld_8 rfl ?_
  refine x_iload_n (q := 12) dX8_tellWorld_11 rfl rfl ?_
  refine x_iload_n (q := 13) dX8_tellWorld_12 rfl rfl ?_
  have hv1_2_p10 := ((o6 (p + 10) (by omega)).trans tp10)
  refine x_iast (q := 14) hv1_2_p10 (by omega) (by assumption) dX8_tellWorld_13 rfl (fun M13 w13 o13 => ?_)
  refine x_vret dX8_tellWorld_14 rfl rfl (Nat.le_refl _) ?_
  have hv2_3_p := ((o13 (p) (by omega)).trans hv1_1_p)
  have hv2_4_p1 := ((o13 (p + 1) (by omega)).trans ((o6 (p + 1) (by omega)).trans tp1))
  have hv2_5_p2 := ((o13 (p + 2) (by omega)).trans ((o6 (p + 2) (by omega)).trans tp2))
  have hv2_6_p3 := ((o13 (p + 3) (by omega)).trans ((o6 (p + 3) (by omega)).trans tp3))
  have hv2_7_p4 := ((o13 (p + 4) (by omega)).trans ((o6 (p + 4) (by omega)).trans tp4))
  have hv2_8_p5 := ((o13 (p + 5) (by omega)).trans ((o6 (p + 5) (by omega)).trans tp5))
  have hv2_9_p6 := ((o13 (p + 6) (by omega)).trans ((o6 (p + 6) (by omega)).trans tp6))
  have hv2_10_p7 := ((o13 (p + 7) (by omega)).trans ((o6 (p + 7) (by omega)).trans tp7))
  have hv2_11_p8 := ((o13 (p + 8) (by omega)).trans ((o6 (p + 8) (by omega)).trans tp8))
  have hv2_12_p9 := ((o13 (p + 9) (by omega)).trans w6)
  exact ⟨rfl, ⟨hv2_3_p, hv2_4_p1, hv2_5_p2, hv2_6_p3, hv2_7_p4, hv2_8_p5, hv2_9_p6, hv2_10_p7, hv2_11_p8, hv2_12_p9, w13⟩, (fun j hj => ((o13 j (by omega)).trans ((o6 j (by omega)).trans rfl)))⟩

set_option maxHeartbeats 4000000 in
set_option maxRecDepth 100000 in
theorem c_Told_copy {n : Nat} {M : Nat → xE} {p q : Nat} {t s : Nat → Nat → Int32} (hpq : p + 11 ≤ q ∨ q + 11 ≤ p) (hp : p + 10 < n) (hq : q + 10 < n) (hT : oX8 p t M) (hS : oX8 q s M) : xMet mX8_copyFrom [.ref p, .ref q] n M (fun r M' => none = r ∧ oX8 p s M' ∧ xfr p (p + 11) M M') := by
  obtain ⟨tp0, tp1, tp2, tp3, tp4, tp5, tp6, tp7, tp8, tp9, tp10⟩ := hT
  obtain ⟨sp0, sp1, sp2, sp3, sp4, sp5, sp6, sp7, sp8, sp9, sp10⟩ := hS
  have hiX8 : ∀ w ∈ wsX80, w ∈ wsX8_copyFrom := by decide +kernel
  refine xMet.of _ (by decide) rfl (Nat.le_of_ble_eq_true rfl) ?_
  refine x_aload_n (q := 1) dX8_copyFrom_0 rfl rfl ?_
  refine x_aload_n (q := 2) dX8_copyFrom_1 rfl rfl ?_
  refine x_getf (C := RX8) (T := TX8) (N := 15) (k := 0) (q := 5) sp0 (by omega) rfl hiX8 (by decide) (by decide +kernel) rfl dX8_copyFrom_2 rfl ?_
  refine x_put (C := RX8) (T := TX8) (N := 15) (k := 0) (q := 8) (ty := .int) tyX8_ok nmX8 tp0 (by omega) rfl hiX8 (by decide) (by decide +kernel) rfl (by decide +kernel) (fun _ => rfl) (fun _ => rfl) (Nat.le_of_ble_eq_true rfl) dX8_copyFrom_5 rfl (fun M5 w5 o5 => ?_)
  refine x_aload_n (q := 9) dX8_copyFrom_8 rfl rfl ?_
  refine x_aload_n (q := 10) dX8_copyFrom_9 rfl rfl ?_
  have hv1_1_q := ((o5 (q) (by omega)).trans sp0)
  refine x_getf (C := RX8) (T := TX8) (N := 15) (k := 3) (q := 13) hv1_1_q (by omega) rfl hiX8 (by decide) (by decide +kernel) rfl dX8_copyFrom_10 rfl ?_
  refine x_put (C := RX8) (T := TX8) (N := 15) (k := 3) (q := 16) (ty := .int) tyX8_ok nmX8 w5 (by omega) rfl hiX8 (by decide) (by decide +kernel) rfl (by decide +kernel) (fun _ => rfl) (fun _ => rfl) (Nat.le_of_ble_eq_true rfl) dX8_copyFrom_13 rfl (fun M13 w13 o13 => ?_)
  refine x_aload_n (q := 17) dX8_copyFrom_16 rfl rfl ?_
  refine x_aload_n (q := 18) dX8_copyFrom_17 rfl rfl ?_
  have hv2_2_q := ((o13 (q) (by omega)).trans hv1_1_q)
  refine x_getf (C := RX8) (T := TX8) (N := 15) (k := 8) (q := 21) hv2_2_q (by omega) rfl hiX8 (by decide) (by decide +kernel) rfl dX8_copyFrom_18 rfl ?_
  refine x_put (C := RX8) (T := TX8) (N := 15) (k := 8) (q := 24) (ty := .int) tyX8_ok nmX8 w13 (by omega) rfl hiX8 (by decide) (by decide +kernel) rfl (by decide +kernel) (fun _ => rfl) (fun _ => rfl) (Nat.le_of_ble_eq_true rfl) dX8_copyFrom_21 rfl (fun M21 w21 o21 => ?_)
  refine x_aload_n (q := 25) dX8_copyFrom_24 rfl rfl ?_
  refine x_aload_n (q := 26) dX8_copyFrom_25 rfl rfl ?_
  have hv3_3_q := ((o21 (q) (by omega)).trans hv2_2_q)
  refine x_getf (C := RX8) (T := TX8) (N := 15) (k := 9) (q := 29) hv3_3_q (by omega) rfl hiX8 (by decide) (by decide +kernel) rfl dX8_copyFrom_26 rfl ?_
  refine x_put (C := RX8) (T := TX8) (N := 15) (k := 9) (q := 32) (ty := .int) tyX8_ok nmX8 w21 (by omega) rfl hiX8 (by decide) (by decide +kernel) rfl (by decide +kernel) (fun _ => rfl) (fun _ => rfl) (Nat.le_of_ble_eq_true rfl) dX8_copyFrom_29 rfl (fun M29 w29 o29 => ?_)
  refine x_aload_n (q := 33) dX8_copyFrom_32 rfl rfl ?_
  refine x_aload_n (q := 34) dX8_copyFrom_33 rfl rfl ?_
  have hv4_4_q := ((o29 (q) (by omega)).trans hv3_3_q)
  refine x_getf (C := RX8) (T := TX8) (N := 15) (k := 12) (q := 37) hv4_4_q (by omega) rfl hiX8 (by decide) (by decide +kernel) rfl dX8_copyFrom_34 rfl ?_
  refine x_put (C := RX8) (T := TX8) (N := 15) (k := 12) (q := 40) (ty := .int) tyX8_ok nmX8 w29 (by omega) rfl hiX8 (by decide) (by decide +kernel) rfl (by decide +kernel) (fun _ => rfl) (fun _ => rfl) (Nat.le_of_ble_eq_true rfl) dX8_copyFrom_37 rfl (fun M37 w37 o37 => ?_)
  refine x_aload_n (q := 41) dX8_copyFrom_40 rfl rfl ?_
  have hv5_5_q := ((o37 (q) (by omega)).trans hv4_4_q)
  refine x_getf (C := RX8) (T := TX8) (N := 15) (k := 1) (q := 44) hv5_5_q (by omega) rfl hiX8 (by decide) (by decide +kernel) rfl dX8_copyFrom_41 rfl ?_
  refine x_iconst (v := 0) (q := 45) dX8_copyFrom_44 rfl (by decide) ?_
  refine x_aload_n (q := 46) dX8_copyFrom_45 rfl rfl ?_
  refine x_getf (C := RX8) (T := TX8) (N := 15) (k := 1) (q := 49) w37 (by omega) rfl hiX8 (by decide) (by decide +kernel) rfl dX8_copyFrom_46 rfl ?_
  refine x_iconst (v := 0) (q := 50) dX8_copyFrom_49 rfl (by decide) ?_
  refine x_iconst (v := 5) (q := 51) dX8_copyFrom_50 rfl (by decide) ?_
  have hv5_6_q1 := ((o37 (q + 1) (by omega)).trans ((o29 (q + 1) (by omega)).trans ((o21 (q + 1) (by omega)).trans ((o13 (q + 1) (by omega)).trans ((o5 (q + 1) (by omega)).trans sp1)))))
  have hv5_7_p1 := ((o37 (p + 1) (by omega)).trans ((o29 (p + 1) (by omega)).trans ((o21 (p + 1) (by omega)).trans ((o13 (p + 1) (by omega)).trans ((o5 (p + 1) (by omega)).trans tp1)))))
  refine x_copyi (q := 54) (by decide +kernel) (by decide +kernel) (by decide +kernel) (by decide +kernel) hv5_6_q1 (by omega) hv5_7_p1 (by omega) (by decide +kernel) (by decide +kernel) (by decide +kernel) (by decide +kernel) (by decide +kernel) (by decide) (by decide) dX8_copyFrom_51 rfl (fun M51 w51 o51 => ?_)
  refine x_aload_n (q := 55) dX8_copyFrom_54 rfl rfl ?_
  have hv6_8_q := ((o51 (q) (by omega)).trans hv5_5_q)
  refine x_getf (C := RX8) (T := TX8) (N := 15) (k := 2) (q := 58) hv6_8_q (by omega) rfl hiX8 (by decide) (by decide +kernel) rfl dX8_copyFrom_55 rfl ?_
  refine x_iconst (v := 0) (q := 59) dX8_copyFrom_58 rfl (by decide) ?_
  refine x_aload_n (q := 60) dX8_copyFrom_59 rfl rfl ?_
  have hv6_9_p := ((o51 (p) (by omega)).trans w37)
  refine x_getf (C := RX8) (T := TX8) (N := 15) (k := 2) (q := 63) hv6_9_p (by omega) rfl hiX8 (by decide) (by decide +kernel) rfl dX8_copyFrom_60 rfl ?_
  refine x_iconst (v := 0) (q := 64) dX8_copyFrom_63 rfl (by decide) ?_
  refine x_iconst (v := 5) (q := 65) dX8_copyFrom_64 rfl (by decide) ?_
  have hv6_10_q2 := ((o51 (q + 2) (by omega)).trans ((o37 (q + 2) (by omega)).trans ((o29 (q + 2) (by omega)).trans ((o21 (q + 2) (by omega)).trans ((o13 (q + 2) (by omega)).trans ((o5 (q + 2) (by omega)).trans sp2))))))
  have hv6_11_p2 := ((o51 (p + 2) (by omega)).trans ((o37 (p + 2) (by omega)).trans ((o29 (p + 2) (by omega)).trans ((o21 (p + 2) (by omega)).trans ((o13 (p + 2) (by omega)).trans ((o5 (p + 2) (by omega)).trans tp2))))))
  refine x_copyi (q := 68) (by decide +kernel) (by decide +kernel) (by decide +kernel) (by decide +kernel) hv6_10_q2 (by omega) hv6_11_p2 (by omega) (by decide +kernel) (by decide +kernel) (by decide +kernel) (by decide +kernel) (by decide +kernel) (by decide) (by decide) dX8_copyFrom_65 rfl (fun M65 w65 o65 => ?_)
  refine x_aload_n (q := 69) dX8_copyFrom_68 rfl rfl ?_
  have hv7_12_q := ((o65 (q) (by omega)).trans hv6_8_q)
  refine x_getf (C := RX8) (T := TX8) (N := 15) (k := 4) (q := 72) hv7_12_q (by omega) rfl hiX8 (by decide) (by decide +kernel) rfl dX8_copyFrom_69 rfl ?_
  refine x_iconst (v := 0) (q := 73) dX8_copyFrom_72 rfl (by decide) ?_
  refine x_aload_n (q := 74) dX8_copyFrom_73 rfl rfl ?_
  have hv7_13_p := ((o65 (p) (by omega)).trans hv6_9_p)
  refine x_getf (C := RX8) (T := TX8) (N := 15) (k := 4) (q := 77) hv7_13_p (by omega) rfl hiX8 (by decide) (by decide +kernel) rfl dX8_copyFrom_74 rfl ?_
  refine x_iconst (v := 0) (q := 78) dX8_copyFrom_77 rfl (by decide) ?_
  refine x_bipush (v := 6) (q := 80) dX8_copyFrom_78 rfl (by decide) ?_
  have hv7_14_q3 := ((o65 (q + 3) (by omega)).trans ((o51 (q + 3) (by omega)).trans ((o37 (q + 3) (by omega)).trans ((o29 (q + 3) (by omega)).trans ((o21 (q + 3) (by omega)).trans ((o13 (q + 3) (by omega)).trans ((o5 (q + 3) (by omega)).trans sp3)))))))
  have hv7_15_p3 := ((o65 (p + 3) (by omega)).trans ((o51 (p + 3) (by omega)).trans ((o37 (p + 3) (by omega)).trans ((o29 (p + 3) (by omega)).trans ((o21 (p + 3) (by omega)).trans ((o13 (p + 3) (by omega)).trans ((o5 (p + 3) (by omega)).trans tp3)))))))
  refine x_copyi (q := 83) (by decide +kernel) (by decide +kernel) (by decide +kernel) (by decide +kernel) hv7_14_q3 (by omega) hv7_15_p3 (by omega) (by decide +kernel) (by decide +kernel) (by decide +kernel) (by decide +kernel) (by decide +kernel) (by decide) (by decide) dX8_copyFrom_80 rfl (fun M80 w80 o80 => ?_)
  refine x_aload_n (q := 84) dX8_copyFrom_83 rfl rfl ?_
  have hv8_16_q := ((o80 (q) (by omega)).trans hv7_12_q)
  refine x_getf (C := RX8) (T := TX8) (N := 15) (k := 5) (q := 87) hv8_16_q (by omega) rfl hiX8 (by decide) (by decide +kernel) rfl dX8_copyFrom_84 rfl ?_
  refine x_iconst (v := 0) (q := 88) dX8_copyFrom_87 rfl (by decide) ?_
  refine x_aload_n (q := 89) dX8_copyFrom_88 rfl rfl ?_
  have hv8_17_p := ((o80 (p) (by omega)).trans hv7_13_p)
  refine x_getf (C := RX8) (T := TX8) (N := 15) (k := 5) (q := 92) hv8_17_p (by omega) rfl hiX8 (by decide) (by decide +kernel) rfl dX8_copyFrom_89 rfl ?_
  refine x_iconst (v := 0) (q := 93) dX8_copyFrom_92 rfl (by decide) ?_
  refine x_bipush (v := 6) (q := 95) dX8_copyFrom_93 rfl (by decide) ?_
  have hv8_18_q4 := ((o80 (q + 4) (by omega)).trans ((o65 (q + 4) (by omega)).trans ((o51 (q + 4) (by omega)).trans ((o37 (q + 4) (by omega)).trans ((o29 (q + 4) (by omega)).trans ((o21 (q + 4) (by omega)).trans ((o13 (q + 4) (by omega)).trans ((o5 (q + 4) (by omega)).trans sp4))))))))
  have hv8_19_p4 := ((o80 (p + 4) (by omega)).trans ((o65 (p + 4) (by omega)).trans ((o51 (p + 4) (by omega)).trans ((o37 (p + 4) (by omega)).trans ((o29 (p + 4) (by omega)).trans ((o21 (p + 4) (by omega)).trans ((o13 (p + 4) (by omega)).trans ((o5 (p + 4) (by omega)).trans tp4))))))))
  refine x_copyi (q := 98) (by decide +kernel) (by decide +kernel) (by decide +kernel) (by decide +kernel) hv8_18_q4 (by omega) hv8_19_p4 (by omega) (by decide +kernel) (by decide +kernel) (by decide +kernel) (by decide +kernel) (by decide +kernel) (by decide) (by decide) dX8_copyFrom_95 rfl (fun M95 w95 o95 => ?_)
  refine x_aload_n (q := 99) dX8_copyFrom_98 rfl rfl ?_
  have hv9_20_q := ((o95 (q) (by omega)).trans hv8_16_q)
  refine x_getf (C := RX8) (T := TX8) (N := 15) (k := 6) (q := 102) hv9_20_q (by omega) rfl hiX8 (by decide) (by decide +kernel) rfl dX8_copyFrom_99 rfl ?_
  refine x_iconst (v := 0) (q := 103) dX8_copyFrom_102 rfl (by decide) ?_
  refine x_aload_n (q := 104) dX8_copyFrom_103 rfl rfl ?_
  have hv9_21_p := ((o95 (p) (by omega)).trans hv8_17_p)
  refine x_getf (C := RX8) (T := TX8) (N := 15) (k := 6) (q := 107) hv9_21_p (by omega) rfl hiX8 (by decide) (by decide +kernel) rfl dX8_copyFrom_104 rfl ?_
  refine x_iconst (v := 0) (q := 108) dX8_copyFrom_107 rfl (by decide) ?_
  refine x_bipush (v := 6) (q := 110) dX8_copyFrom_108 rfl (by decide) ?_
  have hv9_22_q5 := ((o95 (q + 5) (by omega)).trans ((o80 (q + 5) (by omega)).trans ((o65 (q + 5) (by omega)).trans ((o51 (q + 5) (by omega)).trans ((o37 (q + 5) (by omega)).trans ((o29 (q + 5) (by omega)).trans ((o21 (q + 5) (by omega)).trans ((o13 (q + 5) (by omega)).trans ((o5 (q + 5) (by omega)).trans sp5)))))))))
  have hv9_23_p5 := ((o95 (p + 5) (by omega)).trans ((o80 (p + 5) (by omega)).trans ((o65 (p + 5) (by omega)).trans ((o51 (p + 5) (by omega)).trans ((o37 (p + 5) (by omega)).trans ((o29 (p + 5) (by omega)).trans ((o21 (p + 5) (by omega)).trans ((o13 (p + 5) (by omega)).trans ((o5 (p + 5) (by omega)).trans tp5)))))))))
  refine x_copyi (q := 113) (by decide +kernel) (by decide +kernel) (by decide +kernel) (by decide +kernel) hv9_22_q5 (by omega) hv9_23_p5 (by omega) (by decide +kernel) (by decide +kernel) (by decide +kernel) (by decide +kernel) (by decide +kernel) (by decide) (by decide) dX8_copyFrom_110 rfl (fun M110 w110 o110 => ?_)
  refine x_aload_n (q := 114) dX8_copyFrom_113 rfl rfl ?_
  have hv10_24_q := ((o110 (q) (by omega)).trans hv9_20_q)
  refine x_getf (C := RX8) (T := TX8) (N := 15) (k := 7) (q := 117) hv10_24_q (by omega) rfl hiX8 (by decide) (by decide +kernel) rfl dX8_copyFrom_114 rfl ?_
  refine x_iconst (v := 0) (q := 118) dX8_copyFrom_117 rfl (by decide) ?_
  refine x_aload_n (q := 119) dX8_copyFrom_118 rfl rfl ?_
  have hv10_25_p := ((o110 (p) (by omega)).trans hv9_21_p)
  refine x_getf (C := RX8) (T := TX8) (N := 15) (k := 7) (q := 122) hv10_25_p (by omega) rfl hiX8 (by decide) (by decide +kernel) rfl dX8_copyFrom_119 rfl ?_
  refine x_iconst (v := 0) (q := 123) dX8_copyFrom_122 rfl (by decide) ?_
  refine x_bipush (v := 6) (q := 125) dX8_copyFrom_123 rfl (by decide) ?_
  have hv10_26_q6 := ((o110 (q + 6) (by omega)).trans ((o95 (q + 6) (by omega)).trans ((o80 (q + 6) (by omega)).trans ((o65 (q + 6) (by omega)).trans ((o51 (q + 6) (by omega)).trans ((o37 (q + 6) (by omega)).trans ((o29 (q + 6) (by omega)).trans ((o21 (q + 6) (by omega)).trans ((o13 (q + 6) (by omega)).trans ((o5 (q + 6) (by omega)).trans sp6))))))))))
  have hv10_27_p6 := ((o110 (p + 6) (by omega)).trans ((o95 (p + 6) (by omega)).trans ((o80 (p + 6) (by omega)).trans ((o65 (p + 6) (by omega)).trans ((o51 (p + 6) (by omega)).trans ((o37 (p + 6) (by omega)).trans ((o29 (p + 6) (by omega)).trans ((o21 (p + 6) (by omega)).trans ((o13 (p + 6) (by omega)).trans ((o5 (p + 6) (by omega)).trans tp6))))))))))
  refine x_copyi (q := 128) (by decide +kernel) (by decide +kernel) (by decide +kernel) (by decide +kernel) hv10_26_q6 (by omega) hv10_27_p6 (by omega) (by decide +kernel) (by decide +kernel) (by decide +kernel) (by decide +kernel) (by decide +kernel) (by decide) (by decide) dX8_copyFrom_125 rfl (fun M125 w125 o125 => ?_)
  refine x_aload_n (q := 129) dX8_copyFrom_128 rfl rfl ?_
  have hv11_28_q := ((o125 (q) (by omega)).trans hv10_24_q)
  refine x_getf (C := RX8) (T := TX8) (N := 15) (k := 10) (q := 132) hv11_28_q (by omega) rfl hiX8 (by decide) (by decide +kernel) rfl dX8_copyFrom_129 rfl ?_
  refine x_iconst (v := 0) (q := 133) dX8_copyFrom_132 rfl (by decide) ?_
  refine x_aload_n (q := 134) dX8_copyFrom_133 rfl rfl ?_
  have hv11_29_p := ((o125 (p) (by omega)).trans hv10_25_p)
  refine x_getf (C := RX8) (T := TX8) (N := 15) (k := 10) (q := 137) hv11_29_p (by omega) rfl hiX8 (by decide) (by decide +kernel) rfl dX8_copyFrom_134 rfl ?_
  refine x_iconst (v := 0) (q := 138) dX8_copyFrom_137 rfl (by decide) ?_
  refine x_iconst (v := 5) (q := 139) dX8_copyFrom_138 rfl (by decide) ?_
  have hv11_30_q7 := ((o125 (q + 7) (by omega)).trans ((o110 (q + 7) (by omega)).trans ((o95 (q + 7) (by omega)).trans ((o80 (q + 7) (by omega)).trans ((o65 (q + 7) (by omega)).trans ((o51 (q + 7) (by omega)).trans ((o37 (q + 7) (by omega)).trans ((o29 (q + 7) (by omega)).trans ((o21 (q + 7) (by omega)).trans ((o13 (q + 7) (by omega)).trans ((o5 (q + 7) (by omega)).trans sp7)))))))))))
  have hv11_31_p7 := ((o125 (p + 7) (by omega)).trans ((o110 (p + 7) (by omega)).trans ((o95 (p + 7) (by omega)).trans ((o80 (p + 7) (by omega)).trans ((o65 (p + 7) (by omega)).trans ((o51 (p + 7) (by omega)).trans ((o37 (p + 7) (by omega)).trans ((o29 (p + 7) (by omega)).trans ((o21 (p + 7) (by omega)).trans ((o13 (p + 7) (by omega)).trans ((o5 (p + 7) (by omega)).trans tp7)))))))))))
  refine x_copyi (q := 142) (by decide +kernel) (by decide +kernel) (by decide +kernel) (by decide +kernel) hv11_30_q7 (by omega) hv11_31_p7 (by omega) (by decide +kernel) (by decide +kernel) (by decide +kernel) (by decide +kernel) (by decide +kernel) (by decide) (by decide) dX8_copyFrom_139 rfl (fun M139 w139 o139 => ?_)
  refine x_aload_n (q := 143) dX8_copyFrom_142 rfl rfl ?_
  have hv12_32_q := ((o139 (q) (by omega)).trans hv11_28_q)
  refine x_getf (C := RX8) (T := TX8) (N := 15) (k := 11) (q := 146) hv12_32_q (by omega) rfl hiX8 (by decide) (by decide +kernel) rfl dX8_copyFrom_143 rfl ?_
  refine x_iconst (v := 0) (q := 147) dX8_copyFrom_146 rfl (by decide) ?_
  refine x_aload_n (q := 148) dX8_copyFrom_147 rfl rfl ?_
  have hv12_33_p := ((o139 (p) (by omega)).trans hv11_29_p)
  refine x_getf (C := RX8) (T := TX8) (N := 15) (k := 11) (q := 151) hv12_33_p (by omega) rfl hiX8 (by decide) (by decide +kernel) rfl dX8_copyFrom_148 rfl ?_
  refine x_iconst (v := 0) (q := 152) dX8_copyFrom_151 rfl (by decide) ?_
  refine x_iconst (v := 5) (q := 153) dX8_copyFrom_152 rfl (by decide) ?_
  have hv12_34_q8 := ((o139 (q + 8) (by omega)).trans ((o125 (q + 8) (by omega)).trans ((o110 (q + 8) (by omega)).trans ((o95 (q + 8) (by omega)).trans ((o80 (q + 8) (by omega)).trans ((o65 (q + 8) (by omega)).trans ((o51 (q + 8) (by omega)).trans ((o37 (q + 8) (by omega)).trans ((o29 (q + 8) (by omega)).trans ((o21 (q + 8) (by omega)).trans ((o13 (q + 8) (by omega)).trans ((o5 (q + 8) (by omega)).trans sp8))))))))))))
  have hv12_35_p8 := ((o139 (p + 8) (by omega)).trans ((o125 (p + 8) (by omega)).trans ((o110 (p + 8) (by omega)).trans ((o95 (p + 8) (by omega)).trans ((o80 (p + 8) (by omega)).trans ((o65 (p + 8) (by omega)).trans ((o51 (p + 8) (by omega)).trans ((o37 (p + 8) (by omega)).trans ((o29 (p + 8) (by omega)).trans ((o21 (p + 8) (by omega)).trans ((o13 (p + 8) (by omega)).trans ((o5 (p + 8) (by omega)).trans tp8))))))))))))
  refine x_copyi (q := 156) (by decide +kernel) (by decide +kernel) (by decide +kernel) (by decide +kernel) hv12_34_q8 (by omega) hv12_35_p8 (by omega) (by decide +kernel) (by decide +kernel) (by decide +kernel) (by decide +kernel) (by decide +kernel) (by decide) (by decide) dX8_copyFrom_153 rfl (fun M153 w153 o153 => ?_)
  refine x_aload_n (q := 157) dX8_copyFrom_156 rfl rfl ?_
  have hv13_36_q := ((o153 (q) (by omega)).trans hv12_32_q)
  refine x_getf (C := RX8) (T := TX8) (N := 15) (k := 13) (q := 160) hv13_36_q (by omega) rfl hiX8 (by decide) (by decide +kernel) rfl dX8_copyFrom_157 rfl ?_
  refine x_iconst (v := 0) (q := 161) dX8_copyFrom_160 rfl (by decide) ?_
  refine x_aload_n (q := 162) dX8_copyFrom_161 rfl rfl ?_
  have hv13_37_p := ((o153 (p) (by omega)).trans hv12_33_p)
  refine x_getf (C := RX8) (T := TX8) (N := 15) (k := 13) (q := 165) hv13_37_p (by omega) rfl hiX8 (by decide) (by decide +kernel) rfl dX8_copyFrom_162 rfl ?_
  refine x_iconst (v := 0) (q := 166) dX8_copyFrom_165 rfl (by decide) ?_
  refine x_iconst (v := 4) (q := 167) dX8_copyFrom_166 rfl (by decide) ?_
  have hv13_38_q9 := ((o153 (q + 9) (by omega)).trans ((o139 (q + 9) (by omega)).trans ((o125 (q + 9) (by omega)).trans ((o110 (q + 9) (by omega)).trans ((o95 (q + 9) (by omega)).trans ((o80 (q + 9) (by omega)).trans ((o65 (q + 9) (by omega)).trans ((o51 (q + 9) (by omega)).trans ((o37 (q + 9) (by omega)).trans ((o29 (q + 9) (by omega)).trans ((o21 (q + 9) (by omega)).trans ((o13 (q + 9) (by omega)).trans ((o5 (q + 9) (by omega)).trans sp9)))))))))))))
  have hv13_39_p9 := ((o153 (p + 9) (by omega)).trans ((o139 (p + 9) (by omega)).trans ((o125 (p + 9) (by omega)).trans ((o110 (p + 9) (by omega)).trans ((o95 (p + 9) (by omega)).trans ((o80 (p + 9) (by omega)).trans ((o65 (p + 9) (by omega)).trans ((o51 (p + 9) (by omega)).trans ((o37 (p + 9) (by omega)).trans ((o29 (p + 9) (by omega)).trans ((o21 (p + 9) (by omega)).trans ((o13 (p + 9) (by omega)).trans ((o5 (p + 9) (by omega)).trans tp9)))))))))))))
  refine x_copyi (q := 170) (by decide +kernel) (by decide +kernel) (by decide +kernel) (by decide +kernel) hv13_38_q9 (by omega) hv13_39_p9 (by omega) (by decide +kernel) (by decide +kernel) (by decide +kernel) (by decide +kernel) (by decide +kernel) (by decide) (by decide) dX8_copyFrom_167 rfl (fun M167 w167 o167 => ?_)
  refine x_aload_n (q := 171) dX8_copyFrom_170 rfl rfl ?_
  have hv14_40_q := ((o167 (q) (by omega)).trans hv13_36_q)
  refine x_getf (C := RX8) (T := TX8) (N := 15) (k := 14) (q := 174) hv14_40_q (by omega) rfl hiX8 (by decide) (by decide +kernel) rfl dX8_copyFrom_171 rfl ?_
  refine x_iconst (v := 0) (q := 175) dX8_copyFrom_174 rfl (by decide) ?_
  refine x_aload_n (q := 176) dX8_copyFrom_175 rfl rfl ?_
  have hv14_41_p := ((o167 (p) (by omega)).trans hv13_37_p)
  refine x_getf (C := RX8) (T := TX8) (N := 15) (k := 14) (q := 179) hv14_41_p (by omega) rfl hiX8 (by decide) (by decide +kernel) rfl dX8_copyFrom_176 rfl ?_
  refine x_iconst (v := 0) (q := 180) dX8_copyFrom_179 rfl (by decide) ?_
  refine x_iconst (v := 4) (q := 181) dX8_copyFrom_180 rfl (by decide) ?_
  have hv14_42_q10 := ((o167 (q + 10) (by omega)).trans ((o153 (q + 10) (by omega)).trans ((o139 (q + 10) (by omega)).trans ((o125 (q + 10) (by omega)).trans ((o110 (q + 10) (by omega)).trans ((o95 (q + 10) (by omega)).trans ((o80 (q + 10) (by omega)).trans ((o65 (q + 10) (by omega)).trans ((o51 (q + 10) (by omega)).trans ((o37 (q + 10) (by omega)).trans ((o29 (q + 10) (by omega)).trans ((o21 (q + 10) (by omega)).trans ((o13 (q + 10) (by omega)).trans ((o5 (q + 10) (by omega)).trans sp10))))))))))))))
  have hv14_43_p10 := ((o167 (p + 10) (by omega)).trans ((o153 (p + 10) (by omega)).trans ((o139 (p + 10) (by omega)).trans ((o125 (p + 10) (by omega)).trans ((o110 (p + 10) (by omega)).trans ((o95 (p + 10) (by omega)).trans ((o80 (p + 10) (by omega)).trans ((o65 (p + 10) (by omega)).trans ((o51 (p + 10) (by omega)).trans ((o37 (p + 10) (by omega)).trans ((o29 (p + 10) (by omega)).trans ((o21 (p + 10) (by omega)).trans ((o13 (p + 10) (by omega)).trans ((o5 (p + 10) (by omega)).trans tp10))))))))))))))
  refine x_copyi (q := 184) (by decide +kernel) (by decide +kernel) (by decide +kernel) (by decide +kernel) hv14_42_q10 (by omega) hv14_43_p10 (by omega) (by decide +kernel) (by decide +kernel) (by decide +kernel) (by decide +kernel) (by decide +kernel) (by decide) (by decide) dX8_copyFrom_181 rfl (fun M181 w181 o181 => ?_)
  have hv15_44_p1 := ((o181 (p + 1) (by omega)).trans ((o167 (p + 1) (by omega)).trans ((o153 (p + 1) (by omega)).trans ((o139 (p + 1) (by omega)).trans ((o125 (p + 1) (by omega)).trans ((o110 (p + 1) (by omega)).trans ((o95 (p + 1) (by omega)).trans ((o80 (p + 1) (by omega)).trans ((o65 (p + 1) (by omega)).trans w51)))))))))
  refine x_fixI (f' := s 1) hv15_44_p1 (by omega) (fun j hj => pk_cpy_in (Nat.zero_le j) (by simpa using hj) |>.trans (by simp)) (fun Mf1 wf1 of1 => ?_)
  have hv16_45_p2 := ((of1 (p + 2) (by omega)).trans ((o181 (p + 2) (by omega)).trans ((o167 (p + 2) (by omega)).trans ((o153 (p + 2) (by omega)).trans ((o139 (p + 2) (by omega)).trans ((o125 (p + 2) (by omega)).trans ((o110 (p + 2) (by omega)).trans ((o95 (p + 2) (by omega)).trans ((o80 (p + 2) (by omega)).trans w65)))))))))
  refine x_fixI (f' := s 2) hv16_45_p2 (by omega) (fun j hj => pk_cpy_in (Nat.zero_le j) (by simpa using hj) |>.trans (by simp)) (fun Mf2 wf2 of2 => ?_)
  have hv17_46_p3 := ((of2 (p + 3) (by omega)).trans ((of1 (p + 3) (by omega)).trans ((o181 (p + 3) (by omega)).trans ((o167 (p + 3) (by omega)).trans ((o153 (p + 3) (by omega)).trans ((o139 (p + 3) (by omega)).trans ((o125 (p + 3) (by omega)).trans ((o110 (p + 3) (by omega)).trans ((o95 (p + 3) (by omega)).trans w80)))))))))
  refine x_fixI (f' := s 4) hv17_46_p3 (by omega) (fun j hj => pk_cpy_in (Nat.zero_le j) (by simpa using hj) |>.trans (by simp)) (fun Mf3 wf3 of3 => ?_)
  have hv18_47_p4 := ((of3 (p + 4) (by omega)).trans ((of2 (p + 4) (by omega)).trans ((of1 (p + 4) (by omega)).trans ((o181 (p + 4) (by omega)).trans ((o167 (p + 4) (by omega)).trans ((o153 (p + 4) (by omega)).trans ((o139 (p + 4) (by omega)).trans ((o125 (p + 4) (by omega)).trans ((o110 (p + 4) (by omega)).trans w95)))))))))
  refine x_fixI (f' := s 5) hv18_47_p4 (by omega) (fun j hj => pk_cpy_in (Nat.zero_le j) (by simpa using hj) |>.trans (by simp)) (fun Mf4 wf4 of4 => ?_)
  have hv19_48_p5 := ((of4 (p + 5) (by omega)).trans ((of3 (p + 5) (by omega)).trans ((of2 (p + 5) (by omega)).trans ((of1 (p + 5) (by omega)).trans ((o181 (p + 5) (by omega)).trans ((o167 (p + 5) (by omega)).trans ((o153 (p + 5) (by omega)).trans ((o139 (p + 5) (by omega)).trans ((o125 (p + 5) (by omega)).trans w110)))))))))
  refine x_fixI (f' := s 6) hv19_48_p5 (by omega) (fun j hj => pk_cpy_in (Nat.zero_le j) (by simpa using hj) |>.trans (by simp)) (fun Mf5 wf5 of5 => ?_)
  have hv20_49_p6 := ((of5 (p + 6) (by omega)).trans ((of4 (p + 6) (by omega)).trans ((of3 (p + 6) (by omega)).trans ((of2 (p + 6) (by omega)).trans ((of1 (p + 6) (by omega)).trans ((o181 (p + 6) (by omega)).trans ((o167 (p + 6) (by omega)).trans ((o153 (p + 6) (by omega)).trans ((o139 (p + 6) (by omega)).trans w125)))))))))
  refine x_fixI (f' := s 7) hv20_49_p6 (by omega) (fun j hj => pk_cpy_in (Nat.zero_le j) (by simpa using hj) |>.trans (by simp)) (fun Mf6 wf6 of6 => ?_)
  have hv21_50_p7 := ((of6 (p + 7) (by omega)).trans ((of5 (p + 7) (by omega)).trans ((of4 (p + 7) (by omega)).trans ((of3 (p + 7) (by omega)).trans ((of2 (p + 7) (by omega)).trans ((of1 (p + 7) (by omega)).trans ((o181 (p + 7) (by omega)).trans ((o167 (p + 7) (by omega)).trans ((o153 (p + 7) (by omega)).trans w139)))))))))
  refine x_fixI (f' := s 10) hv21_50_p7 (by omega) (fun j hj => pk_cpy_in (Nat.zero_le j) (by simpa using hj) |>.trans (by simp)) (fun Mf7 wf7 of7 => ?_)
  have hv22_51_p8 := ((of7 (p + 8) (by omega)).trans ((of6 (p + 8) (by omega)).trans ((of5 (p + 8) (by omega)).trans ((of4 (p + 8) (by omega)).trans ((of3 (p + 8) (by omega)).trans ((of2 (p + 8) (by omega)).trans ((of1 (p + 8) (by omega)).trans ((o181 (p + 8) (by omega)).trans ((o167 (p + 8) (by omega)).trans w153)))))))))
  refine x_fixI (f' := s 11) hv22_51_p8 (by omega) (fun j hj => pk_cpy_in (Nat.zero_le j) (by simpa using hj) |>.trans (by simp)) (fun Mf8 wf8 of8 => ?_)
  have hv23_52_p9 := ((of8 (p + 9) (by omega)).trans ((of7 (p + 9) (by omega)).trans ((of6 (p + 9) (by omega)).trans ((of5 (p + 9) (by omega)).trans ((of4 (p + 9) (by omega)).trans ((of3 (p + 9) (by omega)).trans ((of2 (p + 9) (by omega)).trans ((of1 (p + 9) (by omega)).trans ((o181 (p + 9) (by omega)).trans w167)))))))))
  refine x_fixI (f' := s 13) hv23_52_p9 (by omega) (fun j hj => pk_cpy_in (Nat.zero_le j) (by simpa using hj) |>.trans (by simp)) (fun Mf9 wf9 of9 => ?_)
  have hv24_53_p10 := ((of9 (p + 10) (by omega)).trans ((of8 (p + 10) (by omega)).trans ((of7 (p + 10) (by omega)).trans ((of6 (p + 10) (by omega)).trans ((of5 (p + 10) (by omega)).trans ((of4 (p + 10) (by omega)).trans ((of3 (p + 10) (by omega)).trans ((of2 (p + 10) (by omega)).trans ((of1 (p + 10) (by omega)).trans w181)))))))))
  refine x_fixI (f' := s 14) hv24_53_p10 (by omega) (fun j hj => pk_cpy_in (Nat.zero_le j) (by simpa using hj) |>.trans (by simp)) (fun Mf10 wf10 of10 => ?_)
  refine x_vret dX8_copyFrom_184 rfl rfl (Nat.le_refl _) ?_
  have hv25_54_p := ((of10 (p) (by omega)).trans ((of9 (p) (by omega)).trans ((of8 (p) (by omega)).trans ((of7 (p) (by omega)).trans ((of6 (p) (by omega)).trans ((of5 (p) (by omega)).trans ((of4 (p) (by omega)).trans ((of3 (p) (by omega)).trans ((of2 (p) (by omega)).trans ((of1 (p) (by omega)).trans ((o181 (p) (by omega)).trans hv14_41_p)))))))))))
  have hv25_55_p1 := ((of10 (p + 1) (by omega)).trans ((of9 (p + 1) (by omega)).trans ((of8 (p + 1) (by omega)).trans ((of7 (p + 1) (by omega)).trans ((of6 (p + 1) (by omega)).trans ((of5 (p + 1) (by omega)).trans ((of4 (p + 1) (by omega)).trans ((of3 (p + 1) (by omega)).trans ((of2 (p + 1) (by omega)).trans wf1)))))))))
  have hv25_56_p2 := ((of10 (p + 2) (by omega)).trans ((of9 (p + 2) (by omega)).trans ((of8 (p + 2) (by omega)).trans ((of7 (p + 2) (by omega)).trans ((of6 (p + 2) (by omega)).trans ((of5 (p + 2) (by omega)).trans ((of4 (p + 2) (by omega)).trans ((of3 (p + 2) (by omega)).trans wf2))))))))
  have hv25_57_p3 := ((of10 (p + 3) (by omega)).trans ((of9 (p + 3) (by omega)).trans ((of8 (p + 3) (by omega)).trans ((of7 (p + 3) (by omega)).trans ((of6 (p + 3) (by omega)).trans ((of5 (p + 3) (by omega)).trans ((of4 (p + 3) (by omega)).trans wf3)))))))
  have hv25_58_p4 := ((of10 (p + 4) (by omega)).trans ((of9 (p + 4) (by omega)).trans ((of8 (p + 4) (by omega)).trans ((of7 (p + 4) (by omega)).trans ((of6 (p + 4) (by omega)).trans ((of5 (p + 4) (by omega)).trans wf4))))))
  have hv25_59_p5 := ((of10 (p + 5) (by omega)).trans ((of9 (p + 5) (by omega)).trans ((of8 (p + 5) (by omega)).trans ((of7 (p + 5) (by omega)).trans ((of6 (p + 5) (by omega)).trans wf5)))))
  have hv25_60_p6 := ((of10 (p + 6) (by omega)).trans ((of9 (p + 6) (by omega)).trans ((of8 (p + 6) (by omega)).trans ((of7 (p + 6) (by omega)).trans wf6))))
  have hv25_61_p7 := ((of10 (p + 7) (by omega)).trans ((of9 (p + 7) (by omega)).trans ((of8 (p + 7) (by omega)).trans wf7)))
  have hv25_62_p8 := ((of10 (p + 8) (by omega)).trans ((of9 (p + 8) (by omega)).trans wf8))
  have hv25_63_p9 := ((of10 (p + 9) (by omega)).trans wf9)
  exact ⟨rfl, ⟨hv25_54_p, hv25_55_p1, hv25_56_p2, hv25_57_p3, hv25_58_p4, hv25_59_p5, hv25_60_p6, hv25_61_p7, hv25_62_p8, hv25_63_p9, wf10⟩, (fun j hj => ((of10 j (by omega)).trans ((of9 j (by omega)).trans ((of8 j (by omega)).trans ((of7 j (by omega)).trans ((of6 j (by omega)).trans ((of5 j (by omega)).trans ((of4 j (by omega)).trans ((of3 j (by omega)).trans ((of2 j (by omega)).trans ((of1 j (by omega)).trans ((o181 j (by omega)).trans ((o167 j (by omega)).trans ((o153 j (by omega)).trans ((o139 j (by omega)).trans ((o125 j (by omega)).trans ((o110 j (by omega)).trans ((o95 j (by omega)).trans ((o80 j (by omega)).trans ((o65 j (by omega)).trans ((o51 j (by omega)).trans ((o37 j (by omega)).trans ((o29 j (by omega)).trans ((o21 j (by omega)).trans ((o13 j (by omega)).trans ((o5 j (by omega)).trans rfl))))))))))))))))))))))))))⟩

