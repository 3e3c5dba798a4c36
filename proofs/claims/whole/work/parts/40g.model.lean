set_option maxHeartbeats 4000000 in
set_option maxRecDepth 100000 in
theorem c_m_undo {n : Nat} {M : Nat → xE} {t : Nat → Nat → Int32} {u : Nat → Nat → Int64} (hn : 113 < n) (hM : oX11 99 t u M) {sz : Nat} (hsz : sz ≤ 8) (h2 : t 2 0 = nI sz) : xMet mX11_undo [.ref 99] n M (fun r M' => (if sz = 0 then (M = M' ∧ some (.int (-4)) = r) else (some (.int (nI (sz - 1))) = r ∧ oX11 99 (dT t (cpD (t 1) (66 + 22 * (sz - 1)) 0 22) (sz - 1)) u M' ∧ xfr 99 114 M M'))) := by
  have hM0 := hM
  obtain ⟨mp0, mp1, mp2, mp3, mp4, mp5, mp6, mp7, mp8, mp9, mp10, mp11, mp12, mp13, mp14⟩ := hM
  have hiX11 : ∀ w ∈ wsX110, w ∈ wsX11_undo := by decide +kernel
  refine xMet.of _ (by decide) rfl (Nat.le_of_ble_eq_true rfl) ?_
  refine x_aload_n (q := 1) dX11_undo_0 rfl rfl ?_
  refine x_getf (C := RX11) (T := TX11) (N := 29) (k := 2) (q := 4) mp0 (by omega) rfl hiX11 (by decide) (by decide +kernel) rfl dX11_undo_1 rfl ?_
  rw [h2]
  refine x_if_ne (t := 10) (q := 7) dX11_undo_4 (by decide) rfl (fun c4 => ?_) (fun c4 => ?_)
  · refine x_aload_n (q := 11) dX11_undo_10 rfl rfl ?_
    refine x_dup (q := 12) dX11_undo_11 rfl rfl ?_
    refine x_getf (C := RX11) (T := TX11) (N := 29) (k := 2) (q := 15) mp0 (by omega) rfl hiX11 (by decide) (by decide +kernel) rfl dX11_undo_12 rfl ?_
    rw [h2]
    refine x_iconst (v := 1) (q := 16) dX11_undo_15 rfl (by decide) ?_
    refine x_isub (q := 17) dX11_undo_16 rfl ?_
    rw [show (nI sz - 1 : Int32) = nI (sz - 1) from pk_sub (b := 1) (Nat.pos_of_ne_zero (fun h => c4 (by rw [h]; rfl)))]
    refine x_put (C := RX11) (T := TX11) (N := 29) (k := 2) (q := 20) (ty := .int) tyX11_ok nmX11 mp0 (by omega) rfl hiX11 (by decide) (by decide +kernel) rfl (by decide +kernel) (fun _ => rfl) (fun _ => rfl) (Nat.le_of_ble_eq_true rfl) dX11_undo_17 rfl (fun M17 w17 o17 => ?_)
    refine x_aload_n (q := 21) dX11_undo_20 rfl rfl ?_
    refine x_bipush (v := 66) (q := 23) dX11_undo_21 rfl (by decide) ?_
    refine x_bipush (v := 22) (q := 25) dX11_undo_23 rfl (by decide) ?_
    refine x_aload_n (q := 26) dX11_undo_25 rfl rfl ?_
    refine x_getf (C := RX11) (T := TX11) (N := 29) (k := 2) (q := 29) w17 (by omega) rfl hiX11 (by decide) (by decide +kernel) rfl dX11_undo_26 rfl ?_
    refine x_imul (q := 30) dX11_undo_29 rfl ?_
    refine x_iadd (q := 31) dX11_undo_30 rfl ?_
    rw [show (66 + 22 * nI (sz - 1) : Int32) = nI (66 + 22 * (sz - 1)) from nIs rfl (nIm rfl rfl)]
    refine x_iconst (v := 0) (q := 32) dX11_undo_31 rfl (by decide) ?_
    have hs0 : 0 < sz := Nat.pos_of_ne_zero (fun h => c4 (by rw [h]; rfl))
    have hv1_1_100 := ((o17 (100) (by omega)).trans mp1)
    have hv1_2_101 := ((o17 (101) (by omega)).trans mp2)
    have hv1_3_102 := ((o17 (102) (by omega)).trans mp3)
    have hv1_4_103 := ((o17 (103) (by omega)).trans mp4)
    have hv1_5_104 := ((o17 (104) (by omega)).trans mp5)
    have hv1_6_105 := ((o17 (105) (by omega)).trans mp6)
    have hv1_7_106 := ((o17 (106) (by omega)).trans mp7)
    have hv1_8_107 := ((o17 (107) (by omega)).trans mp8)
    have hv1_9_108 := ((o17 (108) (by omega)).trans mp9)
    have hv1_10_109 := ((o17 (109) (by omega)).trans mp10)
    have hv1_11_110 := ((o17 (110) (by omega)).trans mp11)
    have hv1_12_111 := ((o17 (111) (by omega)).trans mp12)
    have hv1_13_112 := ((o17 (112) (by omega)).trans mp13)
    have hv1_14_113 := ((o17 (113) (by omega)).trans mp14)
    refine x_callV (q := 35) (ci := 11) (c_m_copyDay (t := dT t (t 1) (sz - 1)) (u := u) (f := 66 + 22 * (sz - 1)) (o := 0) hn ⟨w17, hv1_1_100, hv1_2_101, hv1_3_102, hv1_4_103, hv1_5_104, hv1_6_105, hv1_7_106, hv1_8_107, hv1_9_108, hv1_10_109, hv1_11_110, hv1_12_111, hv1_13_112, hv1_14_113⟩ (Or.inr (by omega)) (by omega) (by omega)) eX11_undo_198 gX11_undo_X11_copyDay w17 (by omega) rfl rfl rfl (Nat.le_of_ble_eq_true rfl) ⟨Nat.le_refl _, Nat.le_refl _⟩ dX11_undo_32 rfl rfl (fun r32 M32 p32 => ?_)
    obtain ⟨rfl, hV32, fr32⟩ := p32
    have hU32 := hV32
    obtain ⟨y32_0, y32_1, y32_2, y32_3, y32_4, y32_5, y32_6, y32_7, y32_8, y32_9, y32_10, y32_11, y32_12, y32_13, y32_14⟩ := hV32
    refine x_aload_n (q := 36) dX11_undo_35 rfl rfl ?_
    refine x_getf (C := RX11) (T := TX11) (N := 29) (k := 2) (q := 39) y32_0 (by omega) rfl hiX11 (by decide) (by decide +kernel) rfl dX11_undo_36 rfl ?_
    show X mX11_undo 0 0 _ _ [.int (nI (sz - 1))] _ _ _
    refine x_iret dX11_undo_39 rfl rfl (Nat.le_refl _) ?_
    rw [if_neg (by omega)]
    exact ⟨rfl, ⟨y32_0, y32_1, y32_2, y32_3, y32_4, y32_5, y32_6, y32_7, y32_8, y32_9, y32_10, y32_11, y32_12, y32_13, y32_14⟩, fun j hj => ((fr32 j (by omega)).trans ((o17 j (by omega)).trans rfl))⟩
  · refine x_bipush (v := -4) (q := 9) dX11_undo_7 rfl (by decide) ?_
    refine x_iret dX11_undo_9 rfl rfl (Nat.le_refl _) ?_
    rw [if_pos (by have h := (nIne (a := sz) (b := 0) (by omega) (by omega)).mp c4; exact h)]
    exact ⟨rfl, rfl⟩

set_option maxHeartbeats 4000000 in
set_option maxRecDepth 100000 in
theorem c_m_keep {n : Nat} {M : Nat → xE} {t : Nat → Nat → Int32} {u : Nat → Nat → Int64} (hn : 113 < n) (hM : oX11 99 t u M) {δ : Nat → Nat → Int32} (hd : ∀ k, k < 22 → t 1 k = dv δ k) {a : Int32} : xMet mX11_keep [.ref 99, .int a] n M (fun r M' => (if inB a 2 = true then (some (.int (δ 0 0)) = r ∧ oX11 99 (fun z => if z = 1 then cpD (t 1) 0 (22 + 22 * a.toNatClampNeg) 22 else if z = 3 then upd (t 3) a.toNatClampNeg 1 else t z) u M' ∧ xfr 99 114 M M') else (M = M' ∧ some (.int (-2)) = r))) := by
  have hM0 := hM
  obtain ⟨mp0, mp1, mp2, mp3, mp4, mp5, mp6, mp7, mp8, mp9, mp10, mp11, mp12, mp13, mp14⟩ := hM
  have hiX11 : ∀ w ∈ wsX110, w ∈ wsX11_keep := by decide +kernel
  refine xMet.of _ (by decide) rfl (Nat.le_of_ble_eq_true rfl) ?_
  refine x_iload_n (q := 1) dX11_keep_0 rfl rfl ?_
  refine x_callS (q := 4) c_m_isFlag eX11_keep_181 gX11_keep_X11_isFlag rfl (Nat.le_of_ble_eq_true rfl) ⟨Nat.le_refl _, Nat.le_refl _⟩ dX11_keep_1 rfl rfl (fun r1 M1 p1 => ?_)
  obtain ⟨rfl, p1⟩ := p1
  rcases p1 with ⟨b1, rfl⟩ | ⟨b1, rfl⟩
  · obtain ⟨a1, ha1, rfl⟩ := vp_in_of (inB_t.mp b1) (by decide)
    refine x_if_ne (t := 10) (q := 7) dX11_keep_4 (by decide) rfl (fun c4 => ?_) (fun c4 => absurd c4 (by decide))
    refine x_aload_n (q := 11) dX11_keep_10 rfl rfl ?_
    refine x_iconst (v := 0) (q := 12) dX11_keep_11 rfl (by decide) ?_
    refine x_bipush (v := 22) (q := 14) dX11_keep_12 rfl (by decide) ?_
    refine x_bipush (v := 22) (q := 16) dX11_keep_14 rfl (by decide) ?_
    refine x_iload_n (q := 17) dX11_keep_16 rfl rfl ?_
    refine x_imul (q := 18) dX11_keep_17 rfl ?_
    refine x_iadd (q := 19) dX11_keep_18 rfl ?_
    rw [show (22 + 22 * nI a1 : Int32) = nI (22 + 22 * a1) from nIs rfl (nIm rfl rfl)]
    refine x_callV (q := 22) (ci := 11) (c_m_copyDay (f := 0) (o := 22 + 22 * a1) hn hM0 (Or.inl (by omega)) (by omega) (by omega)) eX11_keep_198 gX11_keep_X11_copyDay mp0 (by omega) rfl rfl rfl (Nat.le_of_ble_eq_true rfl) ⟨Nat.le_refl _, Nat.le_refl _⟩ dX11_keep_19 rfl rfl (fun r19 M19 p19 => ?_)
    obtain ⟨rfl, hV19, fr19⟩ := p19
    have hU19 := hV19
    obtain ⟨y19_0, y19_1, y19_2, y19_3, y19_4, y19_5, y19_6, y19_7, y19_8, y19_9, y19_10, y19_11, y19_12, y19_13, y19_14⟩ := hV19
    have y19_2 : M19 (99 + 2) = .inl (0, 242, .inl (cpD (t 1) 0 (22 + 22 * a1) 22)) := y19_2
    refine x_aload_n (q := 23) dX11_keep_22 rfl rfl ?_
    refine x_getf (C := RX11) (T := TX11) (N := 29) (k := 3) (q := 26) y19_0 (by omega) rfl hiX11 (by decide) (by decide +kernel) rfl dX11_keep_23 rfl ?_
    refine x_iload_n (q := 27) dX11_keep_26 rfl rfl ?_
    refine x_iconst (v := 1) (q := 28) dX11_keep_27 rfl (by decide) ?_
    refine x_zast (q := 29) y19_3 (by omega) (ixI (show (nI a1 : Int32) = nI a1 from rfl) (by omega) (by decide)) dX11_keep_28 rfl (fun M28 w28 o28 => ?_)
    rw [ixC (show (nI a1 : Int32) = nI a1 from rfl) (by omega)] at w28
    refine x_aload_n (q := 30) dX11_keep_29 rfl rfl ?_
    have hv2_1_99 := ((o28 (99) (by omega)).trans y19_0)
    refine x_getf (C := RX11) (T := TX11) (N := 29) (k := 1) (q := 33) hv2_1_99 (by omega) rfl hiX11 (by decide) (by decide +kernel) rfl dX11_keep_30 rfl ?_
    refine x_bipush (v := 20) (q := 35) dX11_keep_33 rfl (by decide) ?_
    have hv2_2_101 := ((o28 (101) (by omega)).trans y19_2)
    refine x_iald (q := 36) hv2_2_101 (by omega) (ixI (show (20 : Int32) = nI 20 from rfl) (by omega) (by decide)) dX11_keep_35 rfl ?_
    rw [ixC (show (20 : Int32) = nI 20 from rfl) (by omega)]
    rw [cpD_out (show 20 < 22 + 22 * a1 ∨ _ from Or.inl (by omega)), rdcent hd]
    refine x_iret dX11_keep_36 rfl rfl (Nat.le_refl _) ?_
    have hv2_3_100 := ((o28 (100) (by omega)).trans y19_1)
    have hv2_4_103 := ((o28 (103) (by omega)).trans y19_4)
    have hv2_5_104 := ((o28 (104) (by omega)).trans y19_5)
    have hv2_6_105 := ((o28 (105) (by omega)).trans y19_6)
    have hv2_7_106 := ((o28 (106) (by omega)).trans y19_7)
    have hv2_8_107 := ((o28 (107) (by omega)).trans y19_8)
    have hv2_9_108 := ((o28 (108) (by omega)).trans y19_9)
    have hv2_10_109 := ((o28 (109) (by omega)).trans y19_10)
    have hv2_11_110 := ((o28 (110) (by omega)).trans y19_11)
    have hv2_12_111 := ((o28 (111) (by omega)).trans y19_12)
    have hv2_13_112 := ((o28 (112) (by omega)).trans y19_13)
    have hv2_14_113 := ((o28 (113) (by omega)).trans y19_14)
    rw [if_pos b1, nI_clamp (show a1 < 2 ^ 31 by omega)]
    exact ⟨rfl, ⟨hv2_1_99, hv2_3_100, hv2_2_101, w28, hv2_4_103, hv2_5_104, hv2_6_105, hv2_7_106, hv2_8_107, hv2_9_108, hv2_10_109, hv2_11_110, hv2_12_111, hv2_13_112, hv2_14_113⟩, fun j hj => ((o28 j (by omega)).trans ((fr19 j (by omega)).trans rfl))⟩
  · refine x_if_ne (t := 10) (q := 7) dX11_keep_4 (by decide) rfl (fun c4 => absurd c4 (by decide)) (fun c4 => ?_)
    refine x_bipush (v := -2) (q := 9) dX11_keep_7 rfl (by decide) ?_
    refine x_iret dX11_keep_9 rfl rfl (Nat.le_refl _) ?_
    rw [if_neg b1]
    exact ⟨rfl, rfl⟩

set_option maxHeartbeats 4000000 in
set_option maxRecDepth 100000 in
theorem c_m_back {n : Nat} {M : Nat → xE} {t : Nat → Nat → Int32} {u : Nat → Nat → Int64} (hn : 113 < n) (hM : oX11 99 t u M) {a : Int32} : xMet mX11_back [.ref 99, .int a] n M (fun r M' => (if inB a 2 = true then (if t 3 a.toNatClampNeg = 0 then (M = M' ∧ some (.int (-4)) = r) else (some (.int (t 1 (22 + 22 * a.toNatClampNeg + 20))) = r ∧ oX11 99 (dT t (cpD (t 1) (22 + 22 * a.toNatClampNeg) 0 22) 0) u M' ∧ xfr 99 114 M M')) else (M = M' ∧ some (.int (-2)) = r))) := by
  have hM0 := hM
  obtain ⟨mp0, mp1, mp2, mp3, mp4, mp5, mp6, mp7, mp8, mp9, mp10, mp11, mp12, mp13, mp14⟩ := hM
  have hiX11 : ∀ w ∈ wsX110, w ∈ wsX11_back := by decide +kernel
  refine xMet.of _ (by decide) rfl (Nat.le_of_ble_eq_true rfl) ?_
  refine x_iload_n (q := 1) dX11_back_0 rfl rfl ?_
  refine x_callS (q := 4) c_m_isFlag eX11_back_181 gX11_back_X11_isFlag rfl (Nat.le_of_ble_eq_true rfl) ⟨Nat.le_refl _, Nat.le_refl _⟩ dX11_back_1 rfl rfl (fun r1 M1 p1 => ?_)
  obtain ⟨rfl, p1⟩ := p1
  rcases p1 with ⟨b1, rfl⟩ | ⟨b1, rfl⟩
  · obtain ⟨a1, ha1, rfl⟩ := vp_in_of (inB_t.mp b1) (by decide)
    refine x_if_ne (t := 10) (q := 7) dX11_back_4 (by decide) rfl (fun c4 => ?_) (fun c4 => absurd c4 (by decide))
    refine x_aload_n (q := 11) dX11_back_10 rfl rfl ?_
    refine x_getf (C := RX11) (T := TX11) (N := 29) (k := 3) (q := 14) mp0 (by omega) rfl hiX11 (by decide) (by decide +kernel) rfl dX11_back_11 rfl ?_
    refine x_iload_n (q := 15) dX11_back_14 rfl rfl ?_
    refine x_zald (q := 16) mp3 (by omega) (ixI (show (nI a1 : Int32) = nI a1 from rfl) (by omega) (by decide)) dX11_back_15 rfl ?_
    rw [ixC (show (nI a1 : Int32) = nI a1 from rfl) (by omega)]
    refine x_if_ne (t := 22) (q := 19) dX11_back_16 (by decide) rfl (fun c16 => ?_) (fun c16 => ?_)
    · refine x_aload_n (q := 23) dX11_back_22 rfl rfl ?_
      refine x_bipush (v := 22) (q := 25) dX11_back_23 rfl (by decide) ?_
      refine x_bipush (v := 22) (q := 27) dX11_back_25 rfl (by decide) ?_
      refine x_iload_n (q := 28) dX11_back_27 rfl rfl ?_
      refine x_imul (q := 29) dX11_back_28 rfl ?_
      refine x_iadd (q := 30) dX11_back_29 rfl ?_
      rw [show (22 + 22 * nI a1 : Int32) = nI (22 + 22 * a1) from nIs rfl (nIm rfl rfl)]
      refine x_iconst (v := 0) (q := 31) dX11_back_30 rfl (by decide) ?_
      refine x_callV (q := 34) (ci := 11) (c_m_copyDay (f := 22 + 22 * a1) (o := 0) hn hM0 (Or.inr (by omega)) (by omega) (by omega)) eX11_back_198 gX11_back_X11_copyDay mp0 (by omega) rfl rfl rfl (Nat.le_of_ble_eq_true rfl) ⟨Nat.le_refl _, Nat.le_refl _⟩ dX11_back_31 rfl rfl (fun r31 M31 p31 => ?_)
      obtain ⟨rfl, hV31, fr31⟩ := p31
      have hU31 := hV31
      obtain ⟨y31_0, y31_1, y31_2, y31_3, y31_4, y31_5, y31_6, y31_7, y31_8, y31_9, y31_10, y31_11, y31_12, y31_13, y31_14⟩ := hV31
      have y31_2 : M31 (99 + 2) = .inl (0, 242, .inl (cpD (t 1) (22 + 22 * a1) 0 22)) := y31_2
      refine x_aload_n (q := 35) dX11_back_34 rfl rfl ?_
      refine x_iconst (v := 0) (q := 36) dX11_back_35 rfl (by decide) ?_
      refine x_put (C := RX11) (T := TX11) (N := 29) (k := 2) (q := 39) (ty := .int) tyX11_ok nmX11 y31_0 (by omega) rfl hiX11 (by decide) (by decide +kernel) rfl (by decide +kernel) (fun _ => rfl) (fun _ => rfl) (Nat.le_of_ble_eq_true rfl) dX11_back_36 rfl (fun M36 w36 o36 => ?_)
      refine x_aload_n (q := 40) dX11_back_39 rfl rfl ?_
      refine x_getf (C := RX11) (T := TX11) (N := 29) (k := 1) (q := 43) w36 (by omega) rfl hiX11 (by decide) (by decide +kernel) rfl dX11_back_40 rfl ?_
      refine x_bipush (v := 20) (q := 45) dX11_back_43 rfl (by decide) ?_
      have hv2_1_101 := ((o36 (101) (by omega)).trans y31_2)
      refine x_iald (q := 46) hv2_1_101 (by omega) (ixI (show (20 : Int32) = nI 20 from rfl) (by omega) (by decide)) dX11_back_45 rfl ?_
      rw [ixC (show (20 : Int32) = nI 20 from rfl) (by omega)]
      rw [cpD_in (show 0 ≤ 20 ∧ 20 < 0 + 22 by omega)]
      refine x_iret dX11_back_46 rfl rfl (Nat.le_refl _) ?_
      have hv2_2_100 := ((o36 (100) (by omega)).trans y31_1)
      have hv2_3_102 := ((o36 (102) (by omega)).trans y31_3)
      have hv2_4_103 := ((o36 (103) (by omega)).trans y31_4)
      have hv2_5_104 := ((o36 (104) (by omega)).trans y31_5)
      have hv2_6_105 := ((o36 (105) (by omega)).trans y31_6)
      have hv2_7_106 := ((o36 (106) (by omega)).trans y31_7)
      have hv2_8_107 := ((o36 (107) (by omega)).trans y31_8)
      have hv2_9_108 := ((o36 (108) (by omega)).trans y31_9)
      have hv2_10_109 := ((o36 (109) (by omega)).trans y31_10)
      have hv2_11_110 := ((o36 (110) (by omega)).trans y31_11)
      have hv2_12_111 := ((o36 (111) (by omega)).trans y31_12)
      have hv2_13_112 := ((o36 (112) (by omega)).trans y31_13)
      have hv2_14_113 := ((o36 (113) (by omega)).trans y31_14)
      rw [if_pos b1, if_neg c16]
      exact ⟨rfl, ⟨w36, hv2_2_100, hv2_1_101, hv2_3_102, hv2_4_103, hv2_5_104, hv2_6_105, hv2_7_106, hv2_8_107, hv2_9_108, hv2_10_109, hv2_11_110, hv2_12_111, hv2_13_112, hv2_14_113⟩, fun j hj => ((o36 j (by omega)).trans ((fr31 j (by omega)).trans rfl))⟩
    · refine x_bipush (v := -4) (q := 21) dX11_back_19 rfl (by decide) ?_
      refine x_iret dX11_back_21 rfl rfl (Nat.le_refl _) ?_
      rw [if_pos b1, if_pos c16]
      exact ⟨rfl, rfl⟩
  · refine x_if_ne (t := 10) (q := 7) dX11_back_4 (by decide) rfl (fun c4 => absurd c4 (by decide)) (fun c4 => ?_)
    refine x_bipush (v := -2) (q := 9) dX11_back_7 rfl (by decide) ?_
    refine x_iret dX11_back_9 rfl rfl (Nat.le_refl _) ?_
    rw [if_neg b1]
    exact ⟨rfl, rfl⟩

def bgD (d : Nat → Int32) (x : Int32) (i : Nat) : Nat → Int32 := fun j => if j < i then x else if 11 ≤ j ∧ j < 11 + i then -1 else if j < 22 then 0 else d j
theorem lfDx_s (D : Nat → Int32) (x : Int32) (i : Nat) : upd (lfD D x i) i x = lfD D x (i + 1) := by
  have h := lfD_s D x i
  rw [Nat.zero_add] at h
  exact h
theorem bgD_0 (d : Nat → Int32) (x : Int32) : bgD d x 0 = lfD d 0 22 := by
  funext j
  unfold bgD lfD
  rw [if_neg (by omega), if_neg (by omega)]
theorem bgD_s (d : Nat → Int32) (x : Int32) {i : Nat} (hi : i < 5) : upd (upd (bgD d x i) (0 + i) x) (11 + i) (-1) = bgD d x (i + 1) := by
  funext j
  by_cases e : j = 11 + i
  · subst e; rw [pk_us]; unfold bgD; rw [if_neg (by omega), if_pos (by omega)]
  · rw [upd_ne e]
    by_cases e2 : j = 0 + i
    · subst e2; rw [pk_us]; unfold bgD; rw [if_pos (by omega)]
    · rw [upd_ne e2]
      unfold bgD
      by_cases h1 : j < i
      · rw [if_pos h1, if_pos (by omega)]
      · rw [if_neg h1, if_neg (show ¬ j < i + 1 by omega)]
        by_cases h2 : 11 ≤ j ∧ j < 11 + i
        · rw [if_pos h2, if_pos (by omega)]
        · rw [if_neg h2, if_neg (show ¬ (11 ≤ j ∧ j < 11 + (i + 1)) by omega)]
theorem bgD_dv (d : Nat → Int32) (x : Int32) : ∀ k, k < 22 → bgD d x 5 k = dv (dNew x) k := by
  intro k hk
  unfold bgD dv dNew
  by_cases h5 : k < 5
  · rw [if_pos h5, if_pos h5]; rfl
  · rw [if_neg h5, if_neg h5]
    by_cases h6 : k < 11
    · rw [if_neg (by omega), if_pos (by omega), if_pos h6]; rfl
    · rw [if_neg h6]
      by_cases h7 : k < 16
      · rw [if_pos (by omega), if_pos h7]; rfl
      · rw [if_neg (by omega), if_pos hk, if_neg h7]
        rcases (show k = 16 ∨ k = 17 ∨ k = 18 ∨ k = 19 ∨ k = 20 ∨ k = 21 by omega) with g | g | g | g | g | g <;> subst g <;> rfl
def bgT (t : Nat → Nat → Int32) : Nat → Nat → Int32 := fun z => if z = 1 then bgD (t 1) (t 0 36) 5 else if z = 2 ∨ z = 18 ∨ z = 22 ∨ z = 27 then (fun _ => 0) else if z = 3 then upd (upd (t 3) 0 0) 1 0 else t z
set_option maxHeartbeats 4000000 in
set_option maxRecDepth 100000 in
theorem l_m_bg1 {n : Nat} {t : Nat → Nat → Int32} {u : Nat → Nat → Int64} {Q : Option Value → (Nat → xE) → Prop} {M0 : Nat → xE} (hn : 113 < n) (hk : ∀ M, oX11 99 (fun z => if z = 1 then lfD (t 1) 0 22 else t z) u M → xfr 99 114 M0 M → X mX11_beginsDay 0 0 21 [(1, .int (nI 22)), (0, .ref 99)] [] n M Q) : ∀ (k i : Nat) (M : Nat → xE), i + k = 22 → (oX11 99 (fun z => if z = 1 then lfD (t 1) 0 i else t z) u M) → (xfr 99 114 M0 M) → X mX11_beginsDay 0 0 2 [(1, .int (nI i)), (0, .ref 99)] [] n M (Q) := by
  have hiX11 : ∀ w ∈ wsX110, w ∈ wsX11_beginsDay := by decide +kernel
  intro k
  induction k with
  | zero =>
    intro i M hik hM hf
    have hM0 := hM
    obtain ⟨mp0, mp1, mp2, mp3, mp4, mp5, mp6, mp7, mp8, mp9, mp10, mp11, mp12, mp13, mp14⟩ := hM
    have mp2 : M (99 + 2) = .inl (0, 242, .inl (lfD (t 1) 0 i)) := mp2
    refine x_iload_n (q := 3) dX11_beginsDay_2 rfl rfl ?_
    refine x_bipush (v := 22) (q := 5) dX11_beginsDay_3 rfl (by decide) ?_
    refine x_icmp_ge (t := 21) (q := 8) dX11_beginsDay_5 (by decide) rfl (fun c5 => ?_) (fun c5 => absurd (by rw [show i = 22 by omega]; exact nI_le (Nat.le_refl _) (by omega)) c5)
    have e9 : i = 22 := by omega
    subst e9
    exact hk M hM0 hf
  | succ k ih =>
    intro i M hik hM hf
    have hM0 := hM
    obtain ⟨mp0, mp1, mp2, mp3, mp4, mp5, mp6, mp7, mp8, mp9, mp10, mp11, mp12, mp13, mp14⟩ := hM
    have mp2 : M (99 + 2) = .inl (0, 242, .inl (lfD (t 1) 0 i)) := mp2
    refine x_iload_n (q := 3) dX11_beginsDay_2 rfl rfl ?_
    refine x_bipush (v := 22) (q := 5) dX11_beginsDay_3 rfl (by decide) ?_
    refine x_icmp_ge (t := 21) (q := 8) dX11_beginsDay_5 (by decide) rfl (fun c5 => absurd c5 (nI_ge (a := i) (b := 22) (by omega) (by omega))) (fun c5 => ?_)
    refine x_aload_n (q := 9) dX11_beginsDay_8 rfl rfl ?_
    refine x_getf (C := RX11) (T := TX11) (N := 29) (k := 1) (q := 12) mp0 (by omega) rfl hiX11 (by decide) (by decide +kernel) rfl dX11_beginsDay_9 rfl ?_
    refine x_iload_n (q := 13) dX11_beginsDay_12 rfl rfl ?_
    refine x_iconst (v := 0) (q := 14) dX11_beginsDay_13 rfl (by decide) ?_
    refine x_iast (q := 15) mp2 (by omega) (ixI (show (nI i : Int32) = nI i from rfl) (by omega) (by decide)) dX11_beginsDay_14 rfl (fun M14 w14 o14 => ?_)
    rw [ixC (show (nI i : Int32) = nI i from rfl) (by omega)] at w14
    refine x_iinc (L' := fun x1_15 => [(1, .int x1_15), (0, .ref 99)]) (q := 18) dX11_beginsDay_15 rfl rfl (by decide) (fun _ => rfl) (fun x1_15 ex1_15 => ?_)
    obtain rfl : x1_15 = nI (i + 1) := ex1_15.trans (nI_1 i)
    refine x_goto (q := 2) dX11_beginsDay_18 (by decide) ?_
    rw [lfDx_s] at w14
    have hv1_1_99 := ((o14 (99) (by omega)).trans mp0)
    have hv1_2_100 := ((o14 (100) (by omega)).trans mp1)
    have hv1_3_102 := ((o14 (102) (by omega)).trans mp3)
    have hv1_4_103 := ((o14 (103) (by omega)).trans mp4)
    have hv1_5_104 := ((o14 (104) (by omega)).trans mp5)
    have hv1_6_105 := ((o14 (105) (by omega)).trans mp6)
    have hv1_7_106 := ((o14 (106) (by omega)).trans mp7)
    have hv1_8_107 := ((o14 (107) (by omega)).trans mp8)
    have hv1_9_108 := ((o14 (108) (by omega)).trans mp9)
    have hv1_10_109 := ((o14 (109) (by omega)).trans mp10)
    have hv1_11_110 := ((o14 (110) (by omega)).trans mp11)
    have hv1_12_111 := ((o14 (111) (by omega)).trans mp12)
    have hv1_13_112 := ((o14 (112) (by omega)).trans mp13)
    have hv1_14_113 := ((o14 (113) (by omega)).trans mp14)
    refine x_pick (L' := [(1, .int (nI (i + 1))), (0, .ref 99)]) [0, 1] rfl ?_
    exact ih (i + 1) M14 (by omega) ⟨hv1_1_99, hv1_2_100, w14, hv1_3_102, hv1_4_103, hv1_5_104, hv1_6_105, hv1_7_106, hv1_8_107, hv1_9_108, hv1_10_109, hv1_11_110, hv1_12_111, hv1_13_112, hv1_14_113⟩ (fun j hj => ((o14 j (by omega)).trans (hf j hj)))

set_option maxHeartbeats 4000000 in
set_option maxRecDepth 100000 in
theorem l_m_bg2 {n : Nat} {t : Nat → Nat → Int32} {u : Nat → Nat → Int64} {Q : Option Value → (Nat → xE) → Prop} {M0 : Nat → xE} (hn : 113 < n) (hQ : ∀ M, oX11 99 (bgT t) u M → xfr 99 114 M0 M → Q none M) : ∀ (k i : Nat) (M : Nat → xE), i + k = 5 → (oX11 99 (fun z => if z = 1 then bgD (t 1) (t 0 36) i else t z) u M) → (xfr 99 114 M0 M) → X mX11_beginsDay 0 0 23 [(1, .int (nI i)), (0, .ref 99)] [] n M (Q) := by
  have hiX11 : ∀ w ∈ wsX110, w ∈ wsX11_beginsDay := by decide +kernel
  intro k
  induction k with
  | zero =>
    intro i M hik hM hf
    have hM0 := hM
    obtain ⟨mp0, mp1, mp2, mp3, mp4, mp5, mp6, mp7, mp8, mp9, mp10, mp11, mp12, mp13, mp14⟩ := hM
    have mp1 : M (99 + 1) = .inl (0, 122, .inl (t 0)) := mp1
    have mp2 : M (99 + 2) = .inl (0, 242, .inl (bgD (t 1) (t 0 36) i)) := mp2
    refine x_iload_n (q := 24) dX11_beginsDay_23 rfl rfl ?_
    refine x_iconst (v := 5) (q := 25) dX11_beginsDay_24 rfl (by decide) ?_
    refine x_icmp_ge (t := 59) (q := 28) dX11_beginsDay_25 (by decide) rfl (fun c25 => ?_) (fun c25 => absurd (by rw [show i = 5 by omega]; exact nI_le (Nat.le_refl _) (by omega)) c25)
    refine x_aload_n (q := 60) dX11_beginsDay_59 rfl rfl ?_
    refine x_iconst (v := 0) (q := 61) dX11_beginsDay_60 rfl (by decide) ?_
    refine x_put (C := RX11) (T := TX11) (N := 29) (k := 2) (q := 64) (ty := .int) tyX11_ok nmX11 mp0 (by omega) rfl hiX11 (by decide) (by decide +kernel) rfl (by decide +kernel) (fun _ => rfl) (fun _ => rfl) (Nat.le_of_ble_eq_true rfl) dX11_beginsDay_61 rfl (fun M61 w61 o61 => ?_)
    refine x_aload_n (q := 65) dX11_beginsDay_64 rfl rfl ?_
    refine x_getf (C := RX11) (T := TX11) (N := 29) (k := 3) (q := 68) w61 (by omega) rfl hiX11 (by decide) (by decide +kernel) rfl dX11_beginsDay_65 rfl ?_
    refine x_iconst (v := 0) (q := 69) dX11_beginsDay_68 rfl (by decide) ?_
    refine x_iconst (v := 0) (q := 70) dX11_beginsDay_69 rfl (by decide) ?_
    have hv1_1_102 := ((o61 (102) (by omega)).trans mp3)
    refine x_zast (q := 71) hv1_1_102 (by omega) (ixI (show (0 : Int32) = nI 0 from rfl) (by omega) (by decide)) dX11_beginsDay_70 rfl (fun M70 w70 o70 => ?_)
    rw [ixC (show (0 : Int32) = nI 0 from rfl) (by omega)] at w70
    refine x_aload_n (q := 72) dX11_beginsDay_71 rfl rfl ?_
    have hv2_2_99 := ((o70 (99) (by omega)).trans w61)
    refine x_getf (C := RX11) (T := TX11) (N := 29) (k := 3) (q := 75) hv2_2_99 (by omega) rfl hiX11 (by decide) (by decide +kernel) rfl dX11_beginsDay_72 rfl ?_
    refine x_iconst (v := 1) (q := 76) dX11_beginsDay_75 rfl (by decide) ?_
    refine x_iconst (v := 0) (q := 77) dX11_beginsDay_76 rfl (by decide) ?_
    refine x_zast (q := 78) w70 (by omega) (ixI (show (1 : Int32) = nI 1 from rfl) (by omega) (by decide)) dX11_beginsDay_77 rfl (fun M77 w77 o77 => ?_)
    rw [ixC (show (1 : Int32) = nI 1 from rfl) (by omega)] at w77
    refine x_aload_n (q := 79) dX11_beginsDay_78 rfl rfl ?_
    refine x_iconst (v := 0) (q := 80) dX11_beginsDay_79 rfl (by decide) ?_
    have hv3_3_99 := ((o77 (99) (by omega)).trans hv2_2_99)
    refine x_put (C := RX11) (T := TX11) (N := 29) (k := 18) (q := 83) (ty := .int) tyX11_ok nmX11 hv3_3_99 (by omega) rfl hiX11 (by decide) (by decide +kernel) rfl (by decide +kernel) (fun _ => rfl) (fun _ => rfl) (Nat.le_of_ble_eq_true rfl) dX11_beginsDay_80 rfl (fun M80 w80 o80 => ?_)
    refine x_aload_n (q := 84) dX11_beginsDay_83 rfl rfl ?_
    refine x_iconst (v := 0) (q := 85) dX11_beginsDay_84 rfl (by decide) ?_
    refine x_put (C := RX11) (T := TX11) (N := 29) (k := 22) (q := 88) (ty := .int) tyX11_ok nmX11 w80 (by omega) rfl hiX11 (by decide) (by decide +kernel) rfl (by decide +kernel) (fun _ => rfl) (fun _ => rfl) (Nat.le_of_ble_eq_true rfl) dX11_beginsDay_85 rfl (fun M85 w85 o85 => ?_)
    refine x_aload_n (q := 89) dX11_beginsDay_88 rfl rfl ?_
    refine x_iconst (v := 0) (q := 90) dX11_beginsDay_89 rfl (by decide) ?_
    refine x_put (C := RX11) (T := TX11) (N := 29) (k := 27) (q := 93) (ty := .int) tyX11_ok nmX11 w85 (by omega) rfl hiX11 (by decide) (by decide +kernel) rfl (by decide +kernel) (fun _ => rfl) (fun _ => rfl) (Nat.le_of_ble_eq_true rfl) dX11_beginsDay_90 rfl (fun M90 w90 o90 => ?_)
    refine x_vret dX11_beginsDay_93 rfl rfl (Nat.le_refl _) ?_
    have e9 : i = 5 := by omega
    subst e9
    have hv6_4_100 := ((o90 (100) (by omega)).trans ((o85 (100) (by omega)).trans ((o80 (100) (by omega)).trans ((o77 (100) (by omega)).trans ((o70 (100) (by omega)).trans ((o61 (100) (by omega)).trans mp1))))))
    have hv6_5_101 := ((o90 (101) (by omega)).trans ((o85 (101) (by omega)).trans ((o80 (101) (by omega)).trans ((o77 (101) (by omega)).trans ((o70 (101) (by omega)).trans ((o61 (101) (by omega)).trans mp2))))))
    have hv6_6_102 := ((o90 (102) (by omega)).trans ((o85 (102) (by omega)).trans ((o80 (102) (by omega)).trans w77)))
    have hv6_7_103 := ((o90 (103) (by omega)).trans ((o85 (103) (by omega)).trans ((o80 (103) (by omega)).trans ((o77 (103) (by omega)).trans ((o70 (103) (by omega)).trans ((o61 (103) (by omega)).trans mp4))))))
    have hv6_8_104 := ((o90 (104) (by omega)).trans ((o85 (104) (by omega)).trans ((o80 (104) (by omega)).trans ((o77 (104) (by omega)).trans ((o70 (104) (by omega)).trans ((o61 (104) (by omega)).trans mp5))))))
    have hv6_9_105 := ((o90 (105) (by omega)).trans ((o85 (105) (by omega)).trans ((o80 (105) (by omega)).trans ((o77 (105) (by omega)).trans ((o70 (105) (by omega)).trans ((o61 (105) (by omega)).trans mp6))))))
    have hv6_10_106 := ((o90 (106) (by omega)).trans ((o85 (106) (by omega)).trans ((o80 (106) (by omega)).trans ((o77 (106) (by omega)).trans ((o70 (106) (by omega)).trans ((o61 (106) (by omega)).trans mp7))))))
    have hv6_11_107 := ((o90 (107) (by omega)).trans ((o85 (107) (by omega)).trans ((o80 (107) (by omega)).trans ((o77 (107) (by omega)).trans ((o70 (107) (by omega)).trans ((o61 (107) (by omega)).trans mp8))))))
    have hv6_12_108 := ((o90 (108) (by omega)).trans ((o85 (108) (by omega)).trans ((o80 (108) (by omega)).trans ((o77 (108) (by omega)).trans ((o70 (108) (by omega)).trans ((o61 (108) (by omega)).trans mp9))))))
    have hv6_13_109 := ((o90 (109) (by omega)).trans ((o85 (109) (by omega)).trans ((o80 (109) (by omega)).trans ((o77 (109) (by omega)).trans ((o70 (109) (by omega)).trans ((o61 (109) (by omega)).trans mp10))))))
    have hv6_14_110 := ((o90 (110) (by omega)).trans ((o85 (110) (by omega)).trans ((o80 (110) (by omega)).trans ((o77 (110) (by omega)).trans ((o70 (110) (by omega)).trans ((o61 (110) (by omega)).trans mp11))))))
    have hv6_15_111 := ((o90 (111) (by omega)).trans ((o85 (111) (by omega)).trans ((o80 (111) (by omega)).trans ((o77 (111) (by omega)).trans ((o70 (111) (by omega)).trans ((o61 (111) (by omega)).trans mp12))))))
    have hv6_16_112 := ((o90 (112) (by omega)).trans ((o85 (112) (by omega)).trans ((o80 (112) (by omega)).trans ((o77 (112) (by omega)).trans ((o70 (112) (by omega)).trans ((o61 (112) (by omega)).trans mp13))))))
    have hv6_17_113 := ((o90 (113) (by omega)).trans ((o85 (113) (by omega)).trans ((o80 (113) (by omega)).trans ((o77 (113) (by omega)).trans ((o70 (113) (by omega)).trans ((o61 (113) (by omega)).trans mp14))))))
    exact hQ _ ⟨w90, hv6_4_100, hv6_5_101, hv6_6_102, hv6_7_103, hv6_8_104, hv6_9_105, hv6_10_106, hv6_11_107, hv6_12_108, hv6_13_109, hv6_14_110, hv6_15_111, hv6_16_112, hv6_17_113⟩ (fun j hj => ((o90 j (by omega)).trans ((o85 j (by omega)).trans ((o80 j (by omega)).trans ((o77 j (by omega)).trans ((o70 j (by omega)).trans ((o61 j (by omega)).trans (hf j hj))))))))
  | succ k ih =>
    intro i M hik hM hf
    have hM0 := hM
    obtain ⟨mp0, mp1, mp2, mp3, mp4, mp5, mp6, mp7, mp8, mp9, mp10, mp11, mp12, mp13, mp14⟩ := hM
    have mp1 : M (99 + 1) = .inl (0, 122, .inl (t 0)) := mp1
    have mp2 : M (99 + 2) = .inl (0, 242, .inl (bgD (t 1) (t 0 36) i)) := mp2
    refine x_iload_n (q := 24) dX11_beginsDay_23 rfl rfl ?_
    refine x_iconst (v := 5) (q := 25) dX11_beginsDay_24 rfl (by decide) ?_
    refine x_icmp_ge (t := 59) (q := 28) dX11_beginsDay_25 (by decide) rfl (fun c25 => absurd c25 (nI_ge (a := i) (b := 5) (by omega) (by omega))) (fun c25 => ?_)
    refine x_aload_n (q := 29) dX11_beginsDay_28 rfl rfl ?_
    refine x_getf (C := RX11) (T := TX11) (N := 29) (k := 1) (q := 32) mp0 (by omega) rfl hiX11 (by decide) (by decide +kernel) rfl dX11_beginsDay_29 rfl ?_
    refine x_iconst (v := 0) (q := 33) dX11_beginsDay_32 rfl (by decide) ?_
    refine x_iload_n (q := 34) dX11_beginsDay_33 rfl rfl ?_
    refine x_iadd (q := 35) dX11_beginsDay_34 rfl ?_
    refine x_aload_n (q := 36) dX11_beginsDay_35 rfl rfl ?_
    refine x_getf (C := RX11) (T := TX11) (N := 29) (k := 0) (q := 39) mp0 (by omega) rfl hiX11 (by decide) (by decide +kernel) rfl dX11_beginsDay_36 rfl ?_
    refine x_bipush (v := 36) (q := 41) dX11_beginsDay_39 rfl (by decide) ?_
    refine x_iald (q := 42) mp1 (by omega) (ixI (show (36 : Int32) = nI 36 from rfl) (by omega) (by decide)) dX11_beginsDay_41 rfl ?_
    rw [ixC (show (36 : Int32) = nI 36 from rfl) (by omega)]
    refine x_iast (q := 43) mp2 (by omega) (ixI (show ((0 + nI i) : Int32) = nI (0 + i) from (nIs rfl rfl)) (by omega) (by decide)) dX11_beginsDay_42 rfl (fun M42 w42 o42 => ?_)
    rw [ixC (show ((0 + nI i) : Int32) = nI (0 + i) from (nIs rfl rfl)) (by omega)] at w42
    refine x_aload_n (q := 44) dX11_beginsDay_43 rfl rfl ?_
    have hv1_1_99 := ((o42 (99) (by omega)).trans mp0)
    refine x_getf (C := RX11) (T := TX11) (N := 29) (k := 1) (q := 47) hv1_1_99 (by omega) rfl hiX11 (by decide) (by decide +kernel) rfl dX11_beginsDay_44 rfl ?_
    refine x_bipush (v := 11) (q := 49) dX11_beginsDay_47 rfl (by decide) ?_
    refine x_iload_n (q := 50) dX11_beginsDay_49 rfl rfl ?_
    refine x_iadd (q := 51) dX11_beginsDay_50 rfl ?_
    refine x_iconst (v := -1) (q := 52) dX11_beginsDay_51 rfl (by decide) ?_
    refine x_iast (q := 53) w42 (by omega) (ixI (show ((11 + nI i) : Int32) = nI (11 + i) from (nIs rfl rfl)) (by omega) (by decide)) dX11_beginsDay_52 rfl (fun M52 w52 o52 => ?_)
    rw [ixC (show ((11 + nI i) : Int32) = nI (11 + i) from (nIs rfl rfl)) (by omega)] at w52
    refine x_iinc (L' := fun x1_53 => [(1, .int x1_53), (0, .ref 99)]) (q := 56) dX11_beginsDay_53 rfl rfl (by decide) (fun _ => rfl) (fun x1_53 ex1_53 => ?_)
    obtain rfl : x1_53 = nI (i + 1) := ex1_53.trans (nI_1 i)
    refine x_goto (q := 23) dX11_beginsDay_56 (by decide) ?_
    rw [bgD_s (t 1) (t 0 36) (show i < 5 by omega)] at w52
    have hv2_2_99 := ((o52 (99) (by omega)).trans hv1_1_99)
    have hv2_3_100 := ((o52 (100) (by omega)).trans ((o42 (100) (by omega)).trans mp1))
    have hv2_4_102 := ((o52 (102) (by omega)).trans ((o42 (102) (by omega)).trans mp3))
    have hv2_5_103 := ((o52 (103) (by omega)).trans ((o42 (103) (by omega)).trans mp4))
    have hv2_6_104 := ((o52 (104) (by omega)).trans ((o42 (104) (by omega)).trans mp5))
    have hv2_7_105 := ((o52 (105) (by omega)).trans ((o42 (105) (by omega)).trans mp6))
    have hv2_8_106 := ((o52 (106) (by omega)).trans ((o42 (106) (by omega)).trans mp7))
    have hv2_9_107 := ((o52 (107) (by omega)).trans ((o42 (107) (by omega)).trans mp8))
    have hv2_10_108 := ((o52 (108) (by omega)).trans ((o42 (108) (by omega)).trans mp9))
    have hv2_11_109 := ((o52 (109) (by omega)).trans ((o42 (109) (by omega)).trans mp10))
    have hv2_12_110 := ((o52 (110) (by omega)).trans ((o42 (110) (by omega)).trans mp11))
    have hv2_13_111 := ((o52 (111) (by omega)).trans ((o42 (111) (by omega)).trans mp12))
    have hv2_14_112 := ((o52 (112) (by omega)).trans ((o42 (112) (by omega)).trans mp13))
    have hv2_15_113 := ((o52 (113) (by omega)).trans ((o42 (113) (by omega)).trans mp14))
    refine x_pick (L' := [(1, .int (nI (i + 1))), (0, .ref 99)]) [0, 1] rfl ?_
    exact ih (i + 1) M52 (by omega) ⟨hv2_2_99, hv2_3_100, w52, hv2_4_102, hv2_5_103, hv2_6_104, hv2_7_105, hv2_8_106, hv2_9_107, hv2_10_108, hv2_11_109, hv2_12_110, hv2_13_111, hv2_14_112, hv2_15_113⟩ (fun j hj => ((o52 j (by omega)).trans ((o42 j (by omega)).trans (hf j hj))))

set_option maxHeartbeats 4000000 in
set_option maxRecDepth 100000 in
theorem c_m_beginsDay {n : Nat} {M : Nat → xE} {t : Nat → Nat → Int32} {u : Nat → Nat → Int64} (hn : 113 < n) (hM : oX11 99 t u M) : xMet mX11_beginsDay [.ref 99] n M (fun r M' => none = r ∧ oX11 99 (bgT t) u M' ∧ xfr 99 114 M M') := by
  have hM0 := hM
  obtain ⟨mp0, mp1, mp2, mp3, mp4, mp5, mp6, mp7, mp8, mp9, mp10, mp11, mp12, mp13, mp14⟩ := hM
  refine xMet.of _ (by decide) rfl (Nat.le_of_ble_eq_true rfl) ?_
  refine x_iconst (v := 0) (q := 1) dX11_beginsDay_0 rfl (by decide) ?_
  refine x_istore_n (L' := fun x1_1 => [(1, .int x1_1), (0, .ref 99)]) (q := 2) dX11_beginsDay_1 rfl (by decide) (fun _ => rfl) (fun x1_1 ex1_1 => ?_)
  subst ex1_1
  refine l_m_bg1 (t := t) (u := u) (M0 := M) hn (fun M21 k1 k2 => ?_) 22 0 M (by omega) ⟨mp0, mp1, by rw [mp2]; show _ = Sum.inl (0, 242, Sum.inl (lfD (t 1) 0 0)); rw [lfD_0], mp3, mp4, mp5, mp6, mp7, mp8, mp9, mp10, mp11, mp12, mp13, mp14⟩ (fun j _ => rfl)
  obtain ⟨kp0, kp1, kp2, kp3, kp4, kp5, kp6, kp7, kp8, kp9, kp10, kp11, kp12, kp13, kp14⟩ := k1
  have kp2 : M21 (99 + 2) = .inl (0, 242, .inl (lfD (t 1) 0 22)) := kp2
  refine x_iconst (v := 0) (q := 22) dX11_beginsDay_21 rfl (by decide) ?_
  refine x_istore_n (L' := fun x1_22 => [(1, .int x1_22), (0, .ref 99)]) (q := 23) dX11_beginsDay_22 rfl (by decide) (fun _ => rfl) (fun x1_22 ex1_22 => ?_)
  subst ex1_22
  exact l_m_bg2 (t := t) (u := u) (M0 := M) hn (fun M h1 h2 => ⟨rfl, h1, h2⟩) 5 0 M21 (by omega) ⟨kp0, kp1, by rw [kp2]; show _ = Sum.inl (0, 242, Sum.inl (bgD (t 1) (t 0 36) 0)); rw [bgD_0], kp3, kp4, kp5, kp6, kp7, kp8, kp9, kp10, kp11, kp12, kp13, kp14⟩ k2
  

