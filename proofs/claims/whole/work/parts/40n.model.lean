def wfd (r : Nat → Int32) (a : Int32) : Nat → Bool
  | 0 => false
  | k + 1 => wfd r a k || decide (r k = a)
theorem wfd_mono (r : Nat → Int32) (a : Int32) {i : Nat} : ∀ {j : Nat}, i ≤ j → wfd r a i = true → wfd r a j = true := by
  intro j
  induction j with
  | zero => intro h h2; rw [show i = 0 by omega] at h2; exact h2
  | succ j ih =>
    intro h h2
    by_cases e : i = j + 1
    · rw [← e]; exact h2
    · rw [wfd, ih (by omega) h2]; rfl
set_option maxHeartbeats 4000000 in
set_option maxRecDepth 100000 in
theorem l_m_wording {n B : Nat} {a : Int32} {t : Nat → Nat → Int32} {u : Nat → Nat → Int64} {Q : Option Value → (Nat → xE) → Prop} (hn : 113 < n) (hB : B ≤ 6) (hB0 : t 22 0 = nI B) : ∀ (k i : Nat) (M : Nat → xE), i + k = B → (oX11 99 t u M) → (wfd (t 23) a i = false) → (wfd (t 23) a B = true → Q (some (.int (-4))) M) → (wfd (t 23) a B = false → X mX11_wording 0 0 44 [(2, .int (nI B)), (0, .ref 99), (1, .int a)] [] n M Q) → X mX11_wording 0 0 17 [(2, .int (nI i)), (0, .ref 99), (1, .int a)] [] n M (Q) := by
  have hiX11 : ∀ w ∈ wsX110, w ∈ wsX11_wording := by decide +kernel
  intro k
  induction k with
  | zero =>
    intro i M hik hM hw hQ hk1
    have hM0 := hM
    obtain ⟨mp0, mp1, mp2, mp3, mp4, mp5, mp6, mp7, mp8, mp9, mp10, mp11, mp12, mp13, mp14⟩ := hM
    refine x_iload_n (q := 18) dX11_wording_17 rfl rfl ?_
    refine x_aload_n (q := 19) dX11_wording_18 rfl rfl ?_
    refine x_getf (C := RX11) (T := TX11) (N := 29) (k := 22) (q := 22) mp0 (by omega) rfl hiX11 (by decide) (by decide +kernel) rfl dX11_wording_19 rfl ?_
    rw [hB0]
    refine x_icmp_ge (t := 44) (q := 25) dX11_wording_22 (by decide) rfl (fun c22 => ?_) (fun c22 => absurd (by rw [show i = B by omega]; exact nI_le (Nat.le_refl _) (by omega)) c22)
    have e9 : i = B := by omega
    subst e9
    exact hk1 hw
  | succ k ih =>
    intro i M hik hM hw hQ hk1
    have hM0 := hM
    obtain ⟨mp0, mp1, mp2, mp3, mp4, mp5, mp6, mp7, mp8, mp9, mp10, mp11, mp12, mp13, mp14⟩ := hM
    refine x_iload_n (q := 18) dX11_wording_17 rfl rfl ?_
    refine x_aload_n (q := 19) dX11_wording_18 rfl rfl ?_
    refine x_getf (C := RX11) (T := TX11) (N := 29) (k := 22) (q := 22) mp0 (by omega) rfl hiX11 (by decide) (by decide +kernel) rfl dX11_wording_19 rfl ?_
    rw [hB0]
    refine x_icmp_ge (t := 44) (q := 25) dX11_wording_22 (by decide) rfl (fun c22 => absurd c22 (nI_ge (a := i) (b := B) (by omega) (by omega))) (fun c22 => ?_)
    refine x_aload_n (q := 26) dX11_wording_25 rfl rfl ?_
    refine x_getf (C := RX11) (T := TX11) (N := 29) (k := 23) (q := 29) mp0 (by omega) rfl hiX11 (by decide) (by decide +kernel) rfl dX11_wording_26 rfl ?_
    refine x_iload_n (q := 30) dX11_wording_29 rfl rfl ?_
    refine x_iald (q := 31) mp11 (by omega) (ixI (show (nI i : Int32) = nI i from rfl) (by omega) (by decide)) dX11_wording_30 rfl ?_
    rw [ixC (show (nI i : Int32) = nI i from rfl) (by omega)]
    refine x_iload_n (q := 32) dX11_wording_31 rfl rfl ?_
    refine x_icmp_ne (t := 38) (q := 35) dX11_wording_32 (by decide) rfl (fun c32 => ?_) (fun c32 => ?_)
    · refine x_iinc (L' := fun x2_38 => [(2, .int x2_38), (0, .ref 99), (1, .int a)]) (q := 41) dX11_wording_38 rfl rfl (by decide) (fun _ => rfl) (fun x2_38 ex2_38 => ?_)
      obtain rfl : x2_38 = nI (i + 1) := ex2_38.trans (nI_1 i)
      refine x_goto (q := 17) dX11_wording_41 (by decide) ?_
      refine x_pick (L' := [(2, .int (nI (i + 1))), (0, .ref 99), (1, .int a)]) [0, 1, 2] rfl ?_
      exact ih (i + 1) M (by omega) hM0 (by rw [wfd, hw, decide_eq_false c32]; rfl) hQ hk1
    · refine x_bipush (v := -4) (q := 37) dX11_wording_35 rfl (by decide) ?_
      refine x_iret dX11_wording_37 rfl rfl (Nat.le_refl _) ?_
      exact hQ (wfd_mono (t 23) a (by omega) (show wfd (t 23) a (i + 1) = true by rw [wfd, decide_eq_true c32, Bool.or_true]))

set_option maxHeartbeats 4000000 in
set_option maxRecDepth 100000 in
theorem c_m_wording {n : Nat} {M : Nat → xE} {t : Nat → Nat → Int32} {u : Nat → Nat → Int64} (hn : 113 < n) (hM : oX11 99 t u M) {B : Nat} (hB : B ≤ 6) (hB0 : t 22 0 = nI B) {a : Int32} : xMet mX11_wording [.ref 99, .int a] n M (fun r M' => (if inB a 64 = true then (if wfd (t 23) a B = true then (M = M' ∧ some (.int (-4)) = r) else (if B < 6 then (some (.int (nI (B + 1))) = r ∧ oX11 99 (fun z => if z = 22 then (fun _ => nI (B + 1)) else if z = 23 then upd (t 23) B a else t z) u M' ∧ xfr 99 114 M M') else (M = M' ∧ some (.int (-5)) = r))) else (M = M' ∧ some (.int (-3)) = r))) := by
  have hM0 := hM
  obtain ⟨mp0, mp1, mp2, mp3, mp4, mp5, mp6, mp7, mp8, mp9, mp10, mp11, mp12, mp13, mp14⟩ := hM
  have hiX11 : ∀ w ∈ wsX110, w ∈ wsX11_wording := by decide +kernel
  refine xMet.of _ (by decide) rfl (Nat.le_of_ble_eq_true rfl) ?_
  refine x_iload_n (q := 1) dX11_wording_0 rfl rfl ?_
  refine x_i2l (q := 2) dX11_wording_1 rfl ?_
  refine x_lconst (v := 0) (q := 3) dX11_wording_2 rfl (by decide) ?_
  refine x_ldc2 (v := 63) (q := 6) (by decide +kernel) dX11_wording_3 rfl ?_
  refine x_callS (q := 9) c_m_in eX11_wording_65 gX11_wording_X11_in rfl (Nat.le_of_ble_eq_true rfl) ⟨Nat.le_refl _, Nat.le_refl _⟩ dX11_wording_6 rfl rfl (fun r6 M6 p6 => ?_)
  obtain ⟨rfl, p6⟩ := p6
  rcases p6 with ⟨b6, rfl⟩ | ⟨b6, rfl⟩
  · refine x_if_ne (t := 15) (q := 12) dX11_wording_9 (by decide) rfl (fun c9 => ?_) (fun c9 => absurd c9 (by decide))
    refine x_iconst (v := 0) (q := 16) dX11_wording_15 rfl (by decide) ?_
    refine x_istore_n (L' := fun x2_16 => [(2, .int x2_16), (0, .ref 99), (1, .int a)]) (q := 17) dX11_wording_16 rfl (by decide) (fun _ => rfl) (fun x2_16 ex2_16 => ?_)
    subst ex2_16
    refine l_m_wording hn hB hB0 B 0 M (by omega) hM0 rfl (fun hf => by rw [if_pos ((mIn2 (k := 63) (by decide) rfl).mp b6), if_pos hf]; exact ⟨rfl, rfl⟩) (fun hf => ?_)
    refine x_aload_n (q := 45) dX11_wording_44 rfl rfl ?_
    refine x_getf (C := RX11) (T := TX11) (N := 29) (k := 22) (q := 48) mp0 (by omega) rfl hiX11 (by decide) (by decide +kernel) rfl dX11_wording_45 rfl ?_
    rw [hB0]
    refine x_bipush (v := 6) (q := 50) dX11_wording_48 rfl (by decide) ?_
    refine x_icmp_ne (t := 56) (q := 53) dX11_wording_50 (by decide) rfl (fun c50 => ?_) (fun c50 => ?_)
    · have hlt : B < 6 := Nat.lt_of_le_of_ne hB (fun h => c50 (by rw [h]; rfl))
      refine x_aload_n (q := 57) dX11_wording_56 rfl rfl ?_
      refine x_getf (C := RX11) (T := TX11) (N := 29) (k := 23) (q := 60) mp0 (by omega) rfl hiX11 (by decide) (by decide +kernel) rfl dX11_wording_57 rfl ?_
      refine x_aload_n (q := 61) dX11_wording_60 rfl rfl ?_
      refine x_getf (C := RX11) (T := TX11) (N := 29) (k := 22) (q := 64) mp0 (by omega) rfl hiX11 (by decide) (by decide +kernel) rfl dX11_wording_61 rfl ?_
      rw [hB0]
      refine x_iload_n (q := 65) dX11_wording_64 rfl rfl ?_
      refine x_iast (q := 66) mp11 (by omega) (ixI (show (nI B : Int32) = nI B from rfl) (by omega) (by decide)) dX11_wording_65 rfl (fun M65 w65 o65 => ?_)
      rw [ixC (show (nI B : Int32) = nI B from rfl) (by omega)] at w65
      refine x_aload_n (q := 67) dX11_wording_66 rfl rfl ?_
      refine x_dup (q := 68) dX11_wording_67 rfl rfl ?_
      have hv1_1_99 := ((o65 (99) (by omega)).trans mp0)
      refine x_getf (C := RX11) (T := TX11) (N := 29) (k := 22) (q := 71) hv1_1_99 (by omega) rfl hiX11 (by decide) (by decide +kernel) rfl dX11_wording_68 rfl ?_
      rw [hB0]
      refine x_iconst (v := 1) (q := 72) dX11_wording_71 rfl (by decide) ?_
      refine x_iadd (q := 73) dX11_wording_72 rfl ?_
      rw [nI_1]
      refine x_put (C := RX11) (T := TX11) (N := 29) (k := 22) (q := 76) (ty := .int) tyX11_ok nmX11 hv1_1_99 (by omega) rfl hiX11 (by decide) (by decide +kernel) rfl (by decide +kernel) (fun _ => rfl) (fun _ => rfl) (Nat.le_of_ble_eq_true rfl) dX11_wording_73 rfl (fun M73 w73 o73 => ?_)
      refine x_aload_n (q := 77) dX11_wording_76 rfl rfl ?_
      refine x_getf (C := RX11) (T := TX11) (N := 29) (k := 22) (q := 80) w73 (by omega) rfl hiX11 (by decide) (by decide +kernel) rfl dX11_wording_77 rfl ?_
      refine x_iret dX11_wording_80 rfl rfl (Nat.le_refl _) ?_
      have hv2_2_100 := ((o73 (100) (by omega)).trans ((o65 (100) (by omega)).trans mp1))
      have hv2_3_101 := ((o73 (101) (by omega)).trans ((o65 (101) (by omega)).trans mp2))
      have hv2_4_102 := ((o73 (102) (by omega)).trans ((o65 (102) (by omega)).trans mp3))
      have hv2_5_103 := ((o73 (103) (by omega)).trans ((o65 (103) (by omega)).trans mp4))
      have hv2_6_104 := ((o73 (104) (by omega)).trans ((o65 (104) (by omega)).trans mp5))
      have hv2_7_105 := ((o73 (105) (by omega)).trans ((o65 (105) (by omega)).trans mp6))
      have hv2_8_106 := ((o73 (106) (by omega)).trans ((o65 (106) (by omega)).trans mp7))
      have hv2_9_107 := ((o73 (107) (by omega)).trans ((o65 (107) (by omega)).trans mp8))
      have hv2_10_108 := ((o73 (108) (by omega)).trans ((o65 (108) (by omega)).trans mp9))
      have hv2_11_109 := ((o73 (109) (by omega)).trans ((o65 (109) (by omega)).trans mp10))
      have hv2_12_110 := ((o73 (110) (by omega)).trans w65)
      have hv2_13_111 := ((o73 (111) (by omega)).trans ((o65 (111) (by omega)).trans mp12))
      have hv2_14_112 := ((o73 (112) (by omega)).trans ((o65 (112) (by omega)).trans mp13))
      have hv2_15_113 := ((o73 (113) (by omega)).trans ((o65 (113) (by omega)).trans mp14))
      rw [if_pos ((mIn2 (k := 63) (by decide) rfl).mp b6), if_neg (show ¬ wfd (t 23) a B = true by rw [hf]; decide), if_pos hlt]
      exact ⟨rfl, ⟨w73, hv2_2_100, hv2_3_101, hv2_4_102, hv2_5_103, hv2_6_104, hv2_7_105, hv2_8_106, hv2_9_107, hv2_10_108, hv2_11_109, hv2_12_110, hv2_13_111, hv2_14_112, hv2_15_113⟩, fun j hj => ((o73 j (by omega)).trans ((o65 j (by omega)).trans rfl))⟩
    · refine x_bipush (v := -5) (q := 55) dX11_wording_53 rfl (by decide) ?_
      refine x_iret dX11_wording_55 rfl rfl (Nat.le_refl _) ?_
      rw [if_pos ((mIn2 (k := 63) (by decide) rfl).mp b6), if_neg (show ¬ wfd (t 23) a B = true by rw [hf]; decide), if_neg (show ¬ B < 6 from fun h => by have := (nIne (a := B) (b := 6) (by omega) (by decide)).mp c50; omega)]
      exact ⟨rfl, rfl⟩
    
  · refine x_if_ne (t := 15) (q := 12) dX11_wording_9 (by decide) rfl (fun c9 => absurd c9 (by decide)) (fun c9 => ?_)
    refine x_bipush (v := -3) (q := 14) dX11_wording_12 rfl (by decide) ?_
    refine x_iret dX11_wording_14 rfl rfl (Nat.le_refl _) ?_
    rw [if_neg (fun h => b6 ((mIn2 (k := 63) (by decide) rfl).mpr h))]
    exact ⟨rfl, rfl⟩

set_option maxHeartbeats 4000000 in
set_option maxRecDepth 100000 in
theorem l_m_meant {n B : Nat} {a b : Int32} {t : Nat → Nat → Int32} {u : Nat → Nat → Int64} {Q : Option Value → (Nat → xE) → Prop} (hn : 113 < n) (hB : B ≤ 6) (hB0 : t 22 0 = nI B) : ∀ (k i : Nat) (M : Nat → xE), i + k = B → (oX11 99 t u M) → (Q (some (.int (bset (fun k => decide (onR (t 23 k ^^^ a) 9 ≤ b)) B))) M) → X mX11_meant 0 0 32 [(4, .int (nI i)), (3, .int (bset (fun k => decide (onR (t 23 k ^^^ a) 9 ≤ b)) i)), (0, .ref 99), (1, .int a), (2, .int b)] [] n M (Q) := by
  have hiX11 : ∀ w ∈ wsX110, w ∈ wsX11_meant := by decide +kernel
  intro k
  induction k with
  | zero =>
    intro i M hik hM hQ
    have hM0 := hM
    obtain ⟨mp0, mp1, mp2, mp3, mp4, mp5, mp6, mp7, mp8, mp9, mp10, mp11, mp12, mp13, mp14⟩ := hM
    refine x_iload (q := 34) dX11_meant_32 rfl rfl ?_
    refine x_aload_n (q := 35) dX11_meant_34 rfl rfl ?_
    refine x_getf (C := RX11) (T := TX11) (N := 29) (k := 22) (q := 38) mp0 (by omega) rfl hiX11 (by decide) (by decide +kernel) rfl dX11_meant_35 rfl ?_
    rw [hB0]
    refine x_icmp_ge (t := 74) (q := 41) dX11_meant_38 (by decide) rfl (fun c38 => ?_) (fun c38 => absurd (by rw [show i = B by omega]; exact nI_le (Nat.le_refl _) (by omega)) c38)
    refine x_iload_n (q := 75) dX11_meant_74 rfl rfl ?_
    refine x_iret dX11_meant_75 rfl rfl (Nat.le_refl _) ?_
    rw [show i = B by omega]
    exact hQ
  | succ k ih =>
    intro i M hik hM hQ
    have hM0 := hM
    obtain ⟨mp0, mp1, mp2, mp3, mp4, mp5, mp6, mp7, mp8, mp9, mp10, mp11, mp12, mp13, mp14⟩ := hM
    refine x_iload (q := 34) dX11_meant_32 rfl rfl ?_
    refine x_aload_n (q := 35) dX11_meant_34 rfl rfl ?_
    refine x_getf (C := RX11) (T := TX11) (N := 29) (k := 22) (q := 38) mp0 (by omega) rfl hiX11 (by decide) (by decide +kernel) rfl dX11_meant_35 rfl ?_
    rw [hB0]
    refine x_icmp_ge (t := 74) (q := 41) dX11_meant_38 (by decide) rfl (fun c38 => absurd c38 (nI_ge (a := i) (b := B) (by omega) (by omega))) (fun c38 => ?_)
    refine x_iload_n (q := 42) dX11_meant_41 rfl rfl ?_
    refine x_aload_n (q := 43) dX11_meant_42 rfl rfl ?_
    refine x_getf (C := RX11) (T := TX11) (N := 29) (k := 23) (q := 46) mp0 (by omega) rfl hiX11 (by decide) (by decide +kernel) rfl dX11_meant_43 rfl ?_
    refine x_iload (q := 48) dX11_meant_46 rfl rfl ?_
    refine x_iald (q := 49) mp11 (by omega) (ixI (show (nI i : Int32) = nI i from rfl) (by omega) (by decide)) dX11_meant_48 rfl ?_
    rw [ixC (show (nI i : Int32) = nI i from rfl) (by omega)]
    refine x_iload_n (q := 50) dX11_meant_49 rfl rfl ?_
    refine x_ixor (q := 51) dX11_meant_50 rfl ?_
    refine x_callS (q := 54) c_m_ones eX11_meant_269 gX11_meant_X11_ones rfl (Nat.le_of_ble_eq_true rfl) ⟨Nat.le_refl _, Nat.le_refl _⟩ dX11_meant_51 rfl rfl (fun r51 M51 p51 => ?_)
    obtain ⟨rfl, rfl⟩ := p51
    refine x_iload_n (q := 55) dX11_meant_54 rfl rfl ?_
    refine x_icmp_gt (t := 65) (q := 58) dX11_meant_55 (by decide) rfl (fun c55 => ?_) (fun c55 => ?_)
    · refine x_iconst (v := 0) (q := 66) dX11_meant_65 rfl (by decide) ?_
      refine x_ior (q := 67) dX11_meant_66 rfl ?_
      refine x_istore_n (L' := fun x3_67 => [(3, .int x3_67), (4, .int (nI i)), (0, .ref 99), (1, .int a), (2, .int b)]) (q := 68) dX11_meant_67 rfl (by decide) (fun _ => rfl) (fun x3_67 ex3_67 => ?_)
      obtain rfl : x3_67 = bset (fun k => decide (onR (t 23 k ^^^ a) 9 ≤ b)) (i + 1) := ex3_67.trans (by first | rw [bset_f (p := (fun k => decide (onR (t 23 k ^^^ a) 9 ≤ b))) (decide_eq_false (fun h => xlt_nle.mpr c55 h)), Int32.or_zero] | rw [bset_t (p := (fun k => decide (onR (t 23 k ^^^ a) 9 ≤ b))) (decide_eq_true (xle_nlt.mp c55))])
      refine x_iinc (L' := fun x4_68 => [(4, .int x4_68), (3, .int (bset (fun k => decide (onR (t 23 k ^^^ a) 9 ≤ b)) (i + 1))), (0, .ref 99), (1, .int a), (2, .int b)]) (q := 71) dX11_meant_68 rfl rfl (by decide) (fun _ => rfl) (fun x4_68 ex4_68 => ?_)
      obtain rfl : x4_68 = nI (i + 1) := ex4_68.trans (nI_1 i)
      refine x_goto (q := 32) dX11_meant_71 (by decide) ?_
      refine x_pick (L' := [(4, .int (nI (i + 1))), (3, .int (bset (fun k => decide (onR (t 23 k ^^^ a) 9 ≤ b)) (i + 1))), (0, .ref 99), (1, .int a), (2, .int b)]) [0, 1, 2, 3, 4] rfl ?_
      exact ih (i + 1) M (by omega) hM0 hQ
    · refine x_iconst (v := 1) (q := 59) dX11_meant_58 rfl (by decide) ?_
      refine x_iload (q := 61) dX11_meant_59 rfl rfl ?_
      refine x_ishl (q := 62) dX11_meant_61 rfl ?_
      refine x_goto (q := 66) dX11_meant_62 (by decide) ?_
      refine x_ior (q := 67) dX11_meant_66 rfl ?_
      refine x_istore_n (L' := fun x3_67 => [(3, .int x3_67), (4, .int (nI i)), (0, .ref 99), (1, .int a), (2, .int b)]) (q := 68) dX11_meant_67 rfl (by decide) (fun _ => rfl) (fun x3_67 ex3_67 => ?_)
      obtain rfl : x3_67 = bset (fun k => decide (onR (t 23 k ^^^ a) 9 ≤ b)) (i + 1) := ex3_67.trans (by first | rw [bset_f (p := (fun k => decide (onR (t 23 k ^^^ a) 9 ≤ b))) (decide_eq_false (fun h => xlt_nle.mpr c55 h)), Int32.or_zero] | rw [bset_t (p := (fun k => decide (onR (t 23 k ^^^ a) 9 ≤ b))) (decide_eq_true (xle_nlt.mp c55))])
      refine x_iinc (L' := fun x4_68 => [(4, .int x4_68), (3, .int (bset (fun k => decide (onR (t 23 k ^^^ a) 9 ≤ b)) (i + 1))), (0, .ref 99), (1, .int a), (2, .int b)]) (q := 71) dX11_meant_68 rfl rfl (by decide) (fun _ => rfl) (fun x4_68 ex4_68 => ?_)
      obtain rfl : x4_68 = nI (i + 1) := ex4_68.trans (nI_1 i)
      refine x_goto (q := 32) dX11_meant_71 (by decide) ?_
      refine x_pick (L' := [(4, .int (nI (i + 1))), (3, .int (bset (fun k => decide (onR (t 23 k ^^^ a) 9 ≤ b)) (i + 1))), (0, .ref 99), (1, .int a), (2, .int b)]) [0, 1, 2, 3, 4] rfl ?_
      exact ih (i + 1) M (by omega) hM0 hQ

set_option maxHeartbeats 4000000 in
set_option maxRecDepth 100000 in
theorem c_m_meant {n : Nat} {M : Nat → xE} {t : Nat → Nat → Int32} {u : Nat → Nat → Int64} (hn : 113 < n) (hM : oX11 99 t u M) {B : Nat} (hB : B ≤ 6) (hB0 : t 22 0 = nI B) {a b : Int32} : xMet mX11_meant [.ref 99, .int a, .int b] n M (fun r M' => M = M' ∧ some (.int (if inB a 64 = true then (if inB b 7 = true then bset (fun k => decide (onR (t 23 k ^^^ a) 9 ≤ b)) B else -3) else -3)) = r) := by
  have hM0 := hM
  obtain ⟨mp0, mp1, mp2, mp3, mp4, mp5, mp6, mp7, mp8, mp9, mp10, mp11, mp12, mp13, mp14⟩ := hM
  refine xMet.of _ (by decide) rfl (Nat.le_of_ble_eq_true rfl) ?_
  refine x_iload_n (q := 1) dX11_meant_0 rfl rfl ?_
  refine x_i2l (q := 2) dX11_meant_1 rfl ?_
  refine x_lconst (v := 0) (q := 3) dX11_meant_2 rfl (by decide) ?_
  refine x_ldc2 (v := 63) (q := 6) (by decide +kernel) dX11_meant_3 rfl ?_
  refine x_callS (q := 9) c_m_in eX11_meant_65 gX11_meant_X11_in rfl (Nat.le_of_ble_eq_true rfl) ⟨Nat.le_refl _, Nat.le_refl _⟩ dX11_meant_6 rfl rfl (fun r6 M6 p6 => ?_)
  obtain ⟨rfl, p6⟩ := p6
  rcases p6 with ⟨b6, rfl⟩ | ⟨b6, rfl⟩
  · refine x_if_eq (t := 24) (q := 12) dX11_meant_9 (by decide) rfl (fun c9 => absurd c9 (by decide)) (fun c9 => ?_)
    refine x_iload_n (q := 13) dX11_meant_12 rfl rfl ?_
    refine x_i2l (q := 14) dX11_meant_13 rfl ?_
    refine x_lconst (v := 0) (q := 15) dX11_meant_14 rfl (by decide) ?_
    refine x_ldc2 (v := 6) (q := 18) (by decide +kernel) dX11_meant_15 rfl ?_
    refine x_callS (q := 21) c_m_in eX11_meant_65 gX11_meant_X11_in rfl (Nat.le_of_ble_eq_true rfl) ⟨Nat.le_refl _, Nat.le_refl _⟩ dX11_meant_18 rfl rfl (fun r18 M18 p18 => ?_)
    obtain ⟨rfl, p18⟩ := p18
    rcases p18 with ⟨b18, rfl⟩ | ⟨b18, rfl⟩
    · refine x_if_ne (t := 27) (q := 24) dX11_meant_21 (by decide) rfl (fun c21 => ?_) (fun c21 => absurd c21 (by decide))
      refine x_iconst (v := 0) (q := 28) dX11_meant_27 rfl (by decide) ?_
      refine x_istore_n (L' := fun x3_28 => [(3, .int x3_28), (0, .ref 99), (1, .int a), (2, .int b)]) (q := 29) dX11_meant_28 rfl (by decide) (fun _ => rfl) (fun x3_28 ex3_28 => ?_)
      refine x_iconst (v := 0) (q := 30) dX11_meant_29 rfl (by decide) ?_
      refine x_istore (L' := fun x4_30 => [(4, .int x4_30), (3, .int x3_28), (0, .ref 99), (1, .int a), (2, .int b)]) (q := 32) dX11_meant_30 rfl (by decide) (fun _ => rfl) (fun x4_30 ex4_30 => ?_)
      subst ex3_28
      subst ex4_30
      exact l_m_meant hn hB hB0 B 0 M (by omega) hM0 ⟨rfl, by rw [if_pos ((mIn2 (k := 63) (by decide) rfl).mp b6), if_pos ((mIn2 (k := 6) (by decide) rfl).mp b18)]⟩
    · refine x_if_ne (t := 27) (q := 24) dX11_meant_21 (by decide) rfl (fun c21 => absurd c21 (by decide)) (fun c21 => ?_)
      refine x_bipush (v := -3) (q := 26) dX11_meant_24 rfl (by decide) ?_
      refine x_iret dX11_meant_26 rfl rfl (Nat.le_refl _) ?_
      refine ⟨rfl, ?_⟩
      rw [if_pos ((mIn2 (k := 63) (by decide) rfl).mp b6), if_neg (fun h => b18 ((mIn2 (k := 6) (by decide) rfl).mpr h))]
  · refine x_if_eq (t := 24) (q := 12) dX11_meant_9 (by decide) rfl (fun c9 => ?_) (fun c9 => absurd c9 (by decide))
    refine x_bipush (v := -3) (q := 26) dX11_meant_24 rfl (by decide) ?_
    refine x_iret dX11_meant_26 rfl rfl (Nat.le_refl _) ?_
    refine ⟨rfl, ?_⟩
    rw [if_neg (fun h => b6 ((mIn2 (k := 63) (by decide) rfl).mpr h))]

def bIn (r : Nat → Int32) (i : Nat) (a : Int32) : Nat → Int32
  | 0 => a
  | k + 1 => if onR (r i ^^^ r k) 9 < bIn r i a k then onR (r i ^^^ r k) 9 else bIn r i a k
def bOut (r : Nat → Int32) : Nat → Int32
  | 0 => 6
  | k + 1 => bIn r k (bOut r k) k
def mBears (r : Nat → Int32) (B : Nat) : Int32 := if B < 2 then (if B = 0 then -1 else 6) else (bOut r B - 1) / 2
set_option maxHeartbeats 4000000 in
set_option maxRecDepth 100000 in
theorem l_m_bears1 {n B g : Nat} {m : Int32} {t : Nat → Nat → Int32} {u : Nat → Nat → Int64} {Q : Option Value → (Nat → xE) → Prop} (hn : 113 < n) (hB : B ≤ 6) (hg : g < B) : ∀ (k i : Nat) (M : Nat → xE), i + k = g → (oX11 99 t u M) → (X mX11_bears 0 0 79 [(3, .int (nI g)), (2, .int (nI g)), (1, .int (bIn (t 23) g m g)), (0, .ref 99)] [] n M Q) → X mX11_bears 0 0 37 [(3, .int (nI i)), (2, .int (nI g)), (1, .int (bIn (t 23) g m i)), (0, .ref 99)] [] n M (Q) := by
  have hiX11 : ∀ w ∈ wsX110, w ∈ wsX11_bears := by decide +kernel
  intro k
  induction k with
  | zero =>
    intro i M hik hM hk1
    have hM0 := hM
    obtain ⟨mp0, mp1, mp2, mp3, mp4, mp5, mp6, mp7, mp8, mp9, mp10, mp11, mp12, mp13, mp14⟩ := hM
    refine x_iload_n (q := 38) dX11_bears_37 rfl rfl ?_
    refine x_iload_n (q := 39) dX11_bears_38 rfl rfl ?_
    refine x_icmp_ge (t := 79) (q := 42) dX11_bears_39 (by decide) rfl (fun c39 => ?_) (fun c39 => absurd (by rw [show i = g by omega]; exact nI_le (Nat.le_refl _) (by omega)) c39)
    have e9 : i = g := by omega
    subst e9
    exact hk1
  | succ k ih =>
    intro i M hik hM hk1
    have hM0 := hM
    obtain ⟨mp0, mp1, mp2, mp3, mp4, mp5, mp6, mp7, mp8, mp9, mp10, mp11, mp12, mp13, mp14⟩ := hM
    refine x_iload_n (q := 38) dX11_bears_37 rfl rfl ?_
    refine x_iload_n (q := 39) dX11_bears_38 rfl rfl ?_
    refine x_icmp_ge (t := 79) (q := 42) dX11_bears_39 (by decide) rfl (fun c39 => absurd c39 (nI_ge (a := i) (b := g) (by omega) (by omega))) (fun c39 => ?_)
    refine x_aload_n (q := 43) dX11_bears_42 rfl rfl ?_
    refine x_getf (C := RX11) (T := TX11) (N := 29) (k := 23) (q := 46) mp0 (by omega) rfl hiX11 (by decide) (by decide +kernel) rfl dX11_bears_43 rfl ?_
    refine x_iload_n (q := 47) dX11_bears_46 rfl rfl ?_
    refine x_iald (q := 48) mp11 (by omega) (ixI (show (nI g : Int32) = nI g from rfl) (by omega) (by decide)) dX11_bears_47 rfl ?_
    rw [ixC (show (nI g : Int32) = nI g from rfl) (by omega)]
    refine x_aload_n (q := 49) dX11_bears_48 rfl rfl ?_
    refine x_getf (C := RX11) (T := TX11) (N := 29) (k := 23) (q := 52) mp0 (by omega) rfl hiX11 (by decide) (by decide +kernel) rfl dX11_bears_49 rfl ?_
    refine x_iload_n (q := 53) dX11_bears_52 rfl rfl ?_
    refine x_iald (q := 54) mp11 (by omega) (ixI (show (nI i : Int32) = nI i from rfl) (by omega) (by decide)) dX11_bears_53 rfl ?_
    rw [ixC (show (nI i : Int32) = nI i from rfl) (by omega)]
    refine x_ixor (q := 55) dX11_bears_54 rfl ?_
    refine x_callS (q := 58) c_m_ones eX11_bears_269 gX11_bears_X11_ones rfl (Nat.le_of_ble_eq_true rfl) ⟨Nat.le_refl _, Nat.le_refl _⟩ dX11_bears_55 rfl rfl (fun r55 M55 p55 => ?_)
    obtain ⟨rfl, rfl⟩ := p55
    refine x_istore (L' := fun x4_58 => [(4, .int x4_58), (3, .int (nI i)), (2, .int (nI g)), (1, .int (bIn (t 23) g m i)), (0, .ref 99)]) (q := 60) dX11_bears_58 rfl (by decide) (fun _ => rfl) (fun x4_58 ex4_58 => ?_)
    obtain rfl : x4_58 = onR (t 23 g ^^^ t 23 i) 9 := ex4_58
    refine x_iload (q := 62) dX11_bears_60 rfl rfl ?_
    refine x_iload_n (q := 63) dX11_bears_62 rfl rfl ?_
    refine x_icmp_ge (t := 71) (q := 66) dX11_bears_63 (by decide) rfl (fun c63 => ?_) (fun c63 => ?_)
    · refine x_iload_n (q := 72) dX11_bears_71 rfl rfl ?_
      refine x_istore_n (L' := fun x1_72 => [(1, .int x1_72), (4, .int (onR (t 23 g ^^^ t 23 i) 9)), (3, .int (nI i)), (2, .int (nI g)), (0, .ref 99)]) (q := 73) dX11_bears_72 rfl (by decide) (fun _ => rfl) (fun x1_72 ex1_72 => ?_)
      obtain rfl : x1_72 = bIn (t 23) g m (i + 1) := ex1_72.trans (by first | (rw [bIn, if_neg (xle_nlt.mpr c63)]) | (rw [bIn, if_pos (xlt_nle.mp c63)]))
      refine x_iinc (L' := fun x3_73 => [(3, .int x3_73), (1, .int (bIn (t 23) g m (i + 1))), (4, .int (onR (t 23 g ^^^ t 23 i) 9)), (2, .int (nI g)), (0, .ref 99)]) (q := 76) dX11_bears_73 rfl rfl (by decide) (fun _ => rfl) (fun x3_73 ex3_73 => ?_)
      obtain rfl : x3_73 = nI (i + 1) := ex3_73.trans (nI_1 i)
      refine x_goto (q := 37) dX11_bears_76 (by decide) ?_
      refine x_pick (L' := [(3, .int (nI (i + 1))), (2, .int (nI g)), (1, .int (bIn (t 23) g m (i + 1))), (0, .ref 99)]) [0, 3, 1, 4] rfl ?_
      exact ih (i + 1) M (by omega) hM0 hk1
    · refine x_iload (q := 68) dX11_bears_66 rfl rfl ?_
      refine x_goto (q := 72) dX11_bears_68 (by decide) ?_
      refine x_istore_n (L' := fun x1_72 => [(1, .int x1_72), (4, .int (onR (t 23 g ^^^ t 23 i) 9)), (3, .int (nI i)), (2, .int (nI g)), (0, .ref 99)]) (q := 73) dX11_bears_72 rfl (by decide) (fun _ => rfl) (fun x1_72 ex1_72 => ?_)
      obtain rfl : x1_72 = bIn (t 23) g m (i + 1) := ex1_72.trans (by first | (rw [bIn, if_neg (xle_nlt.mpr c63)]) | (rw [bIn, if_pos (xlt_nle.mp c63)]))
      refine x_iinc (L' := fun x3_73 => [(3, .int x3_73), (1, .int (bIn (t 23) g m (i + 1))), (4, .int (onR (t 23 g ^^^ t 23 i) 9)), (2, .int (nI g)), (0, .ref 99)]) (q := 76) dX11_bears_73 rfl rfl (by decide) (fun _ => rfl) (fun x3_73 ex3_73 => ?_)
      obtain rfl : x3_73 = nI (i + 1) := ex3_73.trans (nI_1 i)
      refine x_goto (q := 37) dX11_bears_76 (by decide) ?_
      refine x_pick (L' := [(3, .int (nI (i + 1))), (2, .int (nI g)), (1, .int (bIn (t 23) g m (i + 1))), (0, .ref 99)]) [0, 3, 1, 4] rfl ?_
      exact ih (i + 1) M (by omega) hM0 hk1

set_option maxHeartbeats 4000000 in
set_option maxRecDepth 100000 in
theorem l_m_bears {n B : Nat} {t : Nat → Nat → Int32} {u : Nat → Nat → Int64} {Q : Option Value → (Nat → xE) → Prop} (hn : 113 < n) (hB : B ≤ 6) (hB0 : t 22 0 = nI B) : ∀ (k i : Nat) (M : Nat → xE), i + k = B → (oX11 99 t u M) → (Q (some (.int ((bOut (t 23) B - 1) / 2))) M) → X mX11_bears 0 0 27 [(2, .int (nI i)), (1, .int (bOut (t 23) i)), (0, .ref 99)] [] n M (Q) := by
  have hiX11 : ∀ w ∈ wsX110, w ∈ wsX11_bears := by decide +kernel
  intro k
  induction k with
  | zero =>
    intro i M hik hM hQ
    have hM0 := hM
    obtain ⟨mp0, mp1, mp2, mp3, mp4, mp5, mp6, mp7, mp8, mp9, mp10, mp11, mp12, mp13, mp14⟩ := hM
    refine x_iload_n (q := 28) dX11_bears_27 rfl rfl ?_
    refine x_aload_n (q := 29) dX11_bears_28 rfl rfl ?_
    refine x_getf (C := RX11) (T := TX11) (N := 29) (k := 22) (q := 32) mp0 (by omega) rfl hiX11 (by decide) (by decide +kernel) rfl dX11_bears_29 rfl ?_
    rw [hB0]
    refine x_icmp_ge (t := 85) (q := 35) dX11_bears_32 (by decide) rfl (fun c32 => ?_) (fun c32 => absurd (by rw [show i = B by omega]; exact nI_le (Nat.le_refl _) (by omega)) c32)
    refine x_iload_n (q := 86) dX11_bears_85 rfl rfl ?_
    refine x_iconst (v := 1) (q := 87) dX11_bears_86 rfl (by decide) ?_
    refine x_isub (q := 88) dX11_bears_87 rfl ?_
    refine x_iconst (v := 2) (q := 89) dX11_bears_88 rfl (by decide) ?_
    refine x_idiv (q := 90) dX11_bears_89 rfl ((by decide)) ?_
    refine x_iret dX11_bears_90 rfl rfl (Nat.le_refl _) ?_
    rw [show i = B by omega]
    exact hQ
  | succ k ih =>
    intro i M hik hM hQ
    have hM0 := hM
    obtain ⟨mp0, mp1, mp2, mp3, mp4, mp5, mp6, mp7, mp8, mp9, mp10, mp11, mp12, mp13, mp14⟩ := hM
    refine x_iload_n (q := 28) dX11_bears_27 rfl rfl ?_
    refine x_aload_n (q := 29) dX11_bears_28 rfl rfl ?_
    refine x_getf (C := RX11) (T := TX11) (N := 29) (k := 22) (q := 32) mp0 (by omega) rfl hiX11 (by decide) (by decide +kernel) rfl dX11_bears_29 rfl ?_
    rw [hB0]
    refine x_icmp_ge (t := 85) (q := 35) dX11_bears_32 (by decide) rfl (fun c32 => absurd c32 (nI_ge (a := i) (b := B) (by omega) (by omega))) (fun c32 => ?_)
    refine x_iconst (v := 0) (q := 36) dX11_bears_35 rfl (by decide) ?_
    refine x_istore_n (L' := fun x3_36 => [(3, .int x3_36), (2, .int (nI i)), (1, .int (bOut (t 23) i)), (0, .ref 99)]) (q := 37) dX11_bears_36 rfl (by decide) (fun _ => rfl) (fun x3_36 ex3_36 => ?_)
    subst ex3_36
    refine l_m_bears1 (m := bOut (t 23) i) hn hB (show i < B by omega) i 0 M (by omega) hM0 ?_
    refine x_iinc (L' := fun x2_79 => [(2, .int x2_79), (3, .int (nI i)), (1, .int (bIn (t 23) i (bOut (t 23) i) i)), (0, .ref 99)]) (q := 82) dX11_bears_79 rfl rfl (by decide) (fun _ => rfl) (fun x2_79 ex2_79 => ?_)
    obtain rfl : x2_79 = nI (i + 1) := ex2_79.trans (nI_1 i)
    refine x_goto (q := 27) dX11_bears_82 (by decide) ?_
    refine x_pick (L' := [(2, .int (nI (i + 1))), (1, .int (bIn (t 23) i (bOut (t 23) i) i)), (0, .ref 99)]) [0, 2, 3] rfl ?_
    exact ih (i + 1) M (by omega) hM0 hQ
    

set_option maxHeartbeats 4000000 in
set_option maxRecDepth 100000 in
theorem c_m_bears {n : Nat} {M : Nat → xE} {t : Nat → Nat → Int32} {u : Nat → Nat → Int64} (hn : 113 < n) (hM : oX11 99 t u M) {B : Nat} (hB : B ≤ 6) (hB0 : t 22 0 = nI B) : xMet mX11_bears [.ref 99] n M (fun r M' => M = M' ∧ some (.int (mBears (t 23) B)) = r) := by
  have hM0 := hM
  obtain ⟨mp0, mp1, mp2, mp3, mp4, mp5, mp6, mp7, mp8, mp9, mp10, mp11, mp12, mp13, mp14⟩ := hM
  have hiX11 : ∀ w ∈ wsX110, w ∈ wsX11_bears := by decide +kernel
  refine xMet.of _ (by decide) rfl (Nat.le_of_ble_eq_true rfl) ?_
  refine x_aload_n (q := 1) dX11_bears_0 rfl rfl ?_
  refine x_getf (C := RX11) (T := TX11) (N := 29) (k := 22) (q := 4) mp0 (by omega) rfl hiX11 (by decide) (by decide +kernel) rfl dX11_bears_1 rfl ?_
  rw [hB0]
  refine x_iconst (v := 2) (q := 5) dX11_bears_4 rfl (by decide) ?_
  refine x_icmp_ge (t := 22) (q := 8) dX11_bears_5 (by decide) rfl (fun c5 => ?_) (fun c5 => ?_)
  · refine x_bipush (v := 6) (q := 24) dX11_bears_22 rfl (by decide) ?_
    refine x_istore_n (L' := fun x1_24 => [(1, .int x1_24), (0, .ref 99)]) (q := 25) dX11_bears_24 rfl (by decide) (fun _ => rfl) (fun x1_24 ex1_24 => ?_)
    refine x_iconst (v := 0) (q := 26) dX11_bears_25 rfl (by decide) ?_
    refine x_istore_n (L' := fun x2_26 => [(2, .int x2_26), (1, .int x1_24), (0, .ref 99)]) (q := 27) dX11_bears_26 rfl (by decide) (fun _ => rfl) (fun x2_26 ex2_26 => ?_)
    subst ex1_24
    subst ex2_26
    exact l_m_bears hn hB hB0 B 0 M (by omega) hM0 ⟨rfl, by unfold mBears; rw [if_neg (show ¬ B < 2 from fun h => nI_ge (b := 2) h (by decide) c5)]⟩
  · refine x_aload_n (q := 9) dX11_bears_8 rfl rfl ?_
    refine x_getf (C := RX11) (T := TX11) (N := 29) (k := 22) (q := 12) mp0 (by omega) rfl hiX11 (by decide) (by decide +kernel) rfl dX11_bears_9 rfl ?_
    rw [hB0]
    refine x_if_ne (t := 19) (q := 15) dX11_bears_12 (by decide) rfl (fun c12 => ?_) (fun c12 => ?_)
    · refine x_bipush (v := 6) (q := 21) dX11_bears_19 rfl (by decide) ?_
      refine x_iret dX11_bears_21 rfl rfl (Nat.le_refl _) ?_
      refine ⟨rfl, ?_⟩
      unfold mBears
      rw [if_pos (show B < 2 from Nat.lt_of_not_le (fun h => c5 (nI_le (a := 2) h (by omega))))]
      first
        | (rw [if_pos (show B = 0 from (nIne (a := B) (b := 0) (by omega) (by decide)).mp c12)]; done)
        | (rw [if_neg (show ¬ B = 0 from fun h => c12 (by rw [h]; rfl))]; done)
    · refine x_iconst (v := -1) (q := 16) dX11_bears_15 rfl (by decide) ?_
      refine x_goto (q := 21) dX11_bears_16 (by decide) ?_
      refine x_iret dX11_bears_21 rfl rfl (Nat.le_refl _) ?_
      refine ⟨rfl, ?_⟩
      unfold mBears
      rw [if_pos (show B < 2 from Nat.lt_of_not_le (fun h => c5 (nI_le (a := 2) h (by omega))))]
      first
        | (rw [if_pos (show B = 0 from (nIne (a := B) (b := 0) (by omega) (by decide)).mp c12)]; done)
        | (rw [if_neg (show ¬ B = 0 from fun h => c12 (by rw [h]; rfl))]; done)

