set_option maxHeartbeats 4000000 in
set_option maxRecDepth 100000 in
theorem l_as {n W : Nat} {kb a b : Int32} {τ δ : Nat → Nat → Int32} {Q : Option Value → (Nat → xE) → Prop} (hn : 98 < n) (hW : W ≤ 6) (hW0 : τ 3 0 = nI W) (va : vp_in a 5) : ∀ (k i : Nat) (M : Nat → xE), i + k = W → (oX10 kb M) → (oX8 1 τ M) → (oX3 25 δ M) → (Q (some (.int (bset (fun k => cDo τ δ a (nI k)) W))) M) → X mX10_as 0 0 51 [(4, .int (nI i)), (3, .int (bset (fun k => cDo τ δ a (nI k)) i)), (0, .ref 0), (1, .int a), (2, .int b)] [] n M (Q) := by
  have hiX10 : ∀ w ∈ wsX100, w ∈ wsX10_as := by decide +kernel
  have hiX8 : ∀ w ∈ wsX80, w ∈ wsX10_as := by decide +kernel
  intro k
  induction k with
  | zero =>
    intro i M hik hX hT hD hQ
    have hT0 := hT
    obtain ⟨tp0, tp1, tp2, tp3, tp4, tp5, tp6, tp7, tp8, tp9, tp10⟩ := hT
    rw [hW0] at tp0
    refine x_iload (q := 53) dX10_as_51 rfl rfl ?_
    refine x_aload_n (q := 54) dX10_as_53 rfl rfl ?_
    refine x_getf (C := RX10) (T := TX10) (N := 12) (k := 0) (q := 57) hX (by omega) rfl hiX10 (by decide) (by decide +kernel) rfl dX10_as_54 rfl ?_
    refine x_getf (C := RX8) (T := TX8) (N := 15) (k := 3) (q := 60) tp0 (by omega) rfl hiX8 (by decide) (by decide +kernel) rfl dX10_as_57 rfl ?_
    refine x_icmp_ge (t := 86) (q := 63) dX10_as_60 (by decide) rfl (fun c60 => ?_) (fun c60 => absurd (by rw [show i = W by omega]; exact nI_le (Nat.le_refl _) (by omega)) c60)
    refine x_iload_n (q := 87) dX10_as_86 rfl rfl ?_
    refine x_iret dX10_as_87 rfl rfl (Nat.le_refl _) ?_
    rw [show i = W by omega]
    exact hQ
  | succ k ih =>
    intro i M hik hX hT hD hQ
    have hT0 := hT
    obtain ⟨tp0, tp1, tp2, tp3, tp4, tp5, tp6, tp7, tp8, tp9, tp10⟩ := hT
    rw [hW0] at tp0
    refine x_iload (q := 53) dX10_as_51 rfl rfl ?_
    refine x_aload_n (q := 54) dX10_as_53 rfl rfl ?_
    refine x_getf (C := RX10) (T := TX10) (N := 12) (k := 0) (q := 57) hX (by omega) rfl hiX10 (by decide) (by decide +kernel) rfl dX10_as_54 rfl ?_
    refine x_getf (C := RX8) (T := TX8) (N := 15) (k := 3) (q := 60) tp0 (by omega) rfl hiX8 (by decide) (by decide +kernel) rfl dX10_as_57 rfl ?_
    refine x_icmp_ge (t := 86) (q := 63) dX10_as_60 (by decide) rfl (fun c60 => absurd c60 (nI_ge (a := i) (b := W) (by omega) (by omega))) (fun c60 => ?_)
    refine x_aload_n (q := 64) dX10_as_63 rfl rfl ?_
    refine x_iload_n (q := 65) dX10_as_64 rfl rfl ?_
    refine x_iload (q := 67) dX10_as_65 rfl rfl ?_
    refine x_callV (q := 70) (ci := 10) (c_canDo hn hX hT0 hD va (vp_in_nI (show i < 6 by omega) (by decide))) eX10_as_187 gX10_as_X10_canDo hX (by omega) rfl rfl rfl (Nat.le_of_ble_eq_true rfl) ⟨Nat.le_refl _, Nat.le_refl _⟩ dX10_as_67 rfl rfl (fun r67 M67 p67 => ?_)
    obtain ⟨rfl, p67⟩ := p67
    rcases p67 with ⟨b67, rfl⟩ | ⟨b67, rfl⟩
    · refine x_if_eq (t := 80) (q := 73) dX10_as_70 (by decide) rfl (fun c70 => absurd c70 (by decide)) (fun c70 => ?_)
      refine x_iload_n (q := 74) dX10_as_73 rfl rfl ?_
      refine x_iconst (v := 1) (q := 75) dX10_as_74 rfl (by decide) ?_
      refine x_iload (q := 77) dX10_as_75 rfl rfl ?_
      refine x_ishl (q := 78) dX10_as_77 rfl ?_
      refine x_ior (q := 79) dX10_as_78 rfl ?_
      refine x_istore_n (L' := fun x3_79 => [(3, .int x3_79), (4, .int (nI i)), (0, .ref 0), (1, .int a), (2, .int b)]) (q := 80) dX10_as_79 rfl (by decide) (fun _ => rfl) (fun x3_79 ex3_79 => ?_)
      obtain rfl : x3_79 = bset (fun k => cDo τ δ a (nI k)) (i + 1) := ex3_79.trans (bset_t (p := fun k => cDo τ δ a (nI k)) b67).symm
      refine x_iinc (L' := fun x4_80 => [(4, .int x4_80), (3, .int (bset (fun k => cDo τ δ a (nI k)) (i + 1))), (0, .ref 0), (1, .int a), (2, .int b)]) (q := 83) dX10_as_80 rfl rfl (by decide) (fun _ => rfl) (fun x4_80 ex4_80 => ?_)
      obtain rfl : x4_80 = nI (i + 1) := ex4_80.trans (nI_1 i)
      refine x_goto (q := 51) dX10_as_83 (by decide) ?_
      refine x_pick (L' := [(4, .int (nI (i + 1))), (3, .int (bset (fun k => cDo τ δ a (nI k)) (i + 1))), (0, .ref 0), (1, .int a), (2, .int b)]) [0, 1, 2, 3, 4] rfl ?_
      exact ih (i + 1) M (by omega) hX hT0 hD hQ
    · refine x_if_eq (t := 80) (q := 73) dX10_as_70 (by decide) rfl (fun c70 => ?_) (fun c70 => absurd c70 (by decide))
      refine x_iinc (L' := fun x4_80 => [(4, .int x4_80), (3, .int (bset (fun k => cDo τ δ a (nI k)) i)), (0, .ref 0), (1, .int a), (2, .int b)]) (q := 83) dX10_as_80 rfl rfl (by decide) (fun _ => rfl) (fun x4_80 ex4_80 => ?_)
      obtain rfl : x4_80 = nI (i + 1) := ex4_80.trans (nI_1 i)
      refine x_goto (q := 51) dX10_as_83 (by decide) ?_
      rw [← bset_f (p := fun k => cDo τ δ a (nI k)) (show cDo τ δ a (nI i) = false by simpa using b67)]
      refine x_pick (L' := [(4, .int (nI (i + 1))), (3, .int (bset (fun k => cDo τ δ a (nI k)) (i + 1))), (0, .ref 0), (1, .int a), (2, .int b)]) [0, 1, 2, 3, 4] rfl ?_
      exact ih (i + 1) M (by omega) hX hT0 hD hQ

set_option maxHeartbeats 4000000 in
set_option maxRecDepth 100000 in
theorem c_as {n : Nat} {M : Nat → xE} {kb : Int32} (hn : 98 < n) (hX : oX10 kb M) {τ : Nat → Nat → Int32} (hT : oX8 1 τ M) {δ : Nat → Nat → Int32} (hD : oX3 25 δ M) {P : Nat} (hP : P ≤ 5) (hP0 : τ 0 0 = nI P) {W : Nat} (hW : W ≤ 6) (hW0 : τ 3 0 = nI W) (hk : ∀ j, j < P → vp_in (τ 1 j) 4) {a b : Int32} : xMet mX10_as [.ref 0, .int a, .int b] n M (fun r M' => M = M' ∧ some (.int (kAs τ δ P W a b)) = r) := by
  have hT0 := hT
  have hD0 := hD
  obtain ⟨tp0, tp1, tp2, tp3, tp4, tp5, tp6, tp7, tp8, tp9, tp10⟩ := hT
  obtain ⟨dp0, dp1, dp2, dp3⟩ := hD
  have hiX10 : ∀ w ∈ wsX100, w ∈ wsX10_as := by decide +kernel
  have hiX8 : ∀ w ∈ wsX80, w ∈ wsX10_as := by decide +kernel
  refine xMet.of _ (by decide) rfl (Nat.le_of_ble_eq_true rfl) ?_
  refine x_aload_n (q := 1) dX10_as_0 rfl rfl ?_
  refine x_iload_n (q := 2) dX10_as_1 rfl rfl ?_
  refine x_callV (q := 5) (ci := 10) (c_noOne hn hX hT0 hP hP0) eX10_as_125 gX10_as_X10_isNoOne hX (by omega) rfl rfl rfl (Nat.le_of_ble_eq_true rfl) ⟨Nat.le_refl _, Nat.le_refl _⟩ dX10_as_2 rfl rfl (fun r2 M2 p2 => ?_)
  obtain ⟨rfl, p2⟩ := p2
  rcases p2 with ⟨b2, rfl⟩ | ⟨b2, rfl⟩
  · refine x_if_eq (t := 11) (q := 8) dX10_as_5 (by decide) rfl (fun c5 => absurd c5 (by decide)) (fun c5 => ?_)
    refine x_bipush (v := -2) (q := 10) dX10_as_8 rfl (by decide) ?_
    refine x_iret dX10_as_10 rfl rfl (Nat.le_refl _) ?_
    refine ⟨rfl, ?_⟩
    unfold kAs
    rw [if_neg (show ¬ inB a P = true by rw [b2]; decide)]
  · have v2 := inV b2
    have va : vp_in a 5 := by rw [vp_in_iff] at v2 ⊢; omega
    have vk : vp_in (τ 1 a.toNatClampNeg) 4 := by obtain ⟨j, hj, rfl⟩ := vp_in_of v2 (by omega); rw [nI_clamp (by omega)]; exact hk j hj
    refine x_if_eq (t := 11) (q := 8) dX10_as_5 (by decide) rfl (fun c5 => ?_) (fun c5 => absurd c5 (by decide))
    refine x_iload_n (q := 12) dX10_as_11 rfl rfl ?_
    refine x_iconst (v := 0) (q := 13) dX10_as_12 rfl (by decide) ?_
    refine x_iconst (v := 5) (q := 14) dX10_as_13 rfl (by decide) ?_
    refine x_callS (q := 17) c_isOutside eX10_as_94 gX10_as_X10_isOutside rfl (Nat.le_of_ble_eq_true rfl) ⟨Nat.le_refl _, Nat.le_refl _⟩ dX10_as_14 rfl rfl (fun r14 M14 p14 => ?_)
    obtain ⟨rfl, p14⟩ := p14
    rcases p14 with ⟨b14, rfl⟩ | ⟨b14, rfl⟩
    · refine x_if_eq (t := 23) (q := 20) dX10_as_17 (by decide) rfl (fun c17 => absurd c17 (by decide)) (fun c17 => ?_)
      refine x_bipush (v := -3) (q := 22) dX10_as_20 rfl (by decide) ?_
      refine x_iret dX10_as_22 rfl rfl (Nat.le_refl _) ?_
      refine ⟨rfl, ?_⟩
      unfold kAs
      rw [if_pos (inT b2), if_neg (show ¬ inB b 6 = true by rw [outB (k := 5) (by decide) b14]; decide)]
    · refine x_if_eq (t := 23) (q := 20) dX10_as_17 (by decide) rfl (fun c17 => ?_) (fun c17 => absurd c17 (by decide))
      refine x_gets (q := 26) (by decide +kernel) dX10_as_23 rfl ?_
      refine x_aload_n (q := 27) dX10_as_26 rfl rfl ?_
      refine x_getf (C := RX10) (T := TX10) (N := 12) (k := 0) (q := 30) hX (by omega) rfl hiX10 (by decide) (by decide +kernel) rfl dX10_as_27 rfl ?_
      refine x_getf (C := RX8) (T := TX8) (N := 15) (k := 1) (q := 33) tp0 (by omega) rfl hiX8 (by decide) (by decide +kernel) rfl dX10_as_30 rfl ?_
      refine x_iload_n (q := 34) dX10_as_33 rfl rfl ?_
      refine x_iald (q := 35) tp1 (by omega) va dX10_as_34 rfl ?_
      refine x_tkld (q := 36) vk dX10_as_35 rfl ?_
      refine x_iload_n (q := 37) dX10_as_36 rfl rfl ?_
      refine x_callS (q := 40) c_bitOf eX10_as_144 gX10_as_X10_bitOf rfl (Nat.le_of_ble_eq_true rfl) ⟨Nat.le_refl _, Nat.le_refl _⟩ dX10_as_37 rfl rfl (fun r37 M37 p37 => ?_)
      obtain ⟨rfl, rfl⟩ := p37
      refine x_if_ne (t := 46) (q := 43) dX10_as_40 (by decide) rfl (fun c40 => ?_) (fun c40 => ?_)
      · refine x_iconst (v := 0) (q := 47) dX10_as_46 rfl (by decide) ?_
        refine x_istore_n (L' := fun x3_47 => [(3, .int x3_47), (0, .ref 0), (1, .int a), (2, .int b)]) (q := 48) dX10_as_47 rfl (by decide) (fun _ => rfl) (fun x3_47 ex3_47 => ?_)
        refine x_iconst (v := 0) (q := 49) dX10_as_48 rfl (by decide) ?_
        refine x_istore (L' := fun x4_49 => [(4, .int x4_49), (3, .int x3_47), (0, .ref 0), (1, .int a), (2, .int b)]) (q := 51) dX10_as_49 rfl (by decide) (fun _ => rfl) (fun x4_49 ex4_49 => ?_)
        subst ex3_47
        subst ex4_49
        exact l_as hn hW hW0 va W 0 M (by omega) hX hT0 hD0 ⟨rfl, by unfold kAs; rw [if_pos (inT b2), if_pos (outT (k := 5) (by decide) b14), if_neg (show ¬ bo (xTk (τ 1 a.toNatClampNeg).toNatClampNeg) b = 0 from c40)]⟩
      · refine x_bipush (v := -4) (q := 45) dX10_as_43 rfl (by decide) ?_
        refine x_iret dX10_as_45 rfl rfl (Nat.le_refl _) ?_
        refine ⟨rfl, ?_⟩
        unfold kAs
        rw [if_pos (inT b2), if_pos (outT (k := 5) (by decide) b14), if_pos (show bo (xTk (τ 1 a.toNatClampNeg).toNatClampNeg) b = 0 from c40)]

set_option maxHeartbeats 4000000 in
set_option maxRecDepth 100000 in
theorem c_sell {n : Nat} {M : Nat → xE} {kb : Int32} (hn : 98 < n) (hX : oX10 kb M) {τ : Nat → Nat → Int32} (hT : oX8 1 τ M) {δ : Nat → Nat → Int32} (hD : oX3 25 δ M) {G : Nat} (hG : G ≤ 5) (hG0 : τ 8 0 = nI G) {sz nx : Nat} {Dp : Nat → Nat → Nat → Int32} (hsz : sz ≤ 8) (hnx : nx < 8) (hPa : oPast 29 sz nx Dp M) {a : Int32} : xMet mX10_sell [.ref 0, .int a] n M (fun r M' => if inB a G = true then (if bo (δ 6 0) a = 1 then (M = M' ∧ some (.int (-4)) = r) else (some (.int (tPrice τ a (δ 0 0))) = r ∧ oX3 25 (dSell τ δ a) M' ∧ oPast 29 (pSz sz) ((nx + 1) % 8) (pPut Dp nx δ) M' ∧ xfr 25 63 M M')) else (M = M' ∧ some (.int (-2)) = r)) := by
  have hT0 := hT
  have hD0 := hD
  obtain ⟨tp0, tp1, tp2, tp3, tp4, tp5, tp6, tp7, tp8, tp9, tp10⟩ := hT
  obtain ⟨dp0, dp1, dp2, dp3⟩ := hD
  have hiX10 : ∀ w ∈ wsX100, w ∈ wsX10_sell := by decide +kernel
  have hiX3 : ∀ w ∈ wsX30, w ∈ wsX10_sell := by decide +kernel
  refine xMet.of _ (by decide) rfl (Nat.le_of_ble_eq_true rfl) ?_
  refine x_aload_n (q := 1) dX10_sell_0 rfl rfl ?_
  refine x_iload_n (q := 2) dX10_sell_1 rfl rfl ?_
  refine x_callV (q := 5) (ci := 10) (c_noGood hn hX hT0 hG hG0) eX10_sell_169 gX10_sell_X10_isNoGood hX (by omega) rfl rfl rfl (Nat.le_of_ble_eq_true rfl) ⟨Nat.le_refl _, Nat.le_refl _⟩ dX10_sell_2 rfl rfl (fun r2 M2 p2 => ?_)
  obtain ⟨rfl, p2⟩ := p2
  rcases p2 with ⟨b2, rfl⟩ | ⟨b2, rfl⟩
  · refine x_if_eq (t := 11) (q := 8) dX10_sell_5 (by decide) rfl (fun c5 => absurd c5 (by decide)) (fun c5 => ?_)
    refine x_bipush (v := -2) (q := 10) dX10_sell_8 rfl (by decide) ?_
    refine x_iret dX10_sell_10 rfl rfl (Nat.le_refl _) ?_
    rw [if_neg (show ¬ inB a G = true by rw [b2]; decide)]
    exact ⟨rfl, rfl⟩
  · have v2 := inV b2
    have va : vp_in a 5 := by rw [vp_in_iff] at v2 ⊢; omega
    refine x_if_eq (t := 11) (q := 8) dX10_sell_5 (by decide) rfl (fun c5 => ?_) (fun c5 => absurd c5 (by decide))
    refine x_aload_n (q := 12) dX10_sell_11 rfl rfl ?_
    refine x_getf (C := RX10) (T := TX10) (N := 12) (k := 2) (q := 15) hX (by omega) rfl hiX10 (by decide) (by decide +kernel) rfl dX10_sell_12 rfl ?_
    refine x_getf (C := RX3) (T := TX3) (N := 10) (k := 6) (q := 18) dp0 (by omega) rfl hiX3 (by decide) (by decide +kernel) rfl dX10_sell_15 rfl ?_
    refine x_iload_n (q := 19) dX10_sell_18 rfl rfl ?_
    refine x_callS (q := 22) c_bitOf eX10_sell_144 gX10_sell_X10_bitOf rfl (Nat.le_of_ble_eq_true rfl) ⟨Nat.le_refl _, Nat.le_refl _⟩ dX10_sell_19 rfl rfl (fun r19 M19 p19 => ?_)
    obtain ⟨rfl, rfl⟩ := p19
    refine x_iconst (v := 1) (q := 23) dX10_sell_22 rfl (by decide) ?_
    refine x_icmp_ne (t := 29) (q := 26) dX10_sell_23 (by decide) rfl (fun c23 => ?_) (fun c23 => ?_)
    · refine x_aload_n (q := 30) dX10_sell_29 rfl rfl ?_
      refine x_getf (C := RX10) (T := TX10) (N := 12) (k := 3) (q := 33) hX (by omega) rfl hiX10 (by decide) (by decide +kernel) rfl dX10_sell_30 rfl ?_
      refine x_aload_n (q := 34) dX10_sell_33 rfl rfl ?_
      refine x_getf (C := RX10) (T := TX10) (N := 12) (k := 2) (q := 37) hX (by omega) rfl hiX10 (by decide) (by decide +kernel) rfl dX10_sell_34 rfl ?_
      refine x_callV (q := 40) (ci := 5) (c_Past_remember (p := 29) (q := 25) (by omega) (by omega) (by omega) hsz hnx hPa hD0) eX10_sell_194 gX10_sell_X5_remember hPa.1 (by omega) rfl rfl rfl (Nat.le_of_ble_eq_true rfl) ⟨Nat.le_refl _, Nat.le_refl _⟩ dX10_sell_37 rfl rfl (fun r37 M37 p37 => ?_)
      obtain ⟨rfl, hQ37, fr37⟩ := p37
      refine x_aload_n (q := 41) dX10_sell_40 rfl rfl ?_
      have hv1_1_0 := ((fr37 (0) (by omega)).trans hX)
      refine x_getf (C := RX10) (T := TX10) (N := 12) (k := 0) (q := 44) hv1_1_0 (by omega) rfl hiX10 (by decide) (by decide +kernel) rfl dX10_sell_41 rfl ?_
      refine x_iload_n (q := 45) dX10_sell_44 rfl rfl ?_
      refine x_aload_n (q := 46) dX10_sell_45 rfl rfl ?_
      refine x_getf (C := RX10) (T := TX10) (N := 12) (k := 2) (q := 49) hv1_1_0 (by omega) rfl hiX10 (by decide) (by decide +kernel) rfl dX10_sell_46 rfl ?_
      have hv1_2_25 := ((fr37 (25) (by omega)).trans dp0)
      refine x_getf (C := RX3) (T := TX3) (N := 10) (k := 0) (q := 52) hv1_2_25 (by omega) rfl hiX3 (by decide) (by decide +kernel) rfl dX10_sell_49 rfl ?_
      have hv1_3_1 := ((fr37 (1) (by omega)).trans tp0)
      refine x_callV (q := 55) (ci := 8) (c_Told_price (p := 1) (t := τ) (by omega) (hT0.keep (fun j h1 h2 => fr37 j (by omega))) va) eX10_sell_175 gX10_sell_X8_priceOf hv1_3_1 (by omega) rfl rfl rfl (Nat.le_of_ble_eq_true rfl) ⟨Nat.le_refl _, Nat.le_refl _⟩ dX10_sell_52 rfl rfl (fun r52 M52 p52 => ?_)
      obtain ⟨rfl, rfl⟩ := p52
      refine x_istore_n (L' := fun x2_55 => [(2, .int x2_55), (0, .ref 0), (1, .int a)]) (q := 56) dX10_sell_55 rfl (by decide) (fun _ => rfl) (fun x2_55 ex2_55 => ?_)
      obtain rfl : x2_55 = tPrice τ a (δ 0 0) := ex2_55
      refine x_aload_n (q := 57) dX10_sell_56 rfl rfl ?_
      refine x_getf (C := RX10) (T := TX10) (N := 12) (k := 2) (q := 60) hv1_1_0 (by omega) rfl hiX10 (by decide) (by decide +kernel) rfl dX10_sell_57 rfl ?_
      refine x_dup (q := 61) dX10_sell_60 rfl rfl ?_
      refine x_getf (C := RX3) (T := TX3) (N := 10) (k := 6) (q := 64) hv1_2_25 (by omega) rfl hiX3 (by decide) (by decide +kernel) rfl dX10_sell_61 rfl ?_
      refine x_iconst (v := 1) (q := 65) dX10_sell_64 rfl (by decide) ?_
      refine x_iload_n (q := 66) dX10_sell_65 rfl rfl ?_
      refine x_ishl (q := 67) dX10_sell_66 rfl ?_
      refine x_ior (q := 68) dX10_sell_67 rfl ?_
      refine x_put (C := RX3) (T := TX3) (N := 10) (k := 6) (q := 71) (ty := .int) tyX3_ok nmX3 hv1_2_25 (by omega) rfl hiX3 (by decide) (by decide +kernel) rfl (by decide +kernel) (fun _ => rfl) (fun _ => rfl) (Nat.le_of_ble_eq_true rfl) dX10_sell_68 rfl (fun M68 w68 o68 => ?_)
      refine x_aload_n (q := 72) dX10_sell_71 rfl rfl ?_
      have hv2_4_0 := ((o68 (0) (by omega)).trans hv1_1_0)
      refine x_getf (C := RX10) (T := TX10) (N := 12) (k := 2) (q := 75) hv2_4_0 (by omega) rfl hiX10 (by decide) (by decide +kernel) rfl dX10_sell_72 rfl ?_
      refine x_dup (q := 76) dX10_sell_75 rfl rfl ?_
      refine x_getf (C := RX3) (T := TX3) (N := 10) (k := 2) (q := 79) w68 (by omega) rfl hiX3 (by decide) (by decide +kernel) rfl dX10_sell_76 rfl ?_
      refine x_iload_n (q := 80) dX10_sell_79 rfl rfl ?_
      refine x_iadd (q := 81) dX10_sell_80 rfl ?_
      refine x_put (C := RX3) (T := TX3) (N := 10) (k := 2) (q := 84) (ty := .int) tyX3_ok nmX3 w68 (by omega) rfl hiX3 (by decide) (by decide +kernel) rfl (by decide +kernel) (fun _ => rfl) (fun _ => rfl) (Nat.le_of_ble_eq_true rfl) dX10_sell_81 rfl (fun M81 w81 o81 => ?_)
      refine x_iload_n (q := 85) dX10_sell_84 rfl rfl ?_
      refine x_iret dX10_sell_85 rfl rfl (Nat.le_refl _) ?_
      have hv3_5_26 := ((o81 (26) (by omega)).trans ((o68 (26) (by omega)).trans ((fr37 (26) (by omega)).trans dp1)))
      have hv3_6_27 := ((o81 (27) (by omega)).trans ((o68 (27) (by omega)).trans ((fr37 (27) (by omega)).trans dp2)))
      have hv3_7_28 := ((o81 (28) (by omega)).trans ((o68 (28) (by omega)).trans ((fr37 (28) (by omega)).trans dp3)))
      rw [if_pos (inT b2), if_neg (show ¬ bo (δ 6 0) a = 1 from c23)]
      exact ⟨rfl, ⟨w81, hv3_5_26, hv3_6_27, hv3_7_28⟩, hQ37.keep (fun j h1 h2 => ((o81 j (by omega)).trans ((o68 j (by omega)).trans rfl))), (fun j hj => ((o81 j (by omega)).trans ((o68 j (by omega)).trans ((fr37 j (by omega)).trans rfl))))⟩
    · refine x_bipush (v := -4) (q := 28) dX10_sell_26 rfl (by decide) ?_
      refine x_iret dX10_sell_28 rfl rfl (Nat.le_refl _) ?_
      rw [if_pos (inT b2), if_pos (show bo (δ 6 0) a = 1 from c23)]
      exact ⟨rfl, rfl⟩

set_option maxHeartbeats 4000000 in
set_option maxRecDepth 100000 in
theorem c_oversleep {n : Nat} {M : Nat → xE} {kb : Int32} (hn : 98 < n) (hX : oX10 kb M) {τ : Nat → Nat → Int32} (hT : oX8 1 τ M) {δ : Nat → Nat → Int32} (hD : oX3 25 δ M) {P : Nat} (hP : P ≤ 5) (hP0 : τ 0 0 = nI P) {sz nx : Nat} {Dp : Nat → Nat → Nat → Int32} (hsz : sz ≤ 8) (hnx : nx < 8) (hPa : oPast 29 sz nx Dp M) {a b : Int32} : xMet mX10_oversleep [.ref 0, .int a, .int b] n M (fun r M' => if inB a P = true then (if inB b 2 = true then (some (.int (bo (δ 5 0) a)) = r ∧ oX3 25 (dOver δ a b) M' ∧ oPast 29 (pSz sz) ((nx + 1) % 8) (pPut Dp nx δ) M' ∧ xfr 25 63 M M') else (M = M' ∧ some (.int (-3)) = r)) else (M = M' ∧ some (.int (-2)) = r)) := by
  have hT0 := hT
  have hD0 := hD
  obtain ⟨tp0, tp1, tp2, tp3, tp4, tp5, tp6, tp7, tp8, tp9, tp10⟩ := hT
  obtain ⟨dp0, dp1, dp2, dp3⟩ := hD
  have hiX10 : ∀ w ∈ wsX100, w ∈ wsX10_oversleep := by decide +kernel
  have hiX3 : ∀ w ∈ wsX30, w ∈ wsX10_oversleep := by decide +kernel
  refine xMet.of _ (by decide) rfl (Nat.le_of_ble_eq_true rfl) ?_
  refine x_aload_n (q := 1) dX10_oversleep_0 rfl rfl ?_
  refine x_iload_n (q := 2) dX10_oversleep_1 rfl rfl ?_
  refine x_callV (q := 5) (ci := 10) (c_noOne hn hX hT0 hP hP0) eX10_oversleep_125 gX10_oversleep_X10_isNoOne hX (by omega) rfl rfl rfl (Nat.le_of_ble_eq_true rfl) ⟨Nat.le_refl _, Nat.le_refl _⟩ dX10_oversleep_2 rfl rfl (fun r2 M2 p2 => ?_)
  obtain ⟨rfl, p2⟩ := p2
  rcases p2 with ⟨b2, rfl⟩ | ⟨b2, rfl⟩
  · refine x_if_eq (t := 11) (q := 8) dX10_oversleep_5 (by decide) rfl (fun c5 => absurd c5 (by decide)) (fun c5 => ?_)
    refine x_bipush (v := -2) (q := 10) dX10_oversleep_8 rfl (by decide) ?_
    refine x_iret dX10_oversleep_10 rfl rfl (Nat.le_refl _) ?_
    rw [if_neg (show ¬ inB a P = true by rw [b2]; decide)]
    exact ⟨rfl, rfl⟩
  · have v2 := inV b2
    have va : vp_in a 5 := by rw [vp_in_iff] at v2 ⊢; omega
    refine x_if_eq (t := 11) (q := 8) dX10_oversleep_5 (by decide) rfl (fun c5 => ?_) (fun c5 => absurd c5 (by decide))
    refine x_iload_n (q := 12) dX10_oversleep_11 rfl rfl ?_
    refine x_iconst (v := 0) (q := 13) dX10_oversleep_12 rfl (by decide) ?_
    refine x_iconst (v := 1) (q := 14) dX10_oversleep_13 rfl (by decide) ?_
    refine x_callS (q := 17) c_isOutside eX10_oversleep_94 gX10_oversleep_X10_isOutside rfl (Nat.le_of_ble_eq_true rfl) ⟨Nat.le_refl _, Nat.le_refl _⟩ dX10_oversleep_14 rfl rfl (fun r14 M14 p14 => ?_)
    obtain ⟨rfl, p14⟩ := p14
    rcases p14 with ⟨b14, rfl⟩ | ⟨b14, rfl⟩
    · refine x_if_eq (t := 23) (q := 20) dX10_oversleep_17 (by decide) rfl (fun c17 => absurd c17 (by decide)) (fun c17 => ?_)
      refine x_bipush (v := -3) (q := 22) dX10_oversleep_20 rfl (by decide) ?_
      refine x_iret dX10_oversleep_22 rfl rfl (Nat.le_refl _) ?_
      rw [if_pos (inT b2), if_neg (show ¬ inB b 2 = true by rw [outB (k := 1) (by decide) b14]; decide)]
      exact ⟨rfl, rfl⟩
    · refine x_if_eq (t := 23) (q := 20) dX10_oversleep_17 (by decide) rfl (fun c17 => ?_) (fun c17 => absurd c17 (by decide))
      refine x_aload_n (q := 24) dX10_oversleep_23 rfl rfl ?_
      refine x_getf (C := RX10) (T := TX10) (N := 12) (k := 3) (q := 27) hX (by omega) rfl hiX10 (by decide) (by decide +kernel) rfl dX10_oversleep_24 rfl ?_
      refine x_aload_n (q := 28) dX10_oversleep_27 rfl rfl ?_
      refine x_getf (C := RX10) (T := TX10) (N := 12) (k := 2) (q := 31) hX (by omega) rfl hiX10 (by decide) (by decide +kernel) rfl dX10_oversleep_28 rfl ?_
      refine x_callV (q := 34) (ci := 5) (c_Past_remember (p := 29) (q := 25) (by omega) (by omega) (by omega) hsz hnx hPa hD0) eX10_oversleep_194 gX10_oversleep_X5_remember hPa.1 (by omega) rfl rfl rfl (Nat.le_of_ble_eq_true rfl) ⟨Nat.le_refl _, Nat.le_refl _⟩ dX10_oversleep_31 rfl rfl (fun r31 M31 p31 => ?_)
      obtain ⟨rfl, hQ31, fr31⟩ := p31
      refine x_aload_n (q := 35) dX10_oversleep_34 rfl rfl ?_
      have hv1_1_0 := ((fr31 (0) (by omega)).trans hX)
      refine x_getf (C := RX10) (T := TX10) (N := 12) (k := 2) (q := 38) hv1_1_0 (by omega) rfl hiX10 (by decide) (by decide +kernel) rfl dX10_oversleep_35 rfl ?_
      have hv1_2_25 := ((fr31 (25) (by omega)).trans dp0)
      refine x_getf (C := RX3) (T := TX3) (N := 10) (k := 5) (q := 41) hv1_2_25 (by omega) rfl hiX3 (by decide) (by decide +kernel) rfl dX10_oversleep_38 rfl ?_
      refine x_iload_n (q := 42) dX10_oversleep_41 rfl rfl ?_
      refine x_callS (q := 45) c_bitOf eX10_oversleep_144 gX10_oversleep_X10_bitOf rfl (Nat.le_of_ble_eq_true rfl) ⟨Nat.le_refl _, Nat.le_refl _⟩ dX10_oversleep_42 rfl rfl (fun r42 M42 p42 => ?_)
      obtain ⟨rfl, rfl⟩ := p42
      refine x_istore_n (L' := fun x3_45 => [(3, .int x3_45), (0, .ref 0), (1, .int a), (2, .int b)]) (q := 46) dX10_oversleep_45 rfl (by decide) (fun _ => rfl) (fun x3_45 ex3_45 => ?_)
      obtain rfl : x3_45 = bo (δ 5 0) a := ex3_45
      refine x_aload_n (q := 47) dX10_oversleep_46 rfl rfl ?_
      refine x_getf (C := RX10) (T := TX10) (N := 12) (k := 2) (q := 50) hv1_1_0 (by omega) rfl hiX10 (by decide) (by decide +kernel) rfl dX10_oversleep_47 rfl ?_
      refine x_aload_n (q := 51) dX10_oversleep_50 rfl rfl ?_
      refine x_getf (C := RX10) (T := TX10) (N := 12) (k := 2) (q := 54) hv1_1_0 (by omega) rfl hiX10 (by decide) (by decide +kernel) rfl dX10_oversleep_51 rfl ?_
      refine x_getf (C := RX3) (T := TX3) (N := 10) (k := 5) (q := 57) hv1_2_25 (by omega) rfl hiX3 (by decide) (by decide +kernel) rfl dX10_oversleep_54 rfl ?_
      refine x_iconst (v := 1) (q := 58) dX10_oversleep_57 rfl (by decide) ?_
      refine x_iload_n (q := 59) dX10_oversleep_58 rfl rfl ?_
      refine x_ishl (q := 60) dX10_oversleep_59 rfl ?_
      refine x_iconst (v := -1) (q := 61) dX10_oversleep_60 rfl (by decide) ?_
      refine x_ixor (q := 62) dX10_oversleep_61 rfl ?_
      refine x_iand (q := 63) dX10_oversleep_62 rfl ?_
      refine x_iload_n (q := 64) dX10_oversleep_63 rfl rfl ?_
      refine x_iload_n (q := 65) dX10_oversleep_64 rfl rfl ?_
      refine x_ishl (q := 66) dX10_oversleep_65 rfl ?_
      refine x_ior (q := 67) dX10_oversleep_66 rfl ?_
      refine x_put (C := RX3) (T := TX3) (N := 10) (k := 5) (q := 70) (ty := .int) tyX3_ok nmX3 hv1_2_25 (by omega) rfl hiX3 (by decide) (by decide +kernel) rfl (by decide +kernel) (fun _ => rfl) (fun _ => rfl) (Nat.le_of_ble_eq_true rfl) dX10_oversleep_67 rfl (fun M67 w67 o67 => ?_)
      refine x_iload_n (q := 71) dX10_oversleep_70 rfl rfl ?_
      refine x_iret dX10_oversleep_71 rfl rfl (Nat.le_refl _) ?_
      have hv2_3_26 := ((o67 (26) (by omega)).trans ((fr31 (26) (by omega)).trans dp1))
      have hv2_4_27 := ((o67 (27) (by omega)).trans ((fr31 (27) (by omega)).trans dp2))
      have hv2_5_28 := ((o67 (28) (by omega)).trans ((fr31 (28) (by omega)).trans dp3))
      rw [if_pos (inT b2), if_pos (outT (k := 1) (by decide) b14)]
      exact ⟨rfl, ⟨w67, hv2_3_26, hv2_4_27, hv2_5_28⟩, hQ31.keep (fun j h1 h2 => ((o67 j (by omega)).trans rfl)), (fun j hj => ((o67 j (by omega)).trans ((fr31 j (by omega)).trans rfl)))⟩

set_option maxHeartbeats 4000000 in
set_option maxRecDepth 100000 in
theorem c_sleep {n : Nat} {M : Nat → xE} {kb : Int32} (hn : 98 < n) (hX : oX10 kb M) {τ : Nat → Nat → Int32} (hT : oX8 1 τ M) {δ : Nat → Nat → Int32} (hD : oX3 25 δ M) {W : Nat} (hW : W ≤ 6) (hW0 : τ 3 0 = nI W) {sz nx : Nat} {Dp : Nat → Nat → Nat → Int32} (hsz : sz ≤ 8) (hnx : nx < 8) (hPa : oPast 29 sz nx Dp M) (hw0 : vp_in (δ 1 0) 4) {z : Int32} : xMet mX10_sleep [.ref 0, .int z] n M (fun r M' => if inB z 10000 = true then (if δ 0 0 < 999 then (some (.int (dFell (δ 9) W)) = r ∧ oX3 25 (dCent δ τ z W) M' ∧ oPast 29 (pSz sz) ((nx + 1) % 8) (pPut Dp nx δ) M' ∧ xfr 25 63 M M') else (M = M' ∧ some (.int (-5)) = r)) else (M = M' ∧ some (.int (-3)) = r)) := by
  have hT0 := hT
  have hD0 := hD
  obtain ⟨tp0, tp1, tp2, tp3, tp4, tp5, tp6, tp7, tp8, tp9, tp10⟩ := hT
  obtain ⟨dp0, dp1, dp2, dp3⟩ := hD
  have hiX10 : ∀ w ∈ wsX100, w ∈ wsX10_sleep := by decide +kernel
  have hiX3 : ∀ w ∈ wsX30, w ∈ wsX10_sleep := by decide +kernel
  refine xMet.of _ (by decide) rfl (Nat.le_of_ble_eq_true rfl) ?_
  refine x_iload_n (q := 1) dX10_sleep_0 rfl rfl ?_
  refine x_iconst (v := 0) (q := 2) dX10_sleep_1 rfl (by decide) ?_
  refine x_sipush (v := 9999) (q := 5) dX10_sleep_2 rfl (by decide) ?_
  refine x_callS (q := 8) c_isOutside eX10_sleep_94 gX10_sleep_X10_isOutside rfl (Nat.le_of_ble_eq_true rfl) ⟨Nat.le_refl _, Nat.le_refl _⟩ dX10_sleep_5 rfl rfl (fun r5 M5 p5 => ?_)
  obtain ⟨rfl, p5⟩ := p5
  rcases p5 with ⟨b5, rfl⟩ | ⟨b5, rfl⟩
  · refine x_if_eq (t := 14) (q := 11) dX10_sleep_8 (by decide) rfl (fun c8 => absurd c8 (by decide)) (fun c8 => ?_)
    refine x_bipush (v := -3) (q := 13) dX10_sleep_11 rfl (by decide) ?_
    refine x_iret dX10_sleep_13 rfl rfl (Nat.le_refl _) ?_
    rw [if_neg (show ¬ inB z 10000 = true by rw [outB (k := 9999) (by decide) b5]; decide)]
    exact ⟨rfl, rfl⟩
  · refine x_if_eq (t := 14) (q := 11) dX10_sleep_8 (by decide) rfl (fun c8 => ?_) (fun c8 => absurd c8 (by decide))
    refine x_aload_n (q := 15) dX10_sleep_14 rfl rfl ?_
    refine x_getf (C := RX10) (T := TX10) (N := 12) (k := 2) (q := 18) hX (by omega) rfl hiX10 (by decide) (by decide +kernel) rfl dX10_sleep_15 rfl ?_
    refine x_getf (C := RX3) (T := TX3) (N := 10) (k := 0) (q := 21) dp0 (by omega) rfl hiX3 (by decide) (by decide +kernel) rfl dX10_sleep_18 rfl ?_
    refine x_sipush (v := 999) (q := 24) dX10_sleep_21 rfl (by decide) ?_
    refine x_icmp_lt (t := 30) (q := 27) dX10_sleep_24 (by decide) rfl (fun c24 => ?_) (fun c24 => ?_)
    · refine x_aload_n (q := 31) dX10_sleep_30 rfl rfl ?_
      refine x_getf (C := RX10) (T := TX10) (N := 12) (k := 3) (q := 34) hX (by omega) rfl hiX10 (by decide) (by decide +kernel) rfl dX10_sleep_31 rfl ?_
      refine x_aload_n (q := 35) dX10_sleep_34 rfl rfl ?_
      refine x_getf (C := RX10) (T := TX10) (N := 12) (k := 2) (q := 38) hX (by omega) rfl hiX10 (by decide) (by decide +kernel) rfl dX10_sleep_35 rfl ?_
      refine x_callV (q := 41) (ci := 5) (c_Past_remember (p := 29) (q := 25) (by omega) (by omega) (by omega) hsz hnx hPa hD0) eX10_sleep_194 gX10_sleep_X5_remember hPa.1 (by omega) rfl rfl rfl (Nat.le_of_ble_eq_true rfl) ⟨Nat.le_refl _, Nat.le_refl _⟩ dX10_sleep_38 rfl rfl (fun r38 M38 p38 => ?_)
      obtain ⟨rfl, hQ38, fr38⟩ := p38
      refine x_aload_n (q := 42) dX10_sleep_41 rfl rfl ?_
      have hv1_1_0 := ((fr38 (0) (by omega)).trans hX)
      refine x_getf (C := RX10) (T := TX10) (N := 12) (k := 2) (q := 45) hv1_1_0 (by omega) rfl hiX10 (by decide) (by decide +kernel) rfl dX10_sleep_42 rfl ?_
      refine x_aload_n (q := 46) dX10_sleep_45 rfl rfl ?_
      refine x_getf (C := RX10) (T := TX10) (N := 12) (k := 0) (q := 49) hv1_1_0 (by omega) rfl hiX10 (by decide) (by decide +kernel) rfl dX10_sleep_46 rfl ?_
      refine x_iload_n (q := 50) dX10_sleep_49 rfl rfl ?_
      have hv1_2_25 := ((fr38 (25) (by omega)).trans dp0)
      refine x_callV (q := 53) (ci := 3) (c_Day_century (p := 25) (q := 1) (N := W) (by omega) (by omega) (by omega) hW hW0 hw0 (hD0.keep (fun j h1 h2 => fr38 j (by omega))) (hT0.keep (fun j h1 h2 => fr38 j (by omega)))) eX10_sleep_210 gX10_sleep_X3_letCenturyGo hv1_2_25 (by omega) rfl rfl rfl (Nat.le_of_ble_eq_true rfl) ⟨Nat.le_refl _, Nat.le_refl _⟩ dX10_sleep_50 rfl rfl (fun r50 M50 p50 => ?_)
      obtain ⟨rfl, ⟨y50_0, y50_1, y50_2, y50_3⟩, fr50⟩ := p50
      refine x_iret dX10_sleep_53 rfl rfl (Nat.le_refl _) ?_
      rw [if_pos (outT (k := 9999) (by decide) b5), if_pos c24]
      exact ⟨rfl, ⟨y50_0, y50_1, y50_2, y50_3⟩, hQ38.keep (fun j h1 h2 => ((fr50 j (by omega)).trans rfl)), (fun j hj => ((fr50 j (by omega)).trans ((fr38 j (by omega)).trans rfl)))⟩
    · refine x_bipush (v := -5) (q := 29) dX10_sleep_27 rfl (by decide) ?_
      refine x_iret dX10_sleep_29 rfl rfl (Nat.le_refl _) ?_
      rw [if_pos (outT (k := 9999) (by decide) b5), if_neg c24]
      exact ⟨rfl, rfl⟩

set_option maxHeartbeats 4000000 in
set_option maxRecDepth 100000 in
theorem c_undo {n : Nat} {M : Nat → xE} {kb : Int32} (hn : 98 < n) (hX : oX10 kb M) {δ : Nat → Nat → Int32} (hD : oX3 25 δ M) {sz nx : Nat} {Dp : Nat → Nat → Nat → Int32} (hsz : sz ≤ 8) (hnx : nx < 8) (hPa : oPast 29 sz nx Dp M) : xMet mX10_undo [.ref 0] n M (fun r M' => if sz = 0 then (M = M' ∧ some (.int (-4)) = r) else (some (.int (nI (sz - 1))) = r ∧ oX3 25 (Dp ((nx + 7) % 8)) M' ∧ oPast 29 (sz - 1) ((nx + 7) % 8) Dp M' ∧ xfr 25 63 M M')) := by
  have hiX10 : ∀ w ∈ wsX100, w ∈ wsX10_undo := by decide +kernel
  have hiX5 : ∀ w ∈ wsX50, w ∈ wsX10_undo := by decide +kernel
  refine xMet.of _ (by decide) rfl (Nat.le_of_ble_eq_true rfl) ?_
  refine x_aload_n (q := 1) dX10_undo_0 rfl rfl ?_
  refine x_getf (C := RX10) (T := TX10) (N := 12) (k := 3) (q := 4) hX (by omega) rfl hiX10 (by decide) (by decide +kernel) rfl dX10_undo_1 rfl ?_
  refine x_getf (C := RX5) (T := TX5) (N := 3) (k := 0) (q := 7) hPa.1 (by omega) rfl hiX5 (by decide) (by decide +kernel) rfl dX10_undo_4 rfl ?_
  refine x_if_ne (t := 13) (q := 10) dX10_undo_7 (by decide) rfl (fun c7 => ?_) (fun c7 => ?_)
  · refine x_aload_n (q := 14) dX10_undo_13 rfl rfl ?_
    refine x_getf (C := RX10) (T := TX10) (N := 12) (k := 3) (q := 17) hX (by omega) rfl hiX10 (by decide) (by decide +kernel) rfl dX10_undo_14 rfl ?_
    refine x_aload_n (q := 18) dX10_undo_17 rfl rfl ?_
    refine x_getf (C := RX10) (T := TX10) (N := 12) (k := 2) (q := 21) hX (by omega) rfl hiX10 (by decide) (by decide +kernel) rfl dX10_undo_18 rfl ?_
    obtain ⟨s9, rfl⟩ : ∃ s9, sz = s9 + 1 := ⟨sz - 1, by have : sz ≠ 0 := fun h => c7 (by rw [h]; rfl); omega⟩
    refine x_callV (q := 24) (ci := 5) (c_Past_recall (p := 29) (q := 25) (sz := s9) (by omega) (by omega) (by omega) (by omega) hnx hPa hD) eX10_undo_214 gX10_undo_X5_recall hPa.1 (by omega) rfl rfl rfl (Nat.le_of_ble_eq_true rfl) ⟨Nat.le_refl _, Nat.le_refl _⟩ dX10_undo_21 rfl rfl (fun r21 M21 p21 => ?_)
    obtain ⟨rfl, hQ21, hU21, fr021⟩ := p21
    have fr21 : ∀ j, (j < 25 ∨ 63 ≤ j) → M21 j = M j := fun j hj => fr021 j (by omega) (by omega)
    refine x_aload_n (q := 25) dX10_undo_24 rfl rfl ?_
    have hv1_1_0 := ((fr21 (0) (by omega)).trans hX)
    refine x_getf (C := RX10) (T := TX10) (N := 12) (k := 3) (q := 28) hv1_1_0 (by omega) rfl hiX10 (by decide) (by decide +kernel) rfl dX10_undo_25 rfl ?_
    refine x_getf (C := RX5) (T := TX5) (N := 3) (k := 0) (q := 31) hQ21.1 (by omega) rfl hiX5 (by decide) (by decide +kernel) rfl dX10_undo_28 rfl ?_
    refine x_iret dX10_undo_31 rfl rfl (Nat.le_refl _) ?_
    rw [if_neg (by omega)]
    exact ⟨rfl, hU21, hQ21, fr21⟩
  · refine x_bipush (v := -4) (q := 12) dX10_undo_10 rfl (by decide) ?_
    refine x_iret dX10_undo_12 rfl rfl (Nat.le_refl _) ?_
    rw [if_pos ((nI_eq (by omega) (by decide)).mp (show nI sz = nI 0 from c7))]
    exact ⟨rfl, rfl⟩

theorem kR0 {a : Int32} {k : Nat} (hk : k < 2) (e : a = nI k) : kRing a.toNatClampNeg = some (64 + 4 * k) := by rw [e, nI_clamp (by omega)]; exact if_pos hk
theorem oKept.keep {K : Nat → Nat → Nat → Int32} {M M' : Nat → xE} (h : oKept K M) (e : ∀ j, 63 ≤ j → j < 72 → M' j = M j) : oKept K M' := ⟨(e _ (by omega) (by omega)).trans h.1, fun j hj => (h.2 j hj).keep (fun i h1 h2 => e i (by omega) (by omega))⟩
set_option maxHeartbeats 4000000 in
set_option maxRecDepth 100000 in
theorem c_keep {n : Nat} {M : Nat → xE} {kb : Int32} (hn : 98 < n) (hX : oX10 kb M) {δ : Nat → Nat → Int32} (hD : oX3 25 δ M) {K : Nat → Nat → Nat → Int32} (hK : oKept K M) {a : Int32} : xMet mX10_keep [.ref 0, .int a] n M (fun r M' => if inB a 2 = true then (some (.int (δ 0 0)) = r ∧ oX10 (kb ||| (1 <<< (a &&& 31))) M' ∧ oKept (fun j => if j = a.toNatClampNeg then δ else K j) M' ∧ ∀ j, j ≠ 0 → (j < 64 ∨ 72 ≤ j) → M' j = M j) else (M = M' ∧ some (.int (-2)) = r)) := by
  have hiX10 : ∀ w ∈ wsX100, w ∈ wsX10_keep := by decide +kernel
  have hiX3 : ∀ w ∈ wsX30, w ∈ wsX10_keep := by decide +kernel
  refine xMet.of _ (by decide) rfl (Nat.le_of_ble_eq_true rfl) ?_
  refine x_iload_n (q := 1) dX10_keep_0 rfl rfl ?_
  refine x_iconst (v := 0) (q := 2) dX10_keep_1 rfl (by decide) ?_
  refine x_iconst (v := 1) (q := 3) dX10_keep_2 rfl (by decide) ?_
  refine x_callS (q := 6) c_isOutside eX10_keep_94 gX10_keep_X10_isOutside rfl (Nat.le_of_ble_eq_true rfl) ⟨Nat.le_refl _, Nat.le_refl _⟩ dX10_keep_3 rfl rfl (fun r3 M3 p3 => ?_)
  obtain ⟨rfl, p3⟩ := p3
  rcases p3 with ⟨b3, rfl⟩ | ⟨b3, rfl⟩
  · refine x_if_eq (t := 12) (q := 9) dX10_keep_6 (by decide) rfl (fun c6 => absurd c6 (by decide)) (fun c6 => ?_)
    refine x_bipush (v := -2) (q := 11) dX10_keep_9 rfl (by decide) ?_
    refine x_iret dX10_keep_11 rfl rfl (Nat.le_refl _) ?_
    rw [if_neg (show ¬ inB a 2 = true by rw [outB (k := 1) (by decide) b3]; decide)]
    exact ⟨rfl, rfl⟩
  · have hv9 := inB_t.mp (outT (k := 1) (by decide) b3)
    obtain ⟨k9, hk9, ek9⟩ := vp_in_of hv9 (by decide)
    refine x_if_eq (t := 12) (q := 9) dX10_keep_6 (by decide) rfl (fun c6 => ?_) (fun c6 => absurd c6 (by decide))
    refine x_aload_n (q := 13) dX10_keep_12 rfl rfl ?_
    refine x_getf (C := RX10) (T := TX10) (N := 12) (k := 4) (q := 16) hX (by omega) rfl hiX10 (by decide) (by decide +kernel) rfl dX10_keep_13 rfl ?_
    refine x_iload_n (q := 17) dX10_keep_16 rfl rfl ?_
    refine x_aald (q := 18) hK.1 (by omega) hv9 (kR0 hk9 ek9) dX10_keep_17 rfl ?_
    refine x_aload_n (q := 19) dX10_keep_18 rfl rfl ?_
    refine x_getf (C := RX10) (T := TX10) (N := 12) (k := 2) (q := 22) hX (by omega) rfl hiX10 (by decide) (by decide +kernel) rfl dX10_keep_19 rfl ?_
    refine x_callV (q := 25) (ci := 3) (c_Day_copy (p := 64 + 4 * k9) (q := 25) (t := K k9) (s := δ) (by omega) (by omega) (by omega) (hK.2 k9 hk9) hD) eX10_keep_217 gX10_keep_X3_copyFrom (hK.2 k9 hk9).1 (by omega) rfl rfl rfl (Nat.le_of_ble_eq_true rfl) ⟨Nat.le_refl _, Nat.le_refl _⟩ dX10_keep_22 rfl rfl (fun r22 M22 p22 => ?_)
    obtain ⟨rfl, hU22, fr22⟩ := p22
    refine x_aload_n (q := 26) dX10_keep_25 rfl rfl ?_
    refine x_dup (q := 27) dX10_keep_26 rfl rfl ?_
    have hv1_1_0 := ((fr22 (0) (by omega)).trans hX)
    refine x_getf (C := RX10) (T := TX10) (N := 12) (k := 11) (q := 30) hv1_1_0 (by omega) rfl hiX10 (by decide) (by decide +kernel) rfl dX10_keep_27 rfl ?_
    refine x_iconst (v := 1) (q := 31) dX10_keep_30 rfl (by decide) ?_
    refine x_iload_n (q := 32) dX10_keep_31 rfl rfl ?_
    refine x_ishl (q := 33) dX10_keep_32 rfl ?_
    refine x_ior (q := 34) dX10_keep_33 rfl ?_
    refine x_put (C := RX10) (T := TX10) (N := 12) (k := 11) (q := 37) (ty := .int) tyX10_ok nmX10 hv1_1_0 (by omega) rfl hiX10 (by decide) (by decide +kernel) rfl (by decide +kernel) (fun _ => rfl) (fun _ => rfl) (Nat.le_of_ble_eq_true rfl) dX10_keep_34 rfl (fun M34 w34 o34 => ?_)
    refine x_aload_n (q := 38) dX10_keep_37 rfl rfl ?_
    refine x_getf (C := RX10) (T := TX10) (N := 12) (k := 2) (q := 41) w34 (by omega) rfl hiX10 (by decide) (by decide +kernel) rfl dX10_keep_38 rfl ?_
    have hv2_2_25 := ((o34 (25) (by omega)).trans ((fr22 (25) (by omega)).trans hD.1))
    refine x_getf (C := RX3) (T := TX3) (N := 10) (k := 0) (q := 44) hv2_2_25 (by omega) rfl hiX3 (by decide) (by decide +kernel) rfl dX10_keep_41 rfl ?_
    refine x_iret dX10_keep_44 rfl rfl (Nat.le_refl _) ?_
    rw [if_pos (outT (k := 1) (by decide) b3)]
    refine ⟨rfl, w34, ⟨(o34 _ (by omega)).trans ((fr22 _ (by omega)).trans hK.1), fun j hj => ?_⟩, fun j h0 hj => (o34 j h0).trans (fr22 j (by omega))⟩
    rw [ek9, nI_clamp (by omega)]
    by_cases e : j = k9
    · show oX3 _ (if j = k9 then δ else K j) _
      rw [if_pos e, e]
      exact hU22.keep (fun i h1 h2 => o34 i (by omega))
    · show oX3 _ (if j = k9 then δ else K j) _
      rw [if_neg e]
      exact (hK.2 j hj).keep (fun i h1 h2 => (o34 i (by omega)).trans (fr22 i (by omega)))

set_option maxHeartbeats 4000000 in
set_option maxRecDepth 100000 in
theorem c_back {n : Nat} {M : Nat → xE} {kb : Int32} (hn : 98 < n) (hX : oX10 kb M) {δ : Nat → Nat → Int32} (hD : oX3 25 δ M) {K : Nat → Nat → Nat → Int32} (hK : oKept K M) {sz nx : Nat} {Dp : Nat → Nat → Nat → Int32} (hsz : sz ≤ 8) (hnx : nx < 8) (hPa : oPast 29 sz nx Dp M) {a : Int32} : xMet mX10_back [.ref 0, .int a] n M (fun r M' => if inB a 2 = true then (if bo kb a = 0 then (M = M' ∧ some (.int (-4)) = r) else (some (.int (K a.toNatClampNeg 0 0)) = r ∧ oX3 25 (K a.toNatClampNeg) M' ∧ oPast 29 0 nx Dp M' ∧ xfr 25 63 M M')) else (M = M' ∧ some (.int (-2)) = r)) := by
  have hiX10 : ∀ w ∈ wsX100, w ∈ wsX10_back := by decide +kernel
  have hiX3 : ∀ w ∈ wsX30, w ∈ wsX10_back := by decide +kernel
  have hiX5 : ∀ w ∈ wsX50, w ∈ wsX10_back := by decide +kernel
  refine xMet.of _ (by decide) rfl (Nat.le_of_ble_eq_true rfl) ?_
  refine x_iload_n (q := 1) dX10_back_0 rfl rfl ?_
  refine x_iconst (v := 0) (q := 2) dX10_back_1 rfl (by decide) ?_
  refine x_iconst (v := 1) (q := 3) dX10_back_2 rfl (by decide) ?_
  refine x_callS (q := 6) c_isOutside eX10_back_94 gX10_back_X10_isOutside rfl (Nat.le_of_ble_eq_true rfl) ⟨Nat.le_refl _, Nat.le_refl _⟩ dX10_back_3 rfl rfl (fun r3 M3 p3 => ?_)
  obtain ⟨rfl, p3⟩ := p3
  rcases p3 with ⟨b3, rfl⟩ | ⟨b3, rfl⟩
  · refine x_if_eq (t := 12) (q := 9) dX10_back_6 (by decide) rfl (fun c6 => absurd c6 (by decide)) (fun c6 => ?_)
    refine x_bipush (v := -2) (q := 11) dX10_back_9 rfl (by decide) ?_
    refine x_iret dX10_back_11 rfl rfl (Nat.le_refl _) ?_
    rw [if_neg (show ¬ inB a 2 = true by rw [outB (k := 1) (by decide) b3]; decide)]
    exact ⟨rfl, rfl⟩
  · have hv9 := inB_t.mp (outT (k := 1) (by decide) b3)
    obtain ⟨k9, hk9, ek9⟩ := vp_in_of hv9 (by decide)
    refine x_if_eq (t := 12) (q := 9) dX10_back_6 (by decide) rfl (fun c6 => ?_) (fun c6 => absurd c6 (by decide))
    refine x_aload_n (q := 13) dX10_back_12 rfl rfl ?_
    refine x_getf (C := RX10) (T := TX10) (N := 12) (k := 11) (q := 16) hX (by omega) rfl hiX10 (by decide) (by decide +kernel) rfl dX10_back_13 rfl ?_
    refine x_iload_n (q := 17) dX10_back_16 rfl rfl ?_
    refine x_callS (q := 20) c_bitOf eX10_back_144 gX10_back_X10_bitOf rfl (Nat.le_of_ble_eq_true rfl) ⟨Nat.le_refl _, Nat.le_refl _⟩ dX10_back_17 rfl rfl (fun r17 M17 p17 => ?_)
    obtain ⟨rfl, rfl⟩ := p17
    refine x_if_ne (t := 26) (q := 23) dX10_back_20 (by decide) rfl (fun c20 => ?_) (fun c20 => ?_)
    · refine x_aload_n (q := 27) dX10_back_26 rfl rfl ?_
      refine x_getf (C := RX10) (T := TX10) (N := 12) (k := 2) (q := 30) hX (by omega) rfl hiX10 (by decide) (by decide +kernel) rfl dX10_back_27 rfl ?_
      refine x_aload_n (q := 31) dX10_back_30 rfl rfl ?_
      refine x_getf (C := RX10) (T := TX10) (N := 12) (k := 4) (q := 34) hX (by omega) rfl hiX10 (by decide) (by decide +kernel) rfl dX10_back_31 rfl ?_
      refine x_iload_n (q := 35) dX10_back_34 rfl rfl ?_
      refine x_aald (q := 36) hK.1 (by omega) hv9 (kR0 hk9 ek9) dX10_back_35 rfl ?_
      refine x_callV (q := 39) (ci := 3) (c_Day_copy (p := 25) (q := 64 + 4 * k9) (t := δ) (s := K k9) (by omega) (by omega) (by omega) hD (hK.2 k9 hk9)) eX10_back_217 gX10_back_X3_copyFrom hD.1 (by omega) rfl rfl rfl (Nat.le_of_ble_eq_true rfl) ⟨Nat.le_refl _, Nat.le_refl _⟩ dX10_back_36 rfl rfl (fun r36 M36 p36 => ?_)
      obtain ⟨rfl, hU36, fr36⟩ := p36
      refine x_aload_n (q := 40) dX10_back_39 rfl rfl ?_
      have hv1_1_0 := ((fr36 (0) (by omega)).trans hX)
      refine x_getf (C := RX10) (T := TX10) (N := 12) (k := 3) (q := 43) hv1_1_0 (by omega) rfl hiX10 (by decide) (by decide +kernel) rfl dX10_back_40 rfl ?_
      refine x_iconst (v := 0) (q := 44) dX10_back_43 rfl (by decide) ?_
      have hv1_2_29 := ((fr36 (29) (by omega)).trans hPa.1)
      refine x_put (C := RX5) (T := TX5) (N := 3) (k := 0) (q := 47) (ty := .int) tyX5_ok nmX5 hv1_2_29 (by omega) rfl hiX5 (by decide) (by decide +kernel) rfl (by decide +kernel) (fun _ => rfl) (fun _ => rfl) (Nat.le_of_ble_eq_true rfl) dX10_back_44 rfl (fun M44 w44 o44 => ?_)
      refine x_aload_n (q := 48) dX10_back_47 rfl rfl ?_
      have hv2_3_0 := ((o44 (0) (by omega)).trans hv1_1_0)
      refine x_getf (C := RX10) (T := TX10) (N := 12) (k := 2) (q := 51) hv2_3_0 (by omega) rfl hiX10 (by decide) (by decide +kernel) rfl dX10_back_48 rfl ?_
      have hv2_4_25 := ((o44 (25) (by omega)).trans hU36.1)
      refine x_getf (C := RX3) (T := TX3) (N := 10) (k := 0) (q := 54) hv2_4_25 (by omega) rfl hiX3 (by decide) (by decide +kernel) rfl dX10_back_51 rfl ?_
      refine x_iret dX10_back_54 rfl rfl (Nat.le_refl _) ?_
      rw [if_pos (outT (k := 1) (by decide) b3), if_neg (show ¬ bo kb a = 0 from c20), ek9, nI_clamp (by omega)]
      exact ⟨rfl, hU36.keep (fun i h1 h2 => o44 i (by omega)), ⟨w44, (o44 _ (by omega)).trans ((fr36 _ (by omega)).trans hPa.2.1), fun j hj => (hPa.2.2 j hj).keep (fun i h1 h2 => (o44 i (by omega)).trans (fr36 i (by omega)))⟩, fun j hj => (o44 j (by omega)).trans (fr36 j (by omega))⟩
    · refine x_bipush (v := -4) (q := 25) dX10_back_23 rfl (by decide) ?_
      refine x_iret dX10_back_25 rfl rfl (Nat.le_refl _) ?_
      rw [if_pos (outT (k := 1) (by decide) b3), if_pos (show bo kb a = 0 from c20)]
      exact ⟨rfl, rfl⟩

