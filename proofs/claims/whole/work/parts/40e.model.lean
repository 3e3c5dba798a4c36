set_option maxHeartbeats 4000000 in
set_option maxRecDepth 100000 in
theorem c_m_does {n : Nat} {M : Nat → xE} {t : Nat → Nat → Int32} {u : Nat → Nat → Int64} (hn : 113 < n) (hM : oX11 99 t u M) {τ : Nat → Nat → Int32} {P W G : Nat} (hw : RT τ P W G (t 0)) {δ : Nat → Nat → Int32} (hd : ∀ k, k < 22 → t 1 k = dv δ k) (hk : TOK τ P W G) {sz : Nat} (hsz : sz ≤ 8) (h2 : t 2 0 = nI sz) {a b : Int32} : xMet mX11_does [.ref 99, .int a, .int b] n M (fun r M' => (if inB a P = true then (if inB b W = true then (if cDo τ δ a b = true then (some (.int (δ 7 a.toNatClampNeg - τ 5 b.toNatClampNeg)) = r ∧ mDeed t u sz (dDoes τ δ a b) M M') else (M = M' ∧ some (.int (-4)) = r)) else (M = M' ∧ some (.int (-2)) = r)) else (M = M' ∧ some (.int (-2)) = r))) := by
  have hM0 := hM
  obtain ⟨mp0, mp1, mp2, mp3, mp4, mp5, mp6, mp7, mp8, mp9, mp10, mp11, mp12, mp13, mp14⟩ := hM
  have hP5 := rtP hw
  have hW6 := rtW hw
  have hG5 := rtG hw
  have hiX11 : ∀ w ∈ wsX110, w ∈ wsX11_does := by decide +kernel
  refine xMet.of _ (by decide) rfl (Nat.le_of_ble_eq_true rfl) ?_
  refine x_aload_n (q := 1) dX11_does_0 rfl rfl ?_
  refine x_iload_n (q := 2) dX11_does_1 rfl rfl ?_
  refine x_callV (q := 5) (ci := 11) (c_m_isOne hn hM0 (rtP hw) (rtn hw)) eX11_does_170 gX11_does_X11_isOne mp0 (by omega) rfl rfl rfl (Nat.le_of_ble_eq_true rfl) ⟨Nat.le_refl _, Nat.le_refl _⟩ dX11_does_2 rfl rfl (fun r2 M2 p2 => ?_)
  obtain ⟨rfl, p2⟩ := p2
  rcases p2 with ⟨b2, rfl⟩ | ⟨b2, rfl⟩
  · obtain ⟨a1, ha1, rfl⟩ := vp_in_of (inB_t.mp b2) (by omega)
    refine x_if_eq (t := 16) (q := 8) dX11_does_5 (by decide) rfl (fun c5 => absurd c5 (by decide)) (fun c5 => ?_)
    refine x_aload_n (q := 9) dX11_does_8 rfl rfl ?_
    refine x_iload_n (q := 10) dX11_does_9 rfl rfl ?_
    refine x_callV (q := 13) (ci := 11) (c_m_isWork hn hM0 (rtW hw) (rtmany hw)) eX11_does_173 gX11_does_X11_isWork mp0 (by omega) rfl rfl rfl (Nat.le_of_ble_eq_true rfl) ⟨Nat.le_refl _, Nat.le_refl _⟩ dX11_does_10 rfl rfl (fun r10 M10 p10 => ?_)
    obtain ⟨rfl, p10⟩ := p10
    rcases p10 with ⟨b10, rfl⟩ | ⟨b10, rfl⟩
    · obtain ⟨b1, hb1, rfl⟩ := vp_in_of (inB_t.mp b10) (by omega)
      refine x_if_ne (t := 19) (q := 16) dX11_does_13 (by decide) rfl (fun c13 => ?_) (fun c13 => absurd c13 (by decide))
      refine x_aload_n (q := 20) dX11_does_19 rfl rfl ?_
      refine x_iload_n (q := 21) dX11_does_20 rfl rfl ?_
      refine x_iload_n (q := 22) dX11_does_21 rfl rfl ?_
      refine x_callV (q := 25) (ci := 11) (c_m_canDo hn hM0 hw hd hk ha1 hb1) eX11_does_193 gX11_does_X11_canDo mp0 (by omega) rfl rfl rfl (Nat.le_of_ble_eq_true rfl) ⟨Nat.le_refl _, Nat.le_refl _⟩ dX11_does_22 rfl rfl (fun r22 M22 p22 => ?_)
      obtain ⟨rfl, p22⟩ := p22
      rcases p22 with ⟨b22, rfl⟩ | ⟨b22, rfl⟩
      · refine x_if_ne (t := 31) (q := 28) dX11_does_25 (by decide) rfl (fun c25 => ?_) (fun c25 => absurd c25 (by decide))
        refine x_aload_n (q := 32) dX11_does_31 rfl rfl ?_
        refine x_callV (q := 35) (ci := 11) (c_m_minds hn hM0 hsz h2) eX11_does_202 gX11_does_X11_minds mp0 (by omega) rfl rfl rfl (Nat.le_of_ble_eq_true rfl) ⟨Nat.le_refl _, Nat.le_refl _⟩ dX11_does_32 rfl rfl (fun r32 M32 p32 => ?_)
        obtain ⟨rfl, hV32, fr32⟩ := p32
        have hU32 := hV32
        obtain ⟨y32_0, y32_1, y32_2, y32_3, y32_4, y32_5, y32_6, y32_7, y32_8, y32_9, y32_10, y32_11, y32_12, y32_13, y32_14⟩ := hV32
        have y32_1 : M32 (99 + 1) = .inl (0, 122, .inl (t 0)) := y32_1
        have y32_2 : M32 (99 + 2) = .inl (0, 242, .inl (mindD (t 1) sz)) := y32_2
        have hdm : ∀ k, k < 22 → mindD (t 1) sz k = dv δ k := fun k hk => (mindD_lo (t 1) (by omega)).trans (hd k hk)
        refine x_aload_n (q := 36) dX11_does_35 rfl rfl ?_
        refine x_getf (C := RX11) (T := TX11) (N := 29) (k := 1) (q := 39) y32_0 (by omega) rfl hiX11 (by decide) (by decide +kernel) rfl dX11_does_36 rfl ?_
        refine x_iconst (v := 0) (q := 40) dX11_does_39 rfl (by decide) ?_
        refine x_iload_n (q := 41) dX11_does_40 rfl rfl ?_
        refine x_iadd (q := 42) dX11_does_41 rfl ?_
        refine x_dup2 (q := 43) dX11_does_42 rfl rfl rfl ?_
        refine x_iald (q := 44) y32_2 (by omega) (ixI (show ((0 + nI a1) : Int32) = nI (0 + a1) from (nIs rfl rfl)) (by omega) (by decide)) dX11_does_43 rfl ?_
        rw [ixC (show ((0 + nI a1) : Int32) = nI (0 + a1) from (nIs rfl rfl)) (by omega)]
        rw [hdm _ (show 0 + a1 < 22 by omega), dv_left δ (show a1 < 5 by omega)]
        refine x_aload_n (q := 45) dX11_does_44 rfl rfl ?_
        refine x_getf (C := RX11) (T := TX11) (N := 29) (k := 0) (q := 48) y32_0 (by omega) rfl hiX11 (by decide) (by decide +kernel) rfl dX11_does_45 rfl ?_
        refine x_bipush (v := 18) (q := 50) dX11_does_48 rfl (by decide) ?_
        refine x_iload_n (q := 51) dX11_does_50 rfl rfl ?_
        refine x_iadd (q := 52) dX11_does_51 rfl ?_
        refine x_iald (q := 53) y32_1 (by omega) (ixI (show ((18 + nI b1) : Int32) = nI (18 + b1) from (nIs rfl rfl)) (by omega) (by decide)) dX11_does_52 rfl ?_
        rw [ixC (show ((18 + nI b1) : Int32) = nI (18 + b1) from (nIs rfl rfl)) (by omega)]
        rw [rtmin hw hb1]
        refine x_isub (q := 54) dX11_does_53 rfl ?_
        refine x_iast (q := 55) y32_2 (by omega) (ixI (show ((0 + nI a1) : Int32) = nI (0 + a1) from (nIs rfl rfl)) (by omega) (by decide)) dX11_does_54 rfl (fun M54 w54 o54 => ?_)
        rw [ixC (show ((0 + nI a1) : Int32) = nI (0 + a1) from (nIs rfl rfl)) (by omega)] at w54
        refine x_aload_n (q := 56) dX11_does_55 rfl rfl ?_
        have hv2_1_99 := ((o54 (99) (by omega)).trans y32_0)
        refine x_getf (C := RX11) (T := TX11) (N := 29) (k := 1) (q := 59) hv2_1_99 (by omega) rfl hiX11 (by decide) (by decide +kernel) rfl dX11_does_56 rfl ?_
        refine x_iconst (v := 5) (q := 60) dX11_does_59 rfl (by decide) ?_
        refine x_iload_n (q := 61) dX11_does_60 rfl rfl ?_
        refine x_iadd (q := 62) dX11_does_61 rfl ?_
        refine x_aload_n (q := 63) dX11_does_62 rfl rfl ?_
        refine x_getf (C := RX11) (T := TX11) (N := 29) (k := 0) (q := 66) hv2_1_99 (by omega) rfl hiX11 (by decide) (by decide +kernel) rfl dX11_does_63 rfl ?_
        refine x_bipush (v := 24) (q := 68) dX11_does_66 rfl (by decide) ?_
        refine x_iload_n (q := 69) dX11_does_68 rfl rfl ?_
        refine x_iadd (q := 70) dX11_does_69 rfl ?_
        have hv2_2_100 := ((o54 (100) (by omega)).trans y32_1)
        refine x_iald (q := 71) hv2_2_100 (by omega) (ixI (show ((24 + nI b1) : Int32) = nI (24 + b1) from (nIs rfl rfl)) (by omega) (by decide)) dX11_does_70 rfl ?_
        rw [ixC (show ((24 + nI b1) : Int32) = nI (24 + b1) from (nIs rfl rfl)) (by omega)]
        rw [rtlong hw hb1]
        refine x_iast (q := 72) w54 (by omega) (ixI (show ((5 + nI b1) : Int32) = nI (5 + b1) from (nIs rfl rfl)) (by omega) (by decide)) dX11_does_71 rfl (fun M71 w71 o71 => ?_)
        rw [ixC (show ((5 + nI b1) : Int32) = nI (5 + b1) from (nIs rfl rfl)) (by omega)] at w71
        refine x_aload_n (q := 73) dX11_does_72 rfl rfl ?_
        have hv3_3_99 := ((o71 (99) (by omega)).trans hv2_1_99)
        refine x_getf (C := RX11) (T := TX11) (N := 29) (k := 1) (q := 76) hv3_3_99 (by omega) rfl hiX11 (by decide) (by decide +kernel) rfl dX11_does_73 rfl ?_
        refine x_iconst (v := 0) (q := 77) dX11_does_76 rfl (by decide) ?_
        refine x_iload_n (q := 78) dX11_does_77 rfl rfl ?_
        refine x_iadd (q := 79) dX11_does_78 rfl ?_
        refine x_iald (q := 80) w71 (by omega) (ixI (show ((0 + nI a1) : Int32) = nI (0 + a1) from (nIs rfl rfl)) (by omega) (by decide)) dX11_does_79 rfl ?_
        rw [ixC (show ((0 + nI a1) : Int32) = nI (0 + a1) from (nIs rfl rfl)) (by omega)]
        rw [upd_ne (show ¬ 0 + a1 = 5 + b1 by omega), pk_us]
        refine x_iret dX11_does_80 rfl rfl (Nat.le_refl _) ?_
        have hv3_4_100 := ((o71 (100) (by omega)).trans hv2_2_100)
        have hv3_5_102 := ((o71 (102) (by omega)).trans ((o54 (102) (by omega)).trans y32_3))
        have hv3_6_103 := ((o71 (103) (by omega)).trans ((o54 (103) (by omega)).trans y32_4))
        have hv3_7_104 := ((o71 (104) (by omega)).trans ((o54 (104) (by omega)).trans y32_5))
        have hv3_8_105 := ((o71 (105) (by omega)).trans ((o54 (105) (by omega)).trans y32_6))
        have hv3_9_106 := ((o71 (106) (by omega)).trans ((o54 (106) (by omega)).trans y32_7))
        have hv3_10_107 := ((o71 (107) (by omega)).trans ((o54 (107) (by omega)).trans y32_8))
        have hv3_11_108 := ((o71 (108) (by omega)).trans ((o54 (108) (by omega)).trans y32_9))
        have hv3_12_109 := ((o71 (109) (by omega)).trans ((o54 (109) (by omega)).trans y32_10))
        have hv3_13_110 := ((o71 (110) (by omega)).trans ((o54 (110) (by omega)).trans y32_11))
        have hv3_14_111 := ((o71 (111) (by omega)).trans ((o54 (111) (by omega)).trans y32_12))
        have hv3_15_112 := ((o71 (112) (by omega)).trans ((o54 (112) (by omega)).trans y32_13))
        have hv3_16_113 := ((o71 (113) (by omega)).trans ((o54 (113) (by omega)).trans y32_14))
        rw [if_pos b2, if_pos b10, if_pos b22]
        refine ⟨by rw [nI_clamp (show a1 < 2 ^ 31 by omega), nI_clamp (show b1 < 2 ^ 31 by omega)], upd (upd (mindD (t 1) sz) (0 + a1) (δ 7 a1 - τ 5 b1)) (5 + b1) (τ 6 b1), ⟨hv3_3_99, hv3_4_100, w71, hv3_5_102, hv3_6_103, hv3_7_104, hv3_8_105, hv3_9_106, hv3_10_107, hv3_11_108, hv3_12_109, hv3_13_110, hv3_14_111, hv3_15_112, hv3_16_113⟩, fun j hj => ((o71 j (by omega)).trans ((o54 j (by omega)).trans ((fr32 j (by omega)).trans rfl))), fun k hk => ?_, fun k hk => by rw [upd_ne (by omega), upd_ne (by omega)]⟩
        refine (dv_s9 (dv_s7 hdm (show a1 < 5 by omega) _) (show b1 < 6 by omega) _ k hk).trans ?_
        unfold dDoes
        rw [nI_clamp (show a1 < 2 ^ 31 by omega), nI_clamp (show b1 < 2 ^ 31 by omega)]
        rfl
      · refine x_if_ne (t := 31) (q := 28) dX11_does_25 (by decide) rfl (fun c25 => absurd c25 (by decide)) (fun c25 => ?_)
        refine x_bipush (v := -4) (q := 30) dX11_does_28 rfl (by decide) ?_
        refine x_iret dX11_does_30 rfl rfl (Nat.le_refl _) ?_
        rw [if_pos b2, if_pos b10, if_neg b22]
        exact ⟨rfl, rfl⟩
    · refine x_if_ne (t := 19) (q := 16) dX11_does_13 (by decide) rfl (fun c13 => absurd c13 (by decide)) (fun c13 => ?_)
      refine x_bipush (v := -2) (q := 18) dX11_does_16 rfl (by decide) ?_
      refine x_iret dX11_does_18 rfl rfl (Nat.le_refl _) ?_
      rw [if_pos b2, if_neg b10]
      exact ⟨rfl, rfl⟩
  · refine x_if_eq (t := 16) (q := 8) dX11_does_5 (by decide) rfl (fun c5 => ?_) (fun c5 => absurd c5 (by decide))
    refine x_bipush (v := -2) (q := 18) dX11_does_16 rfl (by decide) ?_
    refine x_iret dX11_does_18 rfl rfl (Nat.le_refl _) ?_
    rw [if_neg b2]
    exact ⟨rfl, rfl⟩

theorem mrN_upd (s : Nat → Int32) (i : Nat) (x : Int32) : ∀ n, i < n → mrN (upd s i x) n + (if nI i < s i then 1 else 0) = mrN s n + (if nI i < x then 1 else 0) := by
  intro n
  induction n with
  | zero => intro h; omega
  | succ n ih =>
    intro h
    rw [mrN, mrN]
    by_cases e : i = n
    · subst e
      rw [pk_us]
      have hc : ∀ m, m ≤ i → mrN (upd s i x) m = mrN s m := by
        intro m
        induction m with
        | zero => intro _; rfl
        | succ m ih2 => intro hm; rw [mrN, mrN, ih2 (by omega), upd_ne (by omega)]
      rw [hc i (Nat.le_refl _)]
      omega
    · rw [upd_ne (by omega)]
      have := ih (by omega)
      omega
theorem mrN_marry {s : Nat → Int32} {P a b : Nat} (hP : P ≤ 5) (ha : a < P) (hb : b < P) (hab : ¬ a = b) (h1 : s a = -1) (h2 : s b = -1) : mrN (upd (upd s a (nI b)) b (nI a)) P = mrN s P + 1 := by
  have e1 := mrN_upd (upd s a (nI b)) b (nI a) P hb
  have e2 := mrN_upd s a (nI b) P ha
  rw [upd_ne (fun h => hab h.symm), h2, if_neg (show ¬ nI b < -1 by rw [fa_lt, nI_toInt (by omega)]; show ¬ (b : Int) < -1; omega)] at e1
  rw [h1, if_neg (show ¬ nI a < -1 by rw [fa_lt, nI_toInt (by omega)]; show ¬ (a : Int) < -1; omega)] at e2
  have q1 : (nI b < nI a) ↔ b < a := by rw [fa_lt, nI_toInt (by omega), nI_toInt (by omega)]; omega
  have q2 : (nI a < nI b) ↔ a < b := by rw [fa_lt, nI_toInt (by omega), nI_toInt (by omega)]; omega
  by_cases c : a < b
  · rw [if_pos (q2.mpr c)] at e2
    rw [if_neg (fun h => by have := q1.mp h; omega)] at e1
    omega
  · rw [if_neg (fun h => c (q2.mp h))] at e2
    rw [if_pos (q1.mpr (by omega))] at e1
    omega
theorem nIne {a b : Nat} (ha : a < 2 ^ 31) (hb : b < 2 ^ 31) : nI a = nI b ↔ a = b := ⟨fun h => by have := congrArg Int32.toNatClampNeg h; rw [nI_clamp ha, nI_clamp hb] at this; exact this, fun h => by rw [h]⟩
theorem eM_mar {τ δ : Nat → Nat → Int32} {p q : Nat} (hp : p < 5) (hq : q < 5) : (tLikeB τ (nI p) (nI q) && (decide (δ 8 (nI p).toNatClampNeg = -1) && decide (δ 8 (nI q).toNatClampNeg = -1))) = eM τ δ p q := by
  rw [nI_clamp (show p < 2 ^ 31 by omega), nI_clamp (show q < 2 ^ 31 by omega), Bool.eq_iff_iff, eM_iff hp hq]
  simp only [Bool.and_eq_true, decide_eq_true_iff]
set_option maxHeartbeats 4000000 in
set_option maxRecDepth 100000 in
theorem c_m_marry {n : Nat} {M : Nat → xE} {t : Nat → Nat → Int32} {u : Nat → Nat → Int64} (hn : 113 < n) (hM : oX11 99 t u M) {τ : Nat → Nat → Int32} {P W G : Nat} (hw : RT τ P W G (t 0)) {δ : Nat → Nat → Int32} (hd : ∀ k, k < 22 → t 1 k = dv δ k) {sz : Nat} (hsz : sz ≤ 8) (h2 : t 2 0 = nI sz) (hm : δ 3 0 = nI (mrN (δ 8) P)) {a b : Int32} : xMet mX11_marry [.ref 99, .int a, .int b] n M (fun r M' => (if inB a P = true then (if inB b P = true then (if a = b then (M = M' ∧ some (.int (-2)) = r) else (if tLikeB τ a b && (decide (δ 8 a.toNatClampNeg = -1) && decide (δ 8 b.toNatClampNeg = -1)) then (some (.int (δ 3 0 + 1)) = r ∧ mDeed t u sz (dMarry δ a b) M M') else (M = M' ∧ some (.int (-4)) = r))) else (M = M' ∧ some (.int (-2)) = r)) else (M = M' ∧ some (.int (-2)) = r))) := by
  have hM0 := hM
  obtain ⟨mp0, mp1, mp2, mp3, mp4, mp5, mp6, mp7, mp8, mp9, mp10, mp11, mp12, mp13, mp14⟩ := hM
  have hP5 := rtP hw
  have hW6 := rtW hw
  have hG5 := rtG hw
  have hiX11 : ∀ w ∈ wsX110, w ∈ wsX11_marry := by decide +kernel
  refine xMet.of _ (by decide) rfl (Nat.le_of_ble_eq_true rfl) ?_
  refine x_aload_n (q := 1) dX11_marry_0 rfl rfl ?_
  refine x_iload_n (q := 2) dX11_marry_1 rfl rfl ?_
  refine x_callV (q := 5) (ci := 11) (c_m_isOne hn hM0 (rtP hw) (rtn hw)) eX11_marry_170 gX11_marry_X11_isOne mp0 (by omega) rfl rfl rfl (Nat.le_of_ble_eq_true rfl) ⟨Nat.le_refl _, Nat.le_refl _⟩ dX11_marry_2 rfl rfl (fun r2 M2 p2 => ?_)
  obtain ⟨rfl, p2⟩ := p2
  rcases p2 with ⟨b2, rfl⟩ | ⟨b2, rfl⟩
  · obtain ⟨a1, ha1, rfl⟩ := vp_in_of (inB_t.mp b2) (by omega)
    refine x_if_eq (t := 21) (q := 8) dX11_marry_5 (by decide) rfl (fun c5 => absurd c5 (by decide)) (fun c5 => ?_)
    refine x_aload_n (q := 9) dX11_marry_8 rfl rfl ?_
    refine x_iload_n (q := 10) dX11_marry_9 rfl rfl ?_
    refine x_callV (q := 13) (ci := 11) (c_m_isOne hn hM0 (rtP hw) (rtn hw)) eX11_marry_170 gX11_marry_X11_isOne mp0 (by omega) rfl rfl rfl (Nat.le_of_ble_eq_true rfl) ⟨Nat.le_refl _, Nat.le_refl _⟩ dX11_marry_10 rfl rfl (fun r10 M10 p10 => ?_)
    obtain ⟨rfl, p10⟩ := p10
    rcases p10 with ⟨b10, rfl⟩ | ⟨b10, rfl⟩
    · obtain ⟨b1, hb1, rfl⟩ := vp_in_of (inB_t.mp b10) (by omega)
      refine x_if_eq (t := 21) (q := 16) dX11_marry_13 (by decide) rfl (fun c13 => absurd c13 (by decide)) (fun c13 => ?_)
      refine x_iload_n (q := 17) dX11_marry_16 rfl rfl ?_
      refine x_iload_n (q := 18) dX11_marry_17 rfl rfl ?_
      refine x_icmp_ne (t := 24) (q := 21) dX11_marry_18 (by decide) rfl (fun c18 => ?_) (fun c18 => ?_)
      · refine x_aload_n (q := 25) dX11_marry_24 rfl rfl ?_
        refine x_iload_n (q := 26) dX11_marry_25 rfl rfl ?_
        refine x_iload_n (q := 27) dX11_marry_26 rfl rfl ?_
        refine x_callV (q := 30) (ci := 11) (c_m_mayMarry hn hM0 hw hd ha1 hb1) eX11_marry_208 gX11_marry_X11_mayMarry mp0 (by omega) rfl rfl rfl (Nat.le_of_ble_eq_true rfl) ⟨Nat.le_refl _, Nat.le_refl _⟩ dX11_marry_27 rfl rfl (fun r27 M27 p27 => ?_)
        obtain ⟨rfl, p27⟩ := p27
        rcases p27 with ⟨b27, rfl⟩ | ⟨b27, rfl⟩
        · refine x_if_ne (t := 36) (q := 33) dX11_marry_30 (by decide) rfl (fun c30 => ?_) (fun c30 => absurd c30 (by decide))
          refine x_aload_n (q := 37) dX11_marry_36 rfl rfl ?_
          refine x_callV (q := 40) (ci := 11) (c_m_minds hn hM0 hsz h2) eX11_marry_202 gX11_marry_X11_minds mp0 (by omega) rfl rfl rfl (Nat.le_of_ble_eq_true rfl) ⟨Nat.le_refl _, Nat.le_refl _⟩ dX11_marry_37 rfl rfl (fun r37 M37 p37 => ?_)
          obtain ⟨rfl, hV37, fr37⟩ := p37
          have hU37 := hV37
          obtain ⟨y37_0, y37_1, y37_2, y37_3, y37_4, y37_5, y37_6, y37_7, y37_8, y37_9, y37_10, y37_11, y37_12, y37_13, y37_14⟩ := hV37
          have y37_1 : M37 (99 + 1) = .inl (0, 122, .inl (t 0)) := y37_1
          have y37_2 : M37 (99 + 2) = .inl (0, 242, .inl (mindD (t 1) sz)) := y37_2
          have hdm : ∀ k, k < 22 → mindD (t 1) sz k = dv δ k := fun k hk => (mindD_lo (t 1) (by omega)).trans (hd k hk)
          refine x_aload_n (q := 41) dX11_marry_40 rfl rfl ?_
          refine x_getf (C := RX11) (T := TX11) (N := 29) (k := 1) (q := 44) y37_0 (by omega) rfl hiX11 (by decide) (by decide +kernel) rfl dX11_marry_41 rfl ?_
          refine x_bipush (v := 11) (q := 46) dX11_marry_44 rfl (by decide) ?_
          refine x_iload_n (q := 47) dX11_marry_46 rfl rfl ?_
          refine x_iadd (q := 48) dX11_marry_47 rfl ?_
          refine x_iload_n (q := 49) dX11_marry_48 rfl rfl ?_
          refine x_iast (q := 50) y37_2 (by omega) (ixI (show ((11 + nI a1) : Int32) = nI (11 + a1) from (nIs rfl rfl)) (by omega) (by decide)) dX11_marry_49 rfl (fun M49 w49 o49 => ?_)
          rw [ixC (show ((11 + nI a1) : Int32) = nI (11 + a1) from (nIs rfl rfl)) (by omega)] at w49
          refine x_aload_n (q := 51) dX11_marry_50 rfl rfl ?_
          have hv2_1_99 := ((o49 (99) (by omega)).trans y37_0)
          refine x_getf (C := RX11) (T := TX11) (N := 29) (k := 1) (q := 54) hv2_1_99 (by omega) rfl hiX11 (by decide) (by decide +kernel) rfl dX11_marry_51 rfl ?_
          refine x_bipush (v := 11) (q := 56) dX11_marry_54 rfl (by decide) ?_
          refine x_iload_n (q := 57) dX11_marry_56 rfl rfl ?_
          refine x_iadd (q := 58) dX11_marry_57 rfl ?_
          refine x_iload_n (q := 59) dX11_marry_58 rfl rfl ?_
          refine x_iast (q := 60) w49 (by omega) (ixI (show ((11 + nI b1) : Int32) = nI (11 + b1) from (nIs rfl rfl)) (by omega) (by decide)) dX11_marry_59 rfl (fun M59 w59 o59 => ?_)
          rw [ixC (show ((11 + nI b1) : Int32) = nI (11 + b1) from (nIs rfl rfl)) (by omega)] at w59
          refine x_aload_n (q := 61) dX11_marry_60 rfl rfl ?_
          have hv3_2_99 := ((o59 (99) (by omega)).trans hv2_1_99)
          have hv3_3_100 := ((o59 (100) (by omega)).trans ((o49 (100) (by omega)).trans y37_1))
          have hv3_4_102 := ((o59 (102) (by omega)).trans ((o49 (102) (by omega)).trans y37_3))
          have hv3_5_103 := ((o59 (103) (by omega)).trans ((o49 (103) (by omega)).trans y37_4))
          have hv3_6_104 := ((o59 (104) (by omega)).trans ((o49 (104) (by omega)).trans y37_5))
          have hv3_7_105 := ((o59 (105) (by omega)).trans ((o49 (105) (by omega)).trans y37_6))
          have hv3_8_106 := ((o59 (106) (by omega)).trans ((o49 (106) (by omega)).trans y37_7))
          have hv3_9_107 := ((o59 (107) (by omega)).trans ((o49 (107) (by omega)).trans y37_8))
          have hv3_10_108 := ((o59 (108) (by omega)).trans ((o49 (108) (by omega)).trans y37_9))
          have hv3_11_109 := ((o59 (109) (by omega)).trans ((o49 (109) (by omega)).trans y37_10))
          have hv3_12_110 := ((o59 (110) (by omega)).trans ((o49 (110) (by omega)).trans y37_11))
          have hv3_13_111 := ((o59 (111) (by omega)).trans ((o49 (111) (by omega)).trans y37_12))
          have hv3_14_112 := ((o59 (112) (by omega)).trans ((o49 (112) (by omega)).trans y37_13))
          have hv3_15_113 := ((o59 (113) (by omega)).trans ((o49 (113) (by omega)).trans y37_14))
          have ne1 : ¬ a1 = b1 := fun h => c18 (by rw [h])
          have hdn : ∀ k, k < 22 → upd (upd (mindD (t 1) sz) (11 + a1) (nI b1)) (11 + b1) (nI a1) k = dv (dMarry δ (nI a1) (nI b1)) k := fun k hk => (dv_s8 (dv_s8 hdm (show a1 < 5 by omega) _) (show b1 < 5 by omega) _ k hk).trans (by unfold dMarry; rw [nI_clamp (show a1 < 2 ^ 31 by omega), nI_clamp (show b1 < 2 ^ 31 by omega)]; rfl)
          refine x_callV (q := 64) (ci := 11) (c_m_marriages (t := dT t (upd (upd (mindD (t 1) sz) (11 + a1) (nI b1)) (11 + b1) (nI a1)) (pSz sz)) (u := u) (δ := dMarry δ (nI a1) (nI b1)) hn ⟨hv3_2_99, hv3_3_100, w59, hv3_4_102, hv3_5_103, hv3_6_104, hv3_7_105, hv3_8_106, hv3_9_107, hv3_10_108, hv3_11_109, hv3_12_110, hv3_13_111, hv3_14_112, hv3_15_113⟩ hw hdn) eX11_marry_211 gX11_marry_X11_marriages hv3_2_99 (by omega) rfl rfl rfl (Nat.le_of_ble_eq_true rfl) ⟨Nat.le_refl _, Nat.le_refl _⟩ dX11_marry_61 rfl rfl (fun r61 M61 p61 => ?_)
          obtain ⟨rfl, rfl⟩ := p61
          refine x_iret dX11_marry_64 rfl rfl (Nat.le_refl _) ?_
          rw [if_pos b2, if_pos b10, if_neg c18, eM_mar (show a1 < 5 by omega) (show b1 < 5 by omega), if_pos b27]
          refine ⟨by rw [show dMarry δ (nI a1) (nI b1) 8 = upd (upd (δ 8) a1 (nI b1)) b1 (nI a1) by unfold dMarry; rw [nI_clamp (show a1 < 2 ^ 31 by omega), nI_clamp (show b1 < 2 ^ 31 by omega)]; rfl, mrN_marry hP5 ha1 hb1 ne1 (((eM_iff (by omega) (by omega)).mp b27).2.1) (((eM_iff (by omega) (by omega)).mp b27).2.2), hm, nI_1], upd (upd (mindD (t 1) sz) (11 + a1) (nI b1)) (11 + b1) (nI a1), ⟨hv3_2_99, hv3_3_100, w59, hv3_4_102, hv3_5_103, hv3_6_104, hv3_7_105, hv3_8_106, hv3_9_107, hv3_10_108, hv3_11_109, hv3_12_110, hv3_13_111, hv3_14_112, hv3_15_113⟩, fun j hj => ((o59 j (by omega)).trans ((o49 j (by omega)).trans ((fr37 j (by omega)).trans rfl))), fun k hk => ?_, fun k hk => by rw [upd_ne (by omega), upd_ne (by omega)]⟩
          exact hdn k hk
        · refine x_if_ne (t := 36) (q := 33) dX11_marry_30 (by decide) rfl (fun c30 => absurd c30 (by decide)) (fun c30 => ?_)
          refine x_bipush (v := -4) (q := 35) dX11_marry_33 rfl (by decide) ?_
          refine x_iret dX11_marry_35 rfl rfl (Nat.le_refl _) ?_
          rw [if_pos b2, if_pos b10, if_neg c18, eM_mar (show a1 < 5 by omega) (show b1 < 5 by omega), if_neg b27]
          exact ⟨rfl, rfl⟩
      · refine x_bipush (v := -2) (q := 23) dX11_marry_21 rfl (by decide) ?_
        refine x_iret dX11_marry_23 rfl rfl (Nat.le_refl _) ?_
        rw [if_pos b2, if_pos b10, if_pos c18]
        exact ⟨rfl, rfl⟩
    · refine x_if_eq (t := 21) (q := 16) dX11_marry_13 (by decide) rfl (fun c13 => ?_) (fun c13 => absurd c13 (by decide))
      refine x_bipush (v := -2) (q := 23) dX11_marry_21 rfl (by decide) ?_
      refine x_iret dX11_marry_23 rfl rfl (Nat.le_refl _) ?_
      rw [if_pos b2, if_neg b10]
      exact ⟨rfl, rfl⟩
  · refine x_if_eq (t := 21) (q := 8) dX11_marry_5 (by decide) rfl (fun c5 => ?_) (fun c5 => absurd c5 (by decide))
    refine x_bipush (v := -2) (q := 23) dX11_marry_21 rfl (by decide) ?_
    refine x_iret dX11_marry_23 rfl rfl (Nat.le_refl _) ?_
    rw [if_neg b2]
    exact ⟨rfl, rfl⟩

set_option maxHeartbeats 4000000 in
set_option maxRecDepth 100000 in
theorem c_m_sell {n : Nat} {M : Nat → xE} {t : Nat → Nat → Int32} {u : Nat → Nat → Int64} (hn : 113 < n) (hM : oX11 99 t u M) {τ : Nat → Nat → Int32} {P W G : Nat} (hw : RT τ P W G (t 0)) {δ : Nat → Nat → Int32} (hd : ∀ k, k < 22 → t 1 k = dv δ k) (hk : TOK τ P W G) {c : Nat} (hc : c < 1000) (hc0 : δ 0 0 = nI c) {sz : Nat} (hsz : sz ≤ 8) (h2 : t 2 0 = nI sz) {a : Int32} : xMet mX11_sell [.ref 99, .int a] n M (fun r M' => (if inB a G = true then (if bo (δ 6 0) a = 1 then (M = M' ∧ some (.int (-4)) = r) else (some (.int (tPrice τ a (δ 0 0))) = r ∧ mDeed t u sz (dSell τ δ a) M M')) else (M = M' ∧ some (.int (-2)) = r))) := by
  have hM0 := hM
  obtain ⟨mp0, mp1, mp2, mp3, mp4, mp5, mp6, mp7, mp8, mp9, mp10, mp11, mp12, mp13, mp14⟩ := hM
  have hP5 := rtP hw
  have hW6 := rtW hw
  have hG5 := rtG hw
  have hiX11 : ∀ w ∈ wsX110, w ∈ wsX11_sell := by decide +kernel
  refine xMet.of _ (by decide) rfl (Nat.le_of_ble_eq_true rfl) ?_
  refine x_aload_n (q := 1) dX11_sell_0 rfl rfl ?_
  refine x_iload_n (q := 2) dX11_sell_1 rfl rfl ?_
  refine x_callV (q := 5) (ci := 11) (c_m_isGood hn hM0 (rtG hw) (rtgood hw)) eX11_sell_178 gX11_sell_X11_isGood mp0 (by omega) rfl rfl rfl (Nat.le_of_ble_eq_true rfl) ⟨Nat.le_refl _, Nat.le_refl _⟩ dX11_sell_2 rfl rfl (fun r2 M2 p2 => ?_)
  obtain ⟨rfl, p2⟩ := p2
  rcases p2 with ⟨b2, rfl⟩ | ⟨b2, rfl⟩
  · obtain ⟨a1, ha1, rfl⟩ := vp_in_of (inB_t.mp b2) (by omega)
    refine x_if_ne (t := 11) (q := 8) dX11_sell_5 (by decide) rfl (fun c5 => ?_) (fun c5 => absurd c5 (by decide))
    refine x_aload_n (q := 12) dX11_sell_11 rfl rfl ?_
    refine x_getf (C := RX11) (T := TX11) (N := 29) (k := 1) (q := 15) mp0 (by omega) rfl hiX11 (by decide) (by decide +kernel) rfl dX11_sell_12 rfl ?_
    refine x_bipush (v := 18) (q := 17) dX11_sell_15 rfl (by decide) ?_
    refine x_iald (q := 18) mp2 (by omega) (ixI (show (18 : Int32) = nI 18 from rfl) (by omega) (by decide)) dX11_sell_17 rfl ?_
    rw [ixC (show (18 : Int32) = nI 18 from rfl) (by omega)]
    rw [rdsold hd]
    refine x_iload_n (q := 19) dX11_sell_18 rfl rfl ?_
    refine x_callS (q := 22) c_m_has eX11_sell_164 gX11_sell_X11_has rfl (Nat.le_of_ble_eq_true rfl) ⟨Nat.le_refl _, Nat.le_refl _⟩ dX11_sell_19 rfl rfl (fun r19 M19 p19 => ?_)
    obtain ⟨rfl, p19⟩ := p19
    rcases p19 with ⟨b19, rfl⟩ | ⟨b19, rfl⟩
    · refine x_if_eq (t := 28) (q := 25) dX11_sell_22 (by decide) rfl (fun c22 => absurd c22 (by decide)) (fun c22 => ?_)
      refine x_bipush (v := -4) (q := 27) dX11_sell_25 rfl (by decide) ?_
      refine x_iret dX11_sell_27 rfl rfl (Nat.le_refl _) ?_
      rw [if_pos b2, if_pos b19]
      exact ⟨rfl, rfl⟩
    · refine x_if_eq (t := 28) (q := 25) dX11_sell_22 (by decide) rfl (fun c22 => ?_) (fun c22 => absurd c22 (by decide))
      refine x_aload_n (q := 29) dX11_sell_28 rfl rfl ?_
      refine x_callV (q := 32) (ci := 11) (c_m_minds hn hM0 hsz h2) eX11_sell_202 gX11_sell_X11_minds mp0 (by omega) rfl rfl rfl (Nat.le_of_ble_eq_true rfl) ⟨Nat.le_refl _, Nat.le_refl _⟩ dX11_sell_29 rfl rfl (fun r29 M29 p29 => ?_)
      obtain ⟨rfl, hV29, fr29⟩ := p29
      have hU29 := hV29
      obtain ⟨y29_0, y29_1, y29_2, y29_3, y29_4, y29_5, y29_6, y29_7, y29_8, y29_9, y29_10, y29_11, y29_12, y29_13, y29_14⟩ := hV29
      have y29_1 : M29 (99 + 1) = .inl (0, 122, .inl (t 0)) := y29_1
      have y29_2 : M29 (99 + 2) = .inl (0, 242, .inl (mindD (t 1) sz)) := y29_2
      have hdm : ∀ k, k < 22 → mindD (t 1) sz k = dv δ k := fun k hk => (mindD_lo (t 1) (by omega)).trans (hd k hk)
      refine x_aload_n (q := 33) dX11_sell_32 rfl rfl ?_
      refine x_iload_n (q := 34) dX11_sell_33 rfl rfl ?_
      refine x_aload_n (q := 35) dX11_sell_34 rfl rfl ?_
      refine x_getf (C := RX11) (T := TX11) (N := 29) (k := 1) (q := 38) y29_0 (by omega) rfl hiX11 (by decide) (by decide +kernel) rfl dX11_sell_35 rfl ?_
      refine x_bipush (v := 20) (q := 40) dX11_sell_38 rfl (by decide) ?_
      refine x_iald (q := 41) y29_2 (by omega) (ixI (show (20 : Int32) = nI 20 from rfl) (by omega) (by decide)) dX11_sell_40 rfl ?_
      rw [ixC (show (20 : Int32) = nI 20 from rfl) (by omega)]
      rw [show mindD (t 1) sz 20 = nI c from (hdm 20 (by omega)).trans hc0]
      refine x_callV (q := 44) (ci := 11) (c_m_worthIn (t := dT t (mindD (t 1) sz) (pSz sz)) (u := u) hn ⟨y29_0, y29_1, y29_2, y29_3, y29_4, y29_5, y29_6, y29_7, y29_8, y29_9, y29_10, y29_11, y29_12, y29_13, y29_14⟩ hw hk ha1 (show c < 2000 by omega)) eX11_sell_184 gX11_sell_X11_worthIn y29_0 (by omega) rfl rfl rfl (Nat.le_of_ble_eq_true rfl) ⟨Nat.le_refl _, Nat.le_refl _⟩ dX11_sell_41 rfl rfl (fun r41 M41 p41 => ?_)
      obtain ⟨rfl, rfl⟩ := p41
      refine x_istore_n (L' := fun x2_44 => [(2, .int x2_44), (0, .ref 99), (1, .int (nI a1))]) (q := 45) dX11_sell_44 rfl (by decide) (fun _ => rfl) (fun x2_44 ex2_44 => ?_)
      obtain rfl : x2_44 = tPrice τ (nI a1) (nI c) := ex2_44
      refine x_aload_n (q := 46) dX11_sell_45 rfl rfl ?_
      refine x_getf (C := RX11) (T := TX11) (N := 29) (k := 1) (q := 49) y29_0 (by omega) rfl hiX11 (by decide) (by decide +kernel) rfl dX11_sell_46 rfl ?_
      refine x_bipush (v := 18) (q := 51) dX11_sell_49 rfl (by decide) ?_
      refine x_dup2 (q := 52) dX11_sell_51 rfl rfl rfl ?_
      refine x_iald (q := 53) y29_2 (by omega) (ixI (show (18 : Int32) = nI 18 from rfl) (by omega) (by decide)) dX11_sell_52 rfl ?_
      rw [ixC (show (18 : Int32) = nI 18 from rfl) (by omega)]
      rw [show mindD (t 1) sz 18 = δ 6 0 from hdm 18 (by omega)]
      refine x_iconst (v := 1) (q := 54) dX11_sell_53 rfl (by decide) ?_
      refine x_iload_n (q := 55) dX11_sell_54 rfl rfl ?_
      refine x_ishl (q := 56) dX11_sell_55 rfl ?_
      refine x_ior (q := 57) dX11_sell_56 rfl ?_
      refine x_iast (q := 58) y29_2 (by omega) (ixI (show (18 : Int32) = nI 18 from rfl) (by omega) (by decide)) dX11_sell_57 rfl (fun M57 w57 o57 => ?_)
      rw [ixC (show (18 : Int32) = nI 18 from rfl) (by omega)] at w57
      refine x_aload_n (q := 59) dX11_sell_58 rfl rfl ?_
      have hv2_1_99 := ((o57 (99) (by omega)).trans y29_0)
      refine x_getf (C := RX11) (T := TX11) (N := 29) (k := 1) (q := 62) hv2_1_99 (by omega) rfl hiX11 (by decide) (by decide +kernel) rfl dX11_sell_59 rfl ?_
      refine x_bipush (v := 19) (q := 64) dX11_sell_62 rfl (by decide) ?_
      refine x_dup2 (q := 65) dX11_sell_64 rfl rfl rfl ?_
      refine x_iald (q := 66) w57 (by omega) (ixI (show (19 : Int32) = nI 19 from rfl) (by omega) (by decide)) dX11_sell_65 rfl ?_
      rw [ixC (show (19 : Int32) = nI 19 from rfl) (by omega)]
      rw [upd_ne (show ¬ (19 : Nat) = 18 by decide), show mindD (t 1) sz 19 = δ 2 0 from hdm 19 (by omega)]
      refine x_iload_n (q := 67) dX11_sell_66 rfl rfl ?_
      refine x_iadd (q := 68) dX11_sell_67 rfl ?_
      refine x_iast (q := 69) w57 (by omega) (ixI (show (19 : Int32) = nI 19 from rfl) (by omega) (by decide)) dX11_sell_68 rfl (fun M68 w68 o68 => ?_)
      rw [ixC (show (19 : Int32) = nI 19 from rfl) (by omega)] at w68
      refine x_iload_n (q := 70) dX11_sell_69 rfl rfl ?_
      refine x_iret dX11_sell_70 rfl rfl (Nat.le_refl _) ?_
      have hv3_2_99 := ((o68 (99) (by omega)).trans hv2_1_99)
      have hv3_3_100 := ((o68 (100) (by omega)).trans ((o57 (100) (by omega)).trans y29_1))
      have hv3_4_102 := ((o68 (102) (by omega)).trans ((o57 (102) (by omega)).trans y29_3))
      have hv3_5_103 := ((o68 (103) (by omega)).trans ((o57 (103) (by omega)).trans y29_4))
      have hv3_6_104 := ((o68 (104) (by omega)).trans ((o57 (104) (by omega)).trans y29_5))
      have hv3_7_105 := ((o68 (105) (by omega)).trans ((o57 (105) (by omega)).trans y29_6))
      have hv3_8_106 := ((o68 (106) (by omega)).trans ((o57 (106) (by omega)).trans y29_7))
      have hv3_9_107 := ((o68 (107) (by omega)).trans ((o57 (107) (by omega)).trans y29_8))
      have hv3_10_108 := ((o68 (108) (by omega)).trans ((o57 (108) (by omega)).trans y29_9))
      have hv3_11_109 := ((o68 (109) (by omega)).trans ((o57 (109) (by omega)).trans y29_10))
      have hv3_12_110 := ((o68 (110) (by omega)).trans ((o57 (110) (by omega)).trans y29_11))
      have hv3_13_111 := ((o68 (111) (by omega)).trans ((o57 (111) (by omega)).trans y29_12))
      have hv3_14_112 := ((o68 (112) (by omega)).trans ((o57 (112) (by omega)).trans y29_13))
      have hv3_15_113 := ((o68 (113) (by omega)).trans ((o57 (113) (by omega)).trans y29_14))
      rw [if_pos b2, if_neg b19]
      refine ⟨by rw [hc0], upd (upd (mindD (t 1) sz) 18 (δ 6 0 ||| 1 <<< (nI a1 &&& 31))) 19 (δ 2 0 + tPrice τ (nI a1) (nI c)), ⟨hv3_2_99, hv3_3_100, w68, hv3_4_102, hv3_5_103, hv3_6_104, hv3_7_105, hv3_8_106, hv3_9_107, hv3_10_108, hv3_11_109, hv3_12_110, hv3_13_111, hv3_14_112, hv3_15_113⟩, fun j hj => ((o68 j (by omega)).trans ((o57 j (by omega)).trans ((fr29 j (by omega)).trans rfl))), fun k hk => ?_, fun k hk => by rw [upd_ne (by omega), upd_ne (by omega)]⟩
      refine (dv_c19 (dv_c18 hdm _) _ k hk).trans ?_
      unfold dSell
      rw [hc0]
      rfl
  · refine x_if_ne (t := 11) (q := 8) dX11_sell_5 (by decide) rfl (fun c5 => absurd c5 (by decide)) (fun c5 => ?_)
    refine x_bipush (v := -2) (q := 10) dX11_sell_8 rfl (by decide) ?_
    refine x_iret dX11_sell_10 rfl rfl (Nat.le_refl _) ?_
    rw [if_neg b2]
    exact ⟨rfl, rfl⟩

set_option maxHeartbeats 4000000 in
set_option maxRecDepth 100000 in
theorem c_m_oversleep {n : Nat} {M : Nat → xE} {t : Nat → Nat → Int32} {u : Nat → Nat → Int64} (hn : 113 < n) (hM : oX11 99 t u M) {τ : Nat → Nat → Int32} {P W G : Nat} (hw : RT τ P W G (t 0)) {δ : Nat → Nat → Int32} (hd : ∀ k, k < 22 → t 1 k = dv δ k) {sz : Nat} (hsz : sz ≤ 8) (h2 : t 2 0 = nI sz) {a b : Int32} : xMet mX11_oversleep [.ref 99, .int a, .int b] n M (fun r M' => (if inB a P = true then (if inB b 2 = true then (some (.int (bo (δ 5 0) a)) = r ∧ mDeed t u sz (dOver δ a b) M M') else (M = M' ∧ some (.int (-3)) = r)) else (M = M' ∧ some (.int (-2)) = r))) := by
  have hM0 := hM
  obtain ⟨mp0, mp1, mp2, mp3, mp4, mp5, mp6, mp7, mp8, mp9, mp10, mp11, mp12, mp13, mp14⟩ := hM
  have hP5 := rtP hw
  have hW6 := rtW hw
  have hG5 := rtG hw
  have hiX11 : ∀ w ∈ wsX110, w ∈ wsX11_oversleep := by decide +kernel
  refine xMet.of _ (by decide) rfl (Nat.le_of_ble_eq_true rfl) ?_
  refine x_aload_n (q := 1) dX11_oversleep_0 rfl rfl ?_
  refine x_iload_n (q := 2) dX11_oversleep_1 rfl rfl ?_
  refine x_callV (q := 5) (ci := 11) (c_m_isOne hn hM0 (rtP hw) (rtn hw)) eX11_oversleep_170 gX11_oversleep_X11_isOne mp0 (by omega) rfl rfl rfl (Nat.le_of_ble_eq_true rfl) ⟨Nat.le_refl _, Nat.le_refl _⟩ dX11_oversleep_2 rfl rfl (fun r2 M2 p2 => ?_)
  obtain ⟨rfl, p2⟩ := p2
  rcases p2 with ⟨b2, rfl⟩ | ⟨b2, rfl⟩
  · obtain ⟨a1, ha1, rfl⟩ := vp_in_of (inB_t.mp b2) (by omega)
    refine x_if_ne (t := 11) (q := 8) dX11_oversleep_5 (by decide) rfl (fun c5 => ?_) (fun c5 => absurd c5 (by decide))
    refine x_iload_n (q := 12) dX11_oversleep_11 rfl rfl ?_
    refine x_callS (q := 15) c_m_isFlag eX11_oversleep_181 gX11_oversleep_X11_isFlag rfl (Nat.le_of_ble_eq_true rfl) ⟨Nat.le_refl _, Nat.le_refl _⟩ dX11_oversleep_12 rfl rfl (fun r12 M12 p12 => ?_)
    obtain ⟨rfl, p12⟩ := p12
    rcases p12 with ⟨b12, rfl⟩ | ⟨b12, rfl⟩
    · refine x_if_ne (t := 21) (q := 18) dX11_oversleep_15 (by decide) rfl (fun c15 => ?_) (fun c15 => absurd c15 (by decide))
      refine x_aload_n (q := 22) dX11_oversleep_21 rfl rfl ?_
      refine x_callV (q := 25) (ci := 11) (c_m_minds hn hM0 hsz h2) eX11_oversleep_202 gX11_oversleep_X11_minds mp0 (by omega) rfl rfl rfl (Nat.le_of_ble_eq_true rfl) ⟨Nat.le_refl _, Nat.le_refl _⟩ dX11_oversleep_22 rfl rfl (fun r22 M22 p22 => ?_)
      obtain ⟨rfl, hV22, fr22⟩ := p22
      have hU22 := hV22
      obtain ⟨y22_0, y22_1, y22_2, y22_3, y22_4, y22_5, y22_6, y22_7, y22_8, y22_9, y22_10, y22_11, y22_12, y22_13, y22_14⟩ := hV22
      have y22_1 : M22 (99 + 1) = .inl (0, 122, .inl (t 0)) := y22_1
      have y22_2 : M22 (99 + 2) = .inl (0, 242, .inl (mindD (t 1) sz)) := y22_2
      have hdm : ∀ k, k < 22 → mindD (t 1) sz k = dv δ k := fun k hk => (mindD_lo (t 1) (by omega)).trans (hd k hk)
      refine x_aload_n (q := 26) dX11_oversleep_25 rfl rfl ?_
      refine x_getf (C := RX11) (T := TX11) (N := 29) (k := 1) (q := 29) y22_0 (by omega) rfl hiX11 (by decide) (by decide +kernel) rfl dX11_oversleep_26 rfl ?_
      refine x_bipush (v := 17) (q := 31) dX11_oversleep_29 rfl (by decide) ?_
      refine x_iald (q := 32) y22_2 (by omega) (ixI (show (17 : Int32) = nI 17 from rfl) (by omega) (by decide)) dX11_oversleep_31 rfl ?_
      rw [ixC (show (17 : Int32) = nI 17 from rfl) (by omega)]
      rw [show mindD (t 1) sz 17 = δ 5 0 from hdm 17 (by omega)]
      refine x_iload_n (q := 33) dX11_oversleep_32 rfl rfl ?_
      refine x_ishr (q := 34) dX11_oversleep_33 rfl ?_
      refine x_iconst (v := 1) (q := 35) dX11_oversleep_34 rfl (by decide) ?_
      refine x_iand (q := 36) dX11_oversleep_35 rfl ?_
      refine x_istore_n (L' := fun x3_36 => [(3, .int x3_36), (0, .ref 99), (1, .int (nI a1)), (2, .int b)]) (q := 37) dX11_oversleep_36 rfl (by decide) (fun _ => rfl) (fun x3_36 ex3_36 => ?_)
      obtain rfl : x3_36 = bo (δ 5 0) (nI a1) := ex3_36
      refine x_aload_n (q := 38) dX11_oversleep_37 rfl rfl ?_
      refine x_getf (C := RX11) (T := TX11) (N := 29) (k := 1) (q := 41) y22_0 (by omega) rfl hiX11 (by decide) (by decide +kernel) rfl dX11_oversleep_38 rfl ?_
      refine x_bipush (v := 17) (q := 43) dX11_oversleep_41 rfl (by decide) ?_
      refine x_aload_n (q := 44) dX11_oversleep_43 rfl rfl ?_
      refine x_getf (C := RX11) (T := TX11) (N := 29) (k := 1) (q := 47) y22_0 (by omega) rfl hiX11 (by decide) (by decide +kernel) rfl dX11_oversleep_44 rfl ?_
      refine x_bipush (v := 17) (q := 49) dX11_oversleep_47 rfl (by decide) ?_
      refine x_iald (q := 50) y22_2 (by omega) (ixI (show (17 : Int32) = nI 17 from rfl) (by omega) (by decide)) dX11_oversleep_49 rfl ?_
      rw [ixC (show (17 : Int32) = nI 17 from rfl) (by omega)]
      rw [show mindD (t 1) sz 17 = δ 5 0 from hdm 17 (by omega)]
      refine x_iconst (v := 1) (q := 51) dX11_oversleep_50 rfl (by decide) ?_
      refine x_iload_n (q := 52) dX11_oversleep_51 rfl rfl ?_
      refine x_ishl (q := 53) dX11_oversleep_52 rfl ?_
      refine x_iconst (v := -1) (q := 54) dX11_oversleep_53 rfl (by decide) ?_
      refine x_ixor (q := 55) dX11_oversleep_54 rfl ?_
      refine x_iand (q := 56) dX11_oversleep_55 rfl ?_
      refine x_iload_n (q := 57) dX11_oversleep_56 rfl rfl ?_
      refine x_iload_n (q := 58) dX11_oversleep_57 rfl rfl ?_
      refine x_ishl (q := 59) dX11_oversleep_58 rfl ?_
      refine x_ior (q := 60) dX11_oversleep_59 rfl ?_
      refine x_iast (q := 61) y22_2 (by omega) (ixI (show (17 : Int32) = nI 17 from rfl) (by omega) (by decide)) dX11_oversleep_60 rfl (fun M60 w60 o60 => ?_)
      rw [ixC (show (17 : Int32) = nI 17 from rfl) (by omega)] at w60
      refine x_iload_n (q := 62) dX11_oversleep_61 rfl rfl ?_
      refine x_iret dX11_oversleep_62 rfl rfl (Nat.le_refl _) ?_
      have hv2_1_99 := ((o60 (99) (by omega)).trans y22_0)
      have hv2_2_100 := ((o60 (100) (by omega)).trans y22_1)
      have hv2_3_102 := ((o60 (102) (by omega)).trans y22_3)
      have hv2_4_103 := ((o60 (103) (by omega)).trans y22_4)
      have hv2_5_104 := ((o60 (104) (by omega)).trans y22_5)
      have hv2_6_105 := ((o60 (105) (by omega)).trans y22_6)
      have hv2_7_106 := ((o60 (106) (by omega)).trans y22_7)
      have hv2_8_107 := ((o60 (107) (by omega)).trans y22_8)
      have hv2_9_108 := ((o60 (108) (by omega)).trans y22_9)
      have hv2_10_109 := ((o60 (109) (by omega)).trans y22_10)
      have hv2_11_110 := ((o60 (110) (by omega)).trans y22_11)
      have hv2_12_111 := ((o60 (111) (by omega)).trans y22_12)
      have hv2_13_112 := ((o60 (112) (by omega)).trans y22_13)
      have hv2_14_113 := ((o60 (113) (by omega)).trans y22_14)
      rw [if_pos b2, if_pos b12]
      refine ⟨rfl, upd (mindD (t 1) sz) 17 (δ 5 0 &&& (1 <<< (nI a1 &&& 31) ^^^ -1) ||| b <<< (nI a1 &&& 31)), ⟨hv2_1_99, hv2_2_100, w60, hv2_3_102, hv2_4_103, hv2_5_104, hv2_6_105, hv2_7_106, hv2_8_107, hv2_9_108, hv2_10_109, hv2_11_110, hv2_12_111, hv2_13_112, hv2_14_113⟩, fun j hj => ((o60 j (by omega)).trans ((fr22 j (by omega)).trans rfl)), fun k hk => ?_, fun k hk => by rw [upd_ne (by omega)]⟩
      refine (dv_c17 hdm _ k hk).trans ?_
      rfl
    · refine x_if_ne (t := 21) (q := 18) dX11_oversleep_15 (by decide) rfl (fun c15 => absurd c15 (by decide)) (fun c15 => ?_)
      refine x_bipush (v := -3) (q := 20) dX11_oversleep_18 rfl (by decide) ?_
      refine x_iret dX11_oversleep_20 rfl rfl (Nat.le_refl _) ?_
      rw [if_pos b2, if_neg b12]
      exact ⟨rfl, rfl⟩
  · refine x_if_ne (t := 11) (q := 8) dX11_oversleep_5 (by decide) rfl (fun c5 => absurd c5 (by decide)) (fun c5 => ?_)
    refine x_bipush (v := -2) (q := 10) dX11_oversleep_8 rfl (by decide) ?_
    refine x_iret dX11_oversleep_10 rfl rfl (Nat.le_refl _) ?_
    rw [if_neg b2]
    exact ⟨rfl, rfl⟩

