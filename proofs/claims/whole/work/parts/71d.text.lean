def doM (P W G : Nat) (w : Nat → Int32) (x : tAct) : Nat → Int32 :=
  if x.1 = 0 then begW w 61 else if x.1 = 5 then upd w (67 + x.2.1) (w (67 + x.2.1) ||| (1 <<< (nI x.2.2.1 &&& 31)))
  else if x.1 = 6 then upd (upd (upd (upd (upd w (73 + W) (nI x.2.1)) (79 + W) (nI x.2.2.1)) (85 + W) (nI x.2.2.2.1)) (91 + W) (nI x.2.2.2.2)) 72 (nI (W + 1))
  else if x.1 = 7 ∨ x.1 = 8 then upd (upd (upd (upd w (99 + G) (nI x.2.1)) (104 + G) (nI x.2.2.1)) (109 + G) (nI (x.1 - 6))) 98 (nI (G + 1))
  else if x.1 = 9 then upd w 97 (nI x.2.1) else if x.1 = 10 then upd (upd w (114 + x.2.1) (nI x.2.2.1)) (118 + x.2.1) (nI x.2.2.2.1)
  else if x.1 = 11 then stW w 61 4 else upd (upd (upd w (62 + P) (nI (x.1 - 1))) (67 + P) 0) 61 (nI (P + 1))
def mrP (t : Nat → Nat → Int32) (u : Nat → Nat → Int64) (lt : Nat → Int32) (N P W G : Nat) (w : Nat → Int32) (c : Int32) (res : tRes) (r : Option Value) (M' : Nat → xE) : Prop := res.elim
  (fun s => some (.int 0) = r ∧ ∃ w' a iw ib v, oR t u lt N w' a (nI s) iw ib v c M' ∧ ∀ k, k < 61 → w' k = w k)
  (fun x => some (.int 1) = r ∧ x.1 ≤ N ∧ ∃ s iw ib v, oR t u lt N (doM P W G w x.2) (nI x.1) s iw ib v c M')
set_option maxHeartbeats 4000000 in
set_option maxRecDepth 100000 in
theorem c_m_tOne {n N : Nat} {M : Nat → xE} {t : Nat → Nat → Int32} {u : Nat → Nat → Int64} {lt w : Nat → Int32} {s iw ib v c : Int32} {P : Nat} {a : Int32} (hn : 113 < n) (hN : N ≤ 160) (hR : oR t u lt N w a s iw ib v c M) (hP : P ≤ 5) (hP0 : w 61 = nI P) {k : Int32} : xMet mX11_takesOne [.ref 99, .int k] n M (fun r M' => ((P < 5 ∧ some (.int 1) = r ∧ oR t u lt N (upd (upd (upd w (62 + P) k) (67 + P) 0) 61 (nI (P + 1))) a s iw ib v c M') ∨ (P = 5 ∧ some (.int 0) = r ∧ M = M')) ∧ (∀ j, ¬ j = 99 → ¬ j = 100 → M' j = M j)) := by
  have hR0 := hR
  obtain ⟨mp0, mp1, mp4⟩ := hR
  have hiX11 : ∀ w ∈ wsX110, w ∈ wsX11_takesOne := by decide +kernel
  refine xMet.of _ (by decide) rfl (Nat.le_of_ble_eq_true rfl) ?_
  refine x_aload_n (q := 1) dX11_takesOne_0 rfl rfl ?_
  refine x_getf (C := RX11) (T := TX11) (N := 29) (k := 0) (q := 4) mp0 (by omega) rfl hiX11 (by decide) (by decide +kernel) rfl dX11_takesOne_1 rfl ?_
  refine x_bipush (v := 61) (q := 6) dX11_takesOne_4 rfl (by decide) ?_
  refine x_iald (q := 7) mp1 (by omega) (ixI (show (61 : Int32) = nI 61 from rfl) (by omega) (by decide)) dX11_takesOne_6 rfl ?_
  rw [ixC (show (61 : Int32) = nI 61 from rfl) (by omega)]
  rw [hP0]
  refine x_iconst (v := 5) (q := 8) dX11_takesOne_7 rfl (by decide) ?_
  refine x_icmp_ne (t := 13) (q := 11) dX11_takesOne_8 (by decide) rfl (fun c8 => ?_) (fun c8 => ?_)
  · have hP5 : P < 5 := by have h9 : ¬ P = 5 := fun h => c8 ((nIne (a := P) (b := 5) (by omega) (by decide)).mpr h); omega
    refine x_aload_n (q := 14) dX11_takesOne_13 rfl rfl ?_
    refine x_getf (C := RX11) (T := TX11) (N := 29) (k := 0) (q := 17) mp0 (by omega) rfl hiX11 (by decide) (by decide +kernel) rfl dX11_takesOne_14 rfl ?_
    refine x_bipush (v := 62) (q := 19) dX11_takesOne_17 rfl (by decide) ?_
    refine x_aload_n (q := 20) dX11_takesOne_19 rfl rfl ?_
    refine x_getf (C := RX11) (T := TX11) (N := 29) (k := 0) (q := 23) mp0 (by omega) rfl hiX11 (by decide) (by decide +kernel) rfl dX11_takesOne_20 rfl ?_
    refine x_bipush (v := 61) (q := 25) dX11_takesOne_23 rfl (by decide) ?_
    refine x_iald (q := 26) mp1 (by omega) (ixI (show (61 : Int32) = nI 61 from rfl) (by omega) (by decide)) dX11_takesOne_25 rfl ?_
    rw [ixC (show (61 : Int32) = nI 61 from rfl) (by omega)]
    rw [hP0]
    refine x_iadd (q := 27) dX11_takesOne_26 rfl ?_
    refine x_iload_n (q := 28) dX11_takesOne_27 rfl rfl ?_
    refine x_iast (q := 29) mp1 (by omega) (ixI (show ((62 + nI P) : Int32) = nI (62 + P) from (nIs rfl rfl)) (by omega) (by decide)) dX11_takesOne_28 rfl (fun M28 w28 o28 => ?_)
    rw [ixC (show ((62 + nI P) : Int32) = nI (62 + P) from (nIs rfl rfl)) (by omega)] at w28
    refine x_aload_n (q := 30) dX11_takesOne_29 rfl rfl ?_
    have hv1_1_99 := ((o28 (99) (by omega)).trans mp0)
    refine x_getf (C := RX11) (T := TX11) (N := 29) (k := 0) (q := 33) hv1_1_99 (by omega) rfl hiX11 (by decide) (by decide +kernel) rfl dX11_takesOne_30 rfl ?_
    refine x_bipush (v := 67) (q := 35) dX11_takesOne_33 rfl (by decide) ?_
    refine x_aload_n (q := 36) dX11_takesOne_35 rfl rfl ?_
    refine x_getf (C := RX11) (T := TX11) (N := 29) (k := 0) (q := 39) hv1_1_99 (by omega) rfl hiX11 (by decide) (by decide +kernel) rfl dX11_takesOne_36 rfl ?_
    refine x_bipush (v := 61) (q := 41) dX11_takesOne_39 rfl (by decide) ?_
    refine x_iald (q := 42) w28 (by omega) (ixI (show (61 : Int32) = nI 61 from rfl) (by omega) (by decide)) dX11_takesOne_41 rfl ?_
    rw [ixC (show (61 : Int32) = nI 61 from rfl) (by omega)]
    rw [show upd w (62 + P) k 61 = nI P by rw [upd_ne (by omega)]; exact hP0]
    refine x_iadd (q := 43) dX11_takesOne_42 rfl ?_
    refine x_iconst (v := 0) (q := 44) dX11_takesOne_43 rfl (by decide) ?_
    refine x_iast (q := 45) w28 (by omega) (ixI (show ((67 + nI P) : Int32) = nI (67 + P) from (nIs rfl rfl)) (by omega) (by decide)) dX11_takesOne_44 rfl (fun M44 w44 o44 => ?_)
    rw [ixC (show ((67 + nI P) : Int32) = nI (67 + P) from (nIs rfl rfl)) (by omega)] at w44
    refine x_aload_n (q := 46) dX11_takesOne_45 rfl rfl ?_
    have hv2_2_99 := ((o44 (99) (by omega)).trans hv1_1_99)
    refine x_getf (C := RX11) (T := TX11) (N := 29) (k := 0) (q := 49) hv2_2_99 (by omega) rfl hiX11 (by decide) (by decide +kernel) rfl dX11_takesOne_46 rfl ?_
    refine x_bipush (v := 61) (q := 51) dX11_takesOne_49 rfl (by decide) ?_
    refine x_dup2 (q := 52) dX11_takesOne_51 rfl rfl rfl ?_
    refine x_iald (q := 53) w44 (by omega) (ixI (show (61 : Int32) = nI 61 from rfl) (by omega) (by decide)) dX11_takesOne_52 rfl ?_
    rw [ixC (show (61 : Int32) = nI 61 from rfl) (by omega)]
    rw [show upd (upd w (62 + P) k) (67 + P) 0 61 = nI P by rw [upd_ne (by omega), upd_ne (by omega)]; exact hP0]
    refine x_iconst (v := 1) (q := 54) dX11_takesOne_53 rfl (by decide) ?_
    refine x_iadd (q := 55) dX11_takesOne_54 rfl ?_
    rw [nI_1]
    refine x_iast (q := 56) w44 (by omega) (ixI (show (61 : Int32) = nI 61 from rfl) (by omega) (by decide)) dX11_takesOne_55 rfl (fun M55 w55 o55 => ?_)
    rw [ixC (show (61 : Int32) = nI 61 from rfl) (by omega)] at w55
    refine x_iconst (v := 1) (q := 57) dX11_takesOne_56 rfl (by decide) ?_
    refine x_zret dX11_takesOne_57 rfl rfl rfl (Nat.le_refl _) ?_
    have hv3_3_99 := ((o55 (99) (by omega)).trans hv2_2_99)
    have hv3_4_103 := ((o55 (103) (by omega)).trans ((o44 (103) (by omega)).trans ((o28 (103) (by omega)).trans mp4)))
    exact ⟨Or.inl ⟨hP5, rfl, ⟨hv3_3_99, w55, hv3_4_103⟩⟩, (fun j h1 h2 => ((o55 j h2).trans ((o44 j h2).trans ((o28 j h2).trans rfl))))⟩
  · refine x_iconst (v := 0) (q := 12) dX11_takesOne_11 rfl (by decide) ?_
    refine x_zret dX11_takesOne_12 rfl rfl rfl (Nat.le_refl _) ?_
    exact ⟨Or.inr ⟨(nIne (b := 5) (by omega) (by decide)).mp c8, rfl, rfl⟩, fun j _ _ => rfl⟩

set_option maxHeartbeats 4000000 in
set_option maxRecDepth 100000 in
theorem c_m_tLikes {n N : Nat} {M : Nat → xE} {t : Nat → Nat → Int32} {u : Nat → Nat → Int64} {lt w : Nat → Int32} {s iw ib v c : Int32} {q P W G : Nat} (hn : 113 < n) (hN : N ≤ 160) (hq : q ≤ N) (hR : oR t u lt N w (nI q) s iw ib v c M) (hP : P ≤ 5) (hP0 : w 61 = nI P) : xMet mX11_takesLikes [.ref 99] n M (fun r M' => mrP t u lt N P W G w c (rdB lt N P 5 q) r M' ∧ (∀ j, ¬ j = 99 → ¬ j = 100 → M' j = M j)) := by
  have hR0 := hR
  obtain ⟨mp0, mp1, mp4⟩ := hR
  have hb := tkE_b lt hq
  have hb0 := tsp_b lt hq
  have hiX11 : ∀ w ∈ wsX110, w ∈ wsX11_takesLikes := by decide +kernel
  refine xMet.of _ (by decide) rfl (Nat.le_of_ble_eq_true rfl) ?_
  refine x_aload_n (q := 1) dX11_takesLikes_0 rfl rfl ?_
  refine x_iconst (v := 0) (q := 2) dX11_takesLikes_1 rfl (by decide) ?_
  refine x_aload_n (q := 3) dX11_takesLikes_2 rfl rfl ?_
  refine x_getf (C := RX11) (T := TX11) (N := 29) (k := 0) (q := 6) mp0 (by omega) rfl hiX11 (by decide) (by decide +kernel) rfl dX11_takesLikes_3 rfl ?_
  refine x_bipush (v := 61) (q := 8) dX11_takesLikes_6 rfl (by decide) ?_
  refine x_iald (q := 9) mp1 (by omega) (ixI (show (61 : Int32) = nI 61 from rfl) (by omega) (by decide)) dX11_takesLikes_8 rfl ?_
  rw [ixC (show (61 : Int32) = nI 61 from rfl) (by omega)]
  rw [hP0]
  refine x_iconst (v := 1) (q := 10) dX11_takesLikes_9 rfl (by decide) ?_
  refine x_isub (q := 11) dX11_takesLikes_10 rfl ?_
  refine x_callV (q := 14) (ci := 11) (c_m_takes hn hN hq ⟨mp0, mp1, mp4⟩ (lo := 0) (H := P) (by decide) rfl (by omega)) eX11_takesLikes_127 gX11_takesLikes_X11_takes mp0 (by omega) rfl rfl rfl (Nat.le_of_ble_eq_true rfl) ⟨Nat.le_refl _, Nat.le_refl _⟩ dX11_takesLikes_11 rfl rfl (fun r11 M11 p11 => ?_)
  obtain ⟨p11, fr11⟩ := p11; rcases p11 with ⟨v11, hv11, rfl, k11_0, k11_1, k11_4⟩ | ⟨hv11, rfl, vz11, k11_0, k11_1, k11_4⟩
  · have hs11 := num_some hv11
    have hq11 : tkE lt N (q) ≤ N := (tkE_b lt hq).2
    refine x_if_ne (t := 19) (q := 17) dX11_takesLikes_14 (by decide) rfl (fun c14 => ?_) (fun c14 => absurd c14 (by decide))
    refine x_aload_n (q := 20) dX11_takesLikes_19 rfl rfl ?_
    refine x_getf (C := RX11) (T := TX11) (N := 29) (k := 10) (q := 23) k11_0 (by omega) rfl hiX11 (by decide) (by decide +kernel) rfl dX11_takesLikes_20 rfl ?_
    refine x_istore_n (L' := fun x1_23 => [(1, .int x1_23), (0, .ref 99)]) (q := 24) dX11_takesLikes_23 rfl (by decide) (fun _ => rfl) (fun x1_23 ex1_23 => ?_)
    obtain rfl : x1_23 = nI v11 := ex1_23
    refine x_aload_n (q := 25) dX11_takesLikes_24 rfl rfl ?_
    refine x_iconst (v := 0) (q := 26) dX11_takesLikes_25 rfl (by decide) ?_
    refine x_aload_n (q := 27) dX11_takesLikes_26 rfl rfl ?_
    refine x_getf (C := RX11) (T := TX11) (N := 29) (k := 0) (q := 30) k11_0 (by omega) rfl hiX11 (by decide) (by decide +kernel) rfl dX11_takesLikes_27 rfl ?_
    refine x_bipush (v := 61) (q := 32) dX11_takesLikes_30 rfl (by decide) ?_
    refine x_iald (q := 33) k11_1 (by omega) (ixI (show (61 : Int32) = nI 61 from rfl) (by omega) (by decide)) dX11_takesLikes_32 rfl ?_
    rw [ixC (show (61 : Int32) = nI 61 from rfl) (by omega)]
    rw [hP0]
    refine x_iconst (v := 1) (q := 34) dX11_takesLikes_33 rfl (by decide) ?_
    refine x_isub (q := 35) dX11_takesLikes_34 rfl ?_
    refine x_callV (q := 38) (ci := 11) (c_m_takes hn hN hq11 ⟨k11_0, k11_1, k11_4⟩ (lo := 0) (H := P) (by decide) rfl (by omega)) eX11_takesLikes_127 gX11_takesLikes_X11_takes k11_0 (by omega) rfl rfl rfl (Nat.le_of_ble_eq_true rfl) ⟨Nat.le_refl _, Nat.le_refl _⟩ dX11_takesLikes_35 rfl rfl (fun r35 M35 p35 => ?_)
    obtain ⟨p35, fr35⟩ := p35; rcases p35 with ⟨v35, hv35, rfl, k35_0, k35_1, k35_4⟩ | ⟨hv35, rfl, vz35, k35_0, k35_1, k35_4⟩
    · have hs35 := num_some hv35
      have hq35 : tkE lt N (tkE lt N (q)) ≤ N := (tkE_b lt hq11).2
      refine x_if_eq (t := 49) (q := 41) dX11_takesLikes_38 (by decide) rfl (fun c38 => absurd c38 (by decide)) (fun c38 => ?_)
      refine x_aload_n (q := 42) dX11_takesLikes_41 rfl rfl ?_
      refine x_getf (C := RX11) (T := TX11) (N := 29) (k := 10) (q := 45) k35_0 (by omega) rfl hiX11 (by decide) (by decide +kernel) rfl dX11_takesLikes_42 rfl ?_
      refine x_iload_n (q := 46) dX11_takesLikes_45 rfl rfl ?_
      refine x_icmp_ne (t := 51) (q := 49) dX11_takesLikes_46 (by decide) rfl (fun c46 => ?_) (fun c46 => ?_)
      · refine x_aload_n (q := 52) dX11_takesLikes_51 rfl rfl ?_
        refine x_getf (C := RX11) (T := TX11) (N := 29) (k := 0) (q := 55) k35_0 (by omega) rfl hiX11 (by decide) (by decide +kernel) rfl dX11_takesLikes_52 rfl ?_
        refine x_bipush (v := 67) (q := 57) dX11_takesLikes_55 rfl (by decide) ?_
        refine x_iload_n (q := 58) dX11_takesLikes_57 rfl rfl ?_
        refine x_iadd (q := 59) dX11_takesLikes_58 rfl ?_
        refine x_dup2 (q := 60) dX11_takesLikes_59 rfl rfl rfl ?_
        refine x_iald (q := 61) k35_1 (by omega) (ixI (show ((67 + nI v11) : Int32) = nI (67 + v11) from (nIs rfl rfl)) (by omega) (by decide)) dX11_takesLikes_60 rfl ?_
        rw [ixC (show ((67 + nI v11) : Int32) = nI (67 + v11) from (nIs rfl rfl)) (by omega)]
        refine x_iconst (v := 1) (q := 62) dX11_takesLikes_61 rfl (by decide) ?_
        refine x_aload_n (q := 63) dX11_takesLikes_62 rfl rfl ?_
        refine x_getf (C := RX11) (T := TX11) (N := 29) (k := 10) (q := 66) k35_0 (by omega) rfl hiX11 (by decide) (by decide +kernel) rfl dX11_takesLikes_63 rfl ?_
        refine x_ishl (q := 67) dX11_takesLikes_66 rfl ?_
        refine x_ior (q := 68) dX11_takesLikes_67 rfl ?_
        refine x_iast (q := 69) k35_1 (by omega) (ixI (show ((67 + nI v11) : Int32) = nI (67 + v11) from (nIs rfl rfl)) (by omega) (by decide)) dX11_takesLikes_68 rfl (fun M68 w68 o68 => ?_)
        rw [ixC (show ((67 + nI v11) : Int32) = nI (67 + v11) from (nIs rfl rfl)) (by omega)] at w68
        refine x_iconst (v := 1) (q := 70) dX11_takesLikes_69 rfl (by decide) ?_
        refine x_zret dX11_takesLikes_70 rfl rfl rfl (Nat.le_refl _) ?_
        have hv3_1_99 := ((o68 (99) (by omega)).trans k35_0)
        have hv3_2_103 := ((o68 (103) (by omega)).trans k35_4)
        refine ⟨?_, (fun j h1 h2 => ((o68 j h2).trans ((fr35 j h1).trans ((fr11 j h1).trans rfl))))⟩
        show mrP t u lt N P W G w c (rdB lt N P 5 q) _ _
        unfold rdB
        rw [if_pos (by decide), nB_s hv11, nB_s hv35, if_neg (show ¬ v35 = v11 from fun h => c46 (by rw [h]))]
        exact ⟨rfl, hq35, _, _, _, _, ⟨hv3_1_99, w68, hv3_2_103⟩⟩
      · refine x_iconst (v := 0) (q := 50) dX11_takesLikes_49 rfl (by decide) ?_
        refine x_zret dX11_takesLikes_50 rfl rfl rfl (Nat.le_refl _) ?_
        refine ⟨?_, (fun j h1 h2 => ((fr35 j h1).trans ((fr11 j h1).trans rfl)))⟩
        show mrP t u lt N P W G w c (rdB lt N P 5 q) _ _
        unfold rdB
        rw [if_pos (by decide), nB_s hv11, nB_s hv35, if_pos (show v35 = v11 from (nIne (by omega) (by omega)).mp c46)]
        exact ⟨rfl, _, _, _, _, _, ⟨k35_0, k35_1, k35_4⟩, (fun k hk => by rfl)⟩
    · refine x_if_eq (t := 49) (q := 41) dX11_takesLikes_38 (by decide) rfl (fun c38 => ?_) (fun c38 => absurd c38 (by decide))
      refine x_iconst (v := 0) (q := 50) dX11_takesLikes_49 rfl (by decide) ?_
      refine x_zret dX11_takesLikes_50 rfl rfl rfl (Nat.le_refl _) ?_
      refine ⟨?_, (fun j h1 h2 => ((fr35 j h1).trans ((fr11 j h1).trans rfl)))⟩
      show mrP t u lt N P W G w c (rdB lt N P 5 q) _ _
      unfold rdB
      rw [if_pos (by decide), nB_s hv11, nB_n hv35]
      exact ⟨rfl, _, _, _, _, _, ⟨k35_0, k35_1, k35_4⟩, (fun k hk => by rfl)⟩
  · refine x_if_ne (t := 19) (q := 17) dX11_takesLikes_14 (by decide) rfl (fun c14 => absurd c14 (by decide)) (fun c14 => ?_)
    refine x_iconst (v := 0) (q := 18) dX11_takesLikes_17 rfl (by decide) ?_
    refine x_zret dX11_takesLikes_18 rfl rfl rfl (Nat.le_refl _) ?_
    refine ⟨?_, (fun j h1 h2 => ((fr11 j h1).trans rfl))⟩
    show mrP t u lt N P W G w c (rdB lt N P 5 q) _ _
    unfold rdB
    rw [if_pos (by decide), nB_n hv11]
    exact ⟨rfl, _, _, _, _, _, ⟨k11_0, k11_1, k11_4⟩, (fun k hk => by rfl)⟩

set_option maxHeartbeats 4000000 in
set_option maxRecDepth 100000 in
theorem c_m_tWork {n N : Nat} {M : Nat → xE} {t : Nat → Nat → Int32} {u : Nat → Nat → Int64} {lt w : Nat → Int32} {s iw ib v c : Int32} {q P W G : Nat} (hn : 113 < n) (hN : N ≤ 160) (hq : q ≤ N) (hR : oR t u lt N w (nI q) s iw ib v c M) (hW : W < 6) (hW0 : w 72 = nI W) : xMet mX11_takesWork [.ref 99] n M (fun r M' => mrP t u lt N P W G w c (rdB lt N P 6 q) r M' ∧ (∀ j, ¬ j = 99 → ¬ j = 100 → M' j = M j)) := by
  have hR0 := hR
  obtain ⟨mp0, mp1, mp4⟩ := hR
  have hb := tkE_b lt hq
  have hb0 := tsp_b lt hq
  have hiX11 : ∀ w ∈ wsX110, w ∈ wsX11_takesWork := by decide +kernel
  refine xMet.of _ (by decide) rfl (Nat.le_of_ble_eq_true rfl) ?_
  refine x_aload_n (q := 1) dX11_takesWork_0 rfl rfl ?_
  refine x_getf (C := RX11) (T := TX11) (N := 29) (k := 0) (q := 4) mp0 (by omega) rfl hiX11 (by decide) (by decide +kernel) rfl dX11_takesWork_1 rfl ?_
  refine x_bipush (v := 72) (q := 6) dX11_takesWork_4 rfl (by decide) ?_
  refine x_iald (q := 7) mp1 (by omega) (ixI (show (72 : Int32) = nI 72 from rfl) (by omega) (by decide)) dX11_takesWork_6 rfl ?_
  rw [ixC (show (72 : Int32) = nI 72 from rfl) (by omega)]
  rw [hW0]
  refine x_istore_n (L' := fun x1_7 => [(1, .int x1_7), (0, .ref 99)]) (q := 8) dX11_takesWork_7 rfl (by decide) (fun _ => rfl) (fun x1_7 ex1_7 => ?_)
  obtain rfl : x1_7 = nI W := ex1_7
  refine x_iload_n (q := 9) dX11_takesWork_8 rfl rfl ?_
  refine x_bipush (v := 6) (q := 11) dX11_takesWork_9 rfl (by decide) ?_
  refine x_icmp_eq (t := 23) (q := 14) dX11_takesWork_11 (by decide) rfl (fun c11 => absurd ((nIne (a := W) (b := 6) (by omega) (by decide)).mp c11) (by omega)) (fun c11 => ?_)
  refine x_aload_n (q := 15) dX11_takesWork_14 rfl rfl ?_
  refine x_iconst (v := 0) (q := 16) dX11_takesWork_15 rfl (by decide) ?_
  refine x_iconst (v := 2) (q := 17) dX11_takesWork_16 rfl (by decide) ?_
  refine x_callV (q := 20) (ci := 11) (c_m_takes hn hN hq ⟨mp0, mp1, mp4⟩ (lo := 0) (H := 3) (by decide) rfl (by decide)) eX11_takesWork_127 gX11_takesWork_X11_takes mp0 (by omega) rfl rfl rfl (Nat.le_of_ble_eq_true rfl) ⟨Nat.le_refl _, Nat.le_refl _⟩ dX11_takesWork_17 rfl rfl (fun r17 M17 p17 => ?_)
  obtain ⟨p17, fr17⟩ := p17; rcases p17 with ⟨v17, hv17, rfl, k17_0, k17_1, k17_4⟩ | ⟨hv17, rfl, vz17, k17_0, k17_1, k17_4⟩
  · have hs17 := num_some hv17
    have hq17 : tkE lt N (q) ≤ N := (tkE_b lt hq).2
    refine x_if_ne (t := 25) (q := 23) dX11_takesWork_20 (by decide) rfl (fun c20 => ?_) (fun c20 => absurd c20 (by decide))
    refine x_aload_n (q := 26) dX11_takesWork_25 rfl rfl ?_
    refine x_getf (C := RX11) (T := TX11) (N := 29) (k := 0) (q := 29) k17_0 (by omega) rfl hiX11 (by decide) (by decide +kernel) rfl dX11_takesWork_26 rfl ?_
    refine x_bipush (v := 73) (q := 31) dX11_takesWork_29 rfl (by decide) ?_
    refine x_iload_n (q := 32) dX11_takesWork_31 rfl rfl ?_
    refine x_iadd (q := 33) dX11_takesWork_32 rfl ?_
    refine x_aload_n (q := 34) dX11_takesWork_33 rfl rfl ?_
    refine x_getf (C := RX11) (T := TX11) (N := 29) (k := 10) (q := 37) k17_0 (by omega) rfl hiX11 (by decide) (by decide +kernel) rfl dX11_takesWork_34 rfl ?_
    refine x_iast (q := 38) k17_1 (by omega) (ixI (show ((73 + nI W) : Int32) = nI (73 + W) from (nIs rfl rfl)) (by omega) (by decide)) dX11_takesWork_37 rfl (fun M37 w37 o37 => ?_)
    rw [ixC (show ((73 + nI W) : Int32) = nI (73 + W) from (nIs rfl rfl)) (by omega)] at w37
    refine x_aload_n (q := 39) dX11_takesWork_38 rfl rfl ?_
    refine x_iconst (v := 1) (q := 40) dX11_takesWork_39 rfl (by decide) ?_
    refine x_bipush (v := 60) (q := 42) dX11_takesWork_40 rfl (by decide) ?_
    have hv2_1_99 := ((o37 (99) (by omega)).trans k17_0)
    have hv2_2_103 := ((o37 (103) (by omega)).trans k17_4)
    refine x_callV (q := 45) (ci := 11) (c_m_takes hn hN hq17 ⟨hv2_1_99, w37, hv2_2_103⟩ (lo := 1) (H := 61) (by decide) rfl (by decide)) eX11_takesWork_127 gX11_takesWork_X11_takes hv2_1_99 (by omega) rfl rfl rfl (Nat.le_of_ble_eq_true rfl) ⟨Nat.le_refl _, Nat.le_refl _⟩ dX11_takesWork_42 rfl rfl (fun r42 M42 p42 => ?_)
    obtain ⟨p42, fr42⟩ := p42; rcases p42 with ⟨v42, hv42, rfl, k42_0, k42_1, k42_4⟩ | ⟨hv42, rfl, vz42, k42_0, k42_1, k42_4⟩
    · have hs42 := num_some hv42
      have hq42 : tkE lt N (tkE lt N (q)) ≤ N := (tkE_b lt hq17).2
      refine x_if_ne (t := 50) (q := 48) dX11_takesWork_45 (by decide) rfl (fun c45 => ?_) (fun c45 => absurd c45 (by decide))
      refine x_aload_n (q := 51) dX11_takesWork_50 rfl rfl ?_
      refine x_getf (C := RX11) (T := TX11) (N := 29) (k := 0) (q := 54) k42_0 (by omega) rfl hiX11 (by decide) (by decide +kernel) rfl dX11_takesWork_51 rfl ?_
      refine x_bipush (v := 79) (q := 56) dX11_takesWork_54 rfl (by decide) ?_
      refine x_iload_n (q := 57) dX11_takesWork_56 rfl rfl ?_
      refine x_iadd (q := 58) dX11_takesWork_57 rfl ?_
      refine x_aload_n (q := 59) dX11_takesWork_58 rfl rfl ?_
      refine x_getf (C := RX11) (T := TX11) (N := 29) (k := 10) (q := 62) k42_0 (by omega) rfl hiX11 (by decide) (by decide +kernel) rfl dX11_takesWork_59 rfl ?_
      refine x_iast (q := 63) k42_1 (by omega) (ixI (show ((79 + nI W) : Int32) = nI (79 + W) from (nIs rfl rfl)) (by omega) (by decide)) dX11_takesWork_62 rfl (fun M62 w62 o62 => ?_)
      rw [ixC (show ((79 + nI W) : Int32) = nI (79 + W) from (nIs rfl rfl)) (by omega)] at w62
      refine x_aload_n (q := 64) dX11_takesWork_63 rfl rfl ?_
      refine x_iconst (v := 1) (q := 65) dX11_takesWork_64 rfl (by decide) ?_
      refine x_bipush (v := 9) (q := 67) dX11_takesWork_65 rfl (by decide) ?_
      have hv4_3_99 := ((o62 (99) (by omega)).trans k42_0)
      have hv4_4_103 := ((o62 (103) (by omega)).trans k42_4)
      refine x_callV (q := 70) (ci := 11) (c_m_takes hn hN hq42 ⟨hv4_3_99, w62, hv4_4_103⟩ (lo := 1) (H := 10) (by decide) rfl (by decide)) eX11_takesWork_127 gX11_takesWork_X11_takes hv4_3_99 (by omega) rfl rfl rfl (Nat.le_of_ble_eq_true rfl) ⟨Nat.le_refl _, Nat.le_refl _⟩ dX11_takesWork_67 rfl rfl (fun r67 M67 p67 => ?_)
      obtain ⟨p67, fr67⟩ := p67; rcases p67 with ⟨v67, hv67, rfl, k67_0, k67_1, k67_4⟩ | ⟨hv67, rfl, vz67, k67_0, k67_1, k67_4⟩
      · have hs67 := num_some hv67
        have hq67 : tkE lt N (tkE lt N (tkE lt N (q))) ≤ N := (tkE_b lt hq42).2
        refine x_if_ne (t := 75) (q := 73) dX11_takesWork_70 (by decide) rfl (fun c70 => ?_) (fun c70 => absurd c70 (by decide))
        refine x_aload_n (q := 76) dX11_takesWork_75 rfl rfl ?_
        refine x_getf (C := RX11) (T := TX11) (N := 29) (k := 0) (q := 79) k67_0 (by omega) rfl hiX11 (by decide) (by decide +kernel) rfl dX11_takesWork_76 rfl ?_
        refine x_bipush (v := 85) (q := 81) dX11_takesWork_79 rfl (by decide) ?_
        refine x_iload_n (q := 82) dX11_takesWork_81 rfl rfl ?_
        refine x_iadd (q := 83) dX11_takesWork_82 rfl ?_
        refine x_aload_n (q := 84) dX11_takesWork_83 rfl rfl ?_
        refine x_getf (C := RX11) (T := TX11) (N := 29) (k := 10) (q := 87) k67_0 (by omega) rfl hiX11 (by decide) (by decide +kernel) rfl dX11_takesWork_84 rfl ?_
        refine x_iast (q := 88) k67_1 (by omega) (ixI (show ((85 + nI W) : Int32) = nI (85 + W) from (nIs rfl rfl)) (by omega) (by decide)) dX11_takesWork_87 rfl (fun M87 w87 o87 => ?_)
        rw [ixC (show ((85 + nI W) : Int32) = nI (85 + W) from (nIs rfl rfl)) (by omega)] at w87
        refine x_aload_n (q := 89) dX11_takesWork_88 rfl rfl ?_
        refine x_iconst (v := 0) (q := 90) dX11_takesWork_89 rfl (by decide) ?_
        refine x_bipush (v := 50) (q := 92) dX11_takesWork_90 rfl (by decide) ?_
        have hv6_5_99 := ((o87 (99) (by omega)).trans k67_0)
        have hv6_6_103 := ((o87 (103) (by omega)).trans k67_4)
        refine x_callV (q := 95) (ci := 11) (c_m_takes hn hN hq67 ⟨hv6_5_99, w87, hv6_6_103⟩ (lo := 0) (H := 51) (by decide) rfl (by decide)) eX11_takesWork_127 gX11_takesWork_X11_takes hv6_5_99 (by omega) rfl rfl rfl (Nat.le_of_ble_eq_true rfl) ⟨Nat.le_refl _, Nat.le_refl _⟩ dX11_takesWork_92 rfl rfl (fun r92 M92 p92 => ?_)
        obtain ⟨p92, fr92⟩ := p92; rcases p92 with ⟨v92, hv92, rfl, k92_0, k92_1, k92_4⟩ | ⟨hv92, rfl, vz92, k92_0, k92_1, k92_4⟩
        · have hs92 := num_some hv92
          have hq92 : tkE lt N (tkE lt N (tkE lt N (tkE lt N (q)))) ≤ N := (tkE_b lt hq67).2
          refine x_if_ne (t := 100) (q := 98) dX11_takesWork_95 (by decide) rfl (fun c95 => ?_) (fun c95 => absurd c95 (by decide))
          refine x_aload_n (q := 101) dX11_takesWork_100 rfl rfl ?_
          refine x_getf (C := RX11) (T := TX11) (N := 29) (k := 0) (q := 104) k92_0 (by omega) rfl hiX11 (by decide) (by decide +kernel) rfl dX11_takesWork_101 rfl ?_
          refine x_bipush (v := 91) (q := 106) dX11_takesWork_104 rfl (by decide) ?_
          refine x_iload_n (q := 107) dX11_takesWork_106 rfl rfl ?_
          refine x_iadd (q := 108) dX11_takesWork_107 rfl ?_
          refine x_aload_n (q := 109) dX11_takesWork_108 rfl rfl ?_
          refine x_getf (C := RX11) (T := TX11) (N := 29) (k := 10) (q := 112) k92_0 (by omega) rfl hiX11 (by decide) (by decide +kernel) rfl dX11_takesWork_109 rfl ?_
          refine x_iast (q := 113) k92_1 (by omega) (ixI (show ((91 + nI W) : Int32) = nI (91 + W) from (nIs rfl rfl)) (by omega) (by decide)) dX11_takesWork_112 rfl (fun M112 w112 o112 => ?_)
          rw [ixC (show ((91 + nI W) : Int32) = nI (91 + W) from (nIs rfl rfl)) (by omega)] at w112
          refine x_aload_n (q := 114) dX11_takesWork_113 rfl rfl ?_
          have hv8_7_99 := ((o112 (99) (by omega)).trans k92_0)
          refine x_getf (C := RX11) (T := TX11) (N := 29) (k := 0) (q := 117) hv8_7_99 (by omega) rfl hiX11 (by decide) (by decide +kernel) rfl dX11_takesWork_114 rfl ?_
          refine x_bipush (v := 72) (q := 119) dX11_takesWork_117 rfl (by decide) ?_
          refine x_dup2 (q := 120) dX11_takesWork_119 rfl rfl rfl ?_
          refine x_iald (q := 121) w112 (by omega) (ixI (show (72 : Int32) = nI 72 from rfl) (by omega) (by decide)) dX11_takesWork_120 rfl ?_
          rw [ixC (show (72 : Int32) = nI 72 from rfl) (by omega)]
          rw [show (upd (upd (upd (upd w (73 + W) (nI v17)) (79 + W) (nI v42)) (85 + W) (nI v67)) (91 + W) (nI v92)) 72 = nI W by rw [upd_ne (by omega), upd_ne (by omega), upd_ne (by omega), upd_ne (by omega)]; exact hW0]
          refine x_iconst (v := 1) (q := 122) dX11_takesWork_121 rfl (by decide) ?_
          refine x_iadd (q := 123) dX11_takesWork_122 rfl ?_
          rw [nI_1]
          refine x_iast (q := 124) w112 (by omega) (ixI (show (72 : Int32) = nI 72 from rfl) (by omega) (by decide)) dX11_takesWork_123 rfl (fun M123 w123 o123 => ?_)
          rw [ixC (show (72 : Int32) = nI 72 from rfl) (by omega)] at w123
          refine x_iconst (v := 1) (q := 125) dX11_takesWork_124 rfl (by decide) ?_
          refine x_zret dX11_takesWork_125 rfl rfl rfl (Nat.le_refl _) ?_
          have hv9_8_99 := ((o123 (99) (by omega)).trans hv8_7_99)
          have hv9_9_103 := ((o123 (103) (by omega)).trans ((o112 (103) (by omega)).trans k92_4))
          refine ⟨?_, (fun j h1 h2 => ((o123 j h2).trans ((o112 j h2).trans ((fr92 j h1).trans ((o87 j h2).trans ((fr67 j h1).trans ((o62 j h2).trans ((fr42 j h1).trans ((o37 j h2).trans ((fr17 j h1).trans rfl))))))))))⟩
          show mrP t u lt N P W G w c (rdB lt N P 6 q) _ _
          unfold rdB
          rw [if_neg (by decide), if_pos (by decide), nB_s hv17, nB_s hv42, nB_s hv67, nB_s hv92]
          exact ⟨rfl, hq92, _, _, _, _, ⟨hv9_8_99, w123, hv9_9_103⟩⟩
        · refine x_if_ne (t := 100) (q := 98) dX11_takesWork_95 (by decide) rfl (fun c95 => absurd c95 (by decide)) (fun c95 => ?_)
          refine x_iconst (v := 0) (q := 99) dX11_takesWork_98 rfl (by decide) ?_
          refine x_zret dX11_takesWork_99 rfl rfl rfl (Nat.le_refl _) ?_
          refine ⟨?_, (fun j h1 h2 => ((fr92 j h1).trans ((o87 j h2).trans ((fr67 j h1).trans ((o62 j h2).trans ((fr42 j h1).trans ((o37 j h2).trans ((fr17 j h1).trans rfl))))))))⟩
          show mrP t u lt N P W G w c (rdB lt N P 6 q) _ _
          unfold rdB
          rw [if_neg (by decide), if_pos (by decide), nB_s hv17, nB_s hv42, nB_s hv67, nB_n hv92]
          exact ⟨rfl, _, _, _, _, _, ⟨k92_0, k92_1, k92_4⟩, (fun k hk => by rw [upd_ne (by omega), upd_ne (by omega), upd_ne (by omega)])⟩
      · refine x_if_ne (t := 75) (q := 73) dX11_takesWork_70 (by decide) rfl (fun c70 => absurd c70 (by decide)) (fun c70 => ?_)
        refine x_iconst (v := 0) (q := 74) dX11_takesWork_73 rfl (by decide) ?_
        refine x_zret dX11_takesWork_74 rfl rfl rfl (Nat.le_refl _) ?_
        refine ⟨?_, (fun j h1 h2 => ((fr67 j h1).trans ((o62 j h2).trans ((fr42 j h1).trans ((o37 j h2).trans ((fr17 j h1).trans rfl))))))⟩
        show mrP t u lt N P W G w c (rdB lt N P 6 q) _ _
        unfold rdB
        rw [if_neg (by decide), if_pos (by decide), nB_s hv17, nB_s hv42, nB_n hv67]
        exact ⟨rfl, _, _, _, _, _, ⟨k67_0, k67_1, k67_4⟩, (fun k hk => by rw [upd_ne (by omega), upd_ne (by omega)])⟩
    · refine x_if_ne (t := 50) (q := 48) dX11_takesWork_45 (by decide) rfl (fun c45 => absurd c45 (by decide)) (fun c45 => ?_)
      refine x_iconst (v := 0) (q := 49) dX11_takesWork_48 rfl (by decide) ?_
      refine x_zret dX11_takesWork_49 rfl rfl rfl (Nat.le_refl _) ?_
      refine ⟨?_, (fun j h1 h2 => ((fr42 j h1).trans ((o37 j h2).trans ((fr17 j h1).trans rfl))))⟩
      show mrP t u lt N P W G w c (rdB lt N P 6 q) _ _
      unfold rdB
      rw [if_neg (by decide), if_pos (by decide), nB_s hv17, nB_n hv42]
      exact ⟨rfl, _, _, _, _, _, ⟨k42_0, k42_1, k42_4⟩, (fun k hk => by rw [upd_ne (by omega)])⟩
  · refine x_if_ne (t := 25) (q := 23) dX11_takesWork_20 (by decide) rfl (fun c20 => absurd c20 (by decide)) (fun c20 => ?_)
    refine x_iconst (v := 0) (q := 24) dX11_takesWork_23 rfl (by decide) ?_
    refine x_zret dX11_takesWork_24 rfl rfl rfl (Nat.le_refl _) ?_
    refine ⟨?_, (fun j h1 h2 => ((fr17 j h1).trans rfl))⟩
    show mrP t u lt N P W G w c (rdB lt N P 6 q) _ _
    unfold rdB
    rw [if_neg (by decide), if_pos (by decide), nB_n hv17]
    exact ⟨rfl, _, _, _, _, _, ⟨k17_0, k17_1, k17_4⟩, (fun k hk => by rfl)⟩

set_option maxHeartbeats 4000000 in
set_option maxRecDepth 100000 in
theorem c_m_tWork6 {n N : Nat} {M : Nat → xE} {t : Nat → Nat → Int32} {u : Nat → Nat → Int64} {lt w : Nat → Int32} {s iw ib v c : Int32} {a : Int32} (hn : 113 < n) (hN : N ≤ 160) (hR : oR t u lt N w a s iw ib v c M) (hW0 : w 72 = nI 6) : xMet mX11_takesWork [.ref 99] n M (fun r M' => M = M' ∧ some (.int (0)) = r) := by
  have hR0 := hR
  obtain ⟨mp0, mp1, mp4⟩ := hR
  have hiX11 : ∀ w ∈ wsX110, w ∈ wsX11_takesWork := by decide +kernel
  refine xMet.of _ (by decide) rfl (Nat.le_of_ble_eq_true rfl) ?_
  refine x_aload_n (q := 1) dX11_takesWork_0 rfl rfl ?_
  refine x_getf (C := RX11) (T := TX11) (N := 29) (k := 0) (q := 4) mp0 (by omega) rfl hiX11 (by decide) (by decide +kernel) rfl dX11_takesWork_1 rfl ?_
  refine x_bipush (v := 72) (q := 6) dX11_takesWork_4 rfl (by decide) ?_
  refine x_iald (q := 7) mp1 (by omega) (ixI (show (72 : Int32) = nI 72 from rfl) (by omega) (by decide)) dX11_takesWork_6 rfl ?_
  rw [ixC (show (72 : Int32) = nI 72 from rfl) (by omega)]
  rw [hW0]
  refine x_istore_n (L' := fun x1_7 => [(1, .int x1_7), (0, .ref 99)]) (q := 8) dX11_takesWork_7 rfl (by decide) (fun _ => rfl) (fun x1_7 ex1_7 => ?_)
  obtain rfl : x1_7 = nI 6 := ex1_7
  refine x_iload_n (q := 9) dX11_takesWork_8 rfl rfl ?_
  refine x_bipush (v := 6) (q := 11) dX11_takesWork_9 rfl (by decide) ?_
  refine x_icmp_eq (t := 23) (q := 14) dX11_takesWork_11 (by decide) rfl (fun c11 => ?_) (fun c11 => absurd rfl c11)
  refine x_iconst (v := 0) (q := 24) dX11_takesWork_23 rfl (by decide) ?_
  refine x_zret dX11_takesWork_24 rfl rfl rfl (Nat.le_refl _) ?_
  exact ⟨rfl, rfl⟩

set_option maxHeartbeats 4000000 in
set_option maxRecDepth 100000 in
theorem c_m_tGrow {n N : Nat} {M : Nat → xE} {t : Nat → Nat → Int32} {u : Nat → Nat → Int64} {lt w : Nat → Int32} {s iw ib v c : Int32} {q P W G : Nat} (hn : 113 < n) (hN : N ≤ 160) (hq : q ≤ N) (hR : oR t u lt N w (nI q) s iw ib v c M) (hG : G < 5) (hG0 : w 98 = nI G) : xMet mX11_takesGood [.ref 99, .int 1] n M (fun r M' => mrP t u lt N P W G w c (rdB lt N P 7 q) r M' ∧ (∀ j, ¬ j = 99 → ¬ j = 100 → M' j = M j)) := by
  have hR0 := hR
  obtain ⟨mp0, mp1, mp4⟩ := hR
  have hb := tkE_b lt hq
  have hb0 := tsp_b lt hq
  have hiX11 : ∀ w ∈ wsX110, w ∈ wsX11_takesGood := by decide +kernel
  refine xMet.of _ (by decide) rfl (Nat.le_of_ble_eq_true rfl) ?_
  refine x_aload_n (q := 1) dX11_takesGood_0 rfl rfl ?_
  refine x_getf (C := RX11) (T := TX11) (N := 29) (k := 0) (q := 4) mp0 (by omega) rfl hiX11 (by decide) (by decide +kernel) rfl dX11_takesGood_1 rfl ?_
  refine x_bipush (v := 98) (q := 6) dX11_takesGood_4 rfl (by decide) ?_
  refine x_iald (q := 7) mp1 (by omega) (ixI (show (98 : Int32) = nI 98 from rfl) (by omega) (by decide)) dX11_takesGood_6 rfl ?_
  rw [ixC (show (98 : Int32) = nI 98 from rfl) (by omega)]
  rw [hG0]
  refine x_istore_n (L' := fun x2_7 => [(2, .int x2_7), (0, .ref 99), (1, .int 1)]) (q := 8) dX11_takesGood_7 rfl (by decide) (fun _ => rfl) (fun x2_7 ex2_7 => ?_)
  obtain rfl : x2_7 = nI G := ex2_7
  refine x_iload_n (q := 9) dX11_takesGood_8 rfl rfl ?_
  refine x_iconst (v := 5) (q := 10) dX11_takesGood_9 rfl (by decide) ?_
  refine x_icmp_eq (t := 23) (q := 13) dX11_takesGood_10 (by decide) rfl (fun c10 => absurd ((nIne (a := G) (b := 5) (by omega) (by decide)).mp c10) (by omega)) (fun c10 => ?_)
  refine x_aload_n (q := 14) dX11_takesGood_13 rfl rfl ?_
  refine x_iconst (v := 0) (q := 15) dX11_takesGood_14 rfl (by decide) ?_
  refine x_bipush (v := 99) (q := 17) dX11_takesGood_15 rfl (by decide) ?_
  refine x_callV (q := 20) (ci := 11) (c_m_takes hn hN hq ⟨mp0, mp1, mp4⟩ (lo := 0) (H := 100) (by decide) rfl (by decide)) eX11_takesGood_127 gX11_takesGood_X11_takes mp0 (by omega) rfl rfl rfl (Nat.le_of_ble_eq_true rfl) ⟨Nat.le_refl _, Nat.le_refl _⟩ dX11_takesGood_17 rfl rfl (fun r17 M17 p17 => ?_)
  obtain ⟨p17, fr17⟩ := p17; rcases p17 with ⟨v17, hv17, rfl, k17_0, k17_1, k17_4⟩ | ⟨hv17, rfl, vz17, k17_0, k17_1, k17_4⟩
  · have hs17 := num_some hv17
    have hq17 : tkE lt N (q) ≤ N := (tkE_b lt hq).2
    refine x_if_ne (t := 25) (q := 23) dX11_takesGood_20 (by decide) rfl (fun c20 => ?_) (fun c20 => absurd c20 (by decide))
    refine x_aload_n (q := 26) dX11_takesGood_25 rfl rfl ?_
    refine x_getf (C := RX11) (T := TX11) (N := 29) (k := 0) (q := 29) k17_0 (by omega) rfl hiX11 (by decide) (by decide +kernel) rfl dX11_takesGood_26 rfl ?_
    refine x_bipush (v := 99) (q := 31) dX11_takesGood_29 rfl (by decide) ?_
    refine x_iload_n (q := 32) dX11_takesGood_31 rfl rfl ?_
    refine x_iadd (q := 33) dX11_takesGood_32 rfl ?_
    refine x_aload_n (q := 34) dX11_takesGood_33 rfl rfl ?_
    refine x_getf (C := RX11) (T := TX11) (N := 29) (k := 10) (q := 37) k17_0 (by omega) rfl hiX11 (by decide) (by decide +kernel) rfl dX11_takesGood_34 rfl ?_
    refine x_iast (q := 38) k17_1 (by omega) (ixI (show ((99 + nI G) : Int32) = nI (99 + G) from (nIs rfl rfl)) (by omega) (by decide)) dX11_takesGood_37 rfl (fun M37 w37 o37 => ?_)
    rw [ixC (show ((99 + nI G) : Int32) = nI (99 + G) from (nIs rfl rfl)) (by omega)] at w37
    refine x_aload_n (q := 39) dX11_takesGood_38 rfl rfl ?_
    refine x_iconst (v := 0) (q := 40) dX11_takesGood_39 rfl (by decide) ?_
    refine x_bipush (v := 9) (q := 42) dX11_takesGood_40 rfl (by decide) ?_
    have hv2_1_99 := ((o37 (99) (by omega)).trans k17_0)
    have hv2_2_103 := ((o37 (103) (by omega)).trans k17_4)
    refine x_callV (q := 45) (ci := 11) (c_m_takes hn hN hq17 ⟨hv2_1_99, w37, hv2_2_103⟩ (lo := 0) (H := 10) (by decide) rfl (by decide)) eX11_takesGood_127 gX11_takesGood_X11_takes hv2_1_99 (by omega) rfl rfl rfl (Nat.le_of_ble_eq_true rfl) ⟨Nat.le_refl _, Nat.le_refl _⟩ dX11_takesGood_42 rfl rfl (fun r42 M42 p42 => ?_)
    obtain ⟨p42, fr42⟩ := p42; rcases p42 with ⟨v42, hv42, rfl, k42_0, k42_1, k42_4⟩ | ⟨hv42, rfl, vz42, k42_0, k42_1, k42_4⟩
    · have hs42 := num_some hv42
      have hq42 : tkE lt N (tkE lt N (q)) ≤ N := (tkE_b lt hq17).2
      refine x_if_ne (t := 50) (q := 48) dX11_takesGood_45 (by decide) rfl (fun c45 => ?_) (fun c45 => absurd c45 (by decide))
      refine x_aload_n (q := 51) dX11_takesGood_50 rfl rfl ?_
      refine x_getf (C := RX11) (T := TX11) (N := 29) (k := 0) (q := 54) k42_0 (by omega) rfl hiX11 (by decide) (by decide +kernel) rfl dX11_takesGood_51 rfl ?_
      refine x_bipush (v := 104) (q := 56) dX11_takesGood_54 rfl (by decide) ?_
      refine x_iload_n (q := 57) dX11_takesGood_56 rfl rfl ?_
      refine x_iadd (q := 58) dX11_takesGood_57 rfl ?_
      refine x_aload_n (q := 59) dX11_takesGood_58 rfl rfl ?_
      refine x_getf (C := RX11) (T := TX11) (N := 29) (k := 10) (q := 62) k42_0 (by omega) rfl hiX11 (by decide) (by decide +kernel) rfl dX11_takesGood_59 rfl ?_
      refine x_iast (q := 63) k42_1 (by omega) (ixI (show ((104 + nI G) : Int32) = nI (104 + G) from (nIs rfl rfl)) (by omega) (by decide)) dX11_takesGood_62 rfl (fun M62 w62 o62 => ?_)
      rw [ixC (show ((104 + nI G) : Int32) = nI (104 + G) from (nIs rfl rfl)) (by omega)] at w62
      refine x_aload_n (q := 64) dX11_takesGood_63 rfl rfl ?_
      have hv4_3_99 := ((o62 (99) (by omega)).trans k42_0)
      refine x_getf (C := RX11) (T := TX11) (N := 29) (k := 0) (q := 67) hv4_3_99 (by omega) rfl hiX11 (by decide) (by decide +kernel) rfl dX11_takesGood_64 rfl ?_
      refine x_bipush (v := 109) (q := 69) dX11_takesGood_67 rfl (by decide) ?_
      refine x_iload_n (q := 70) dX11_takesGood_69 rfl rfl ?_
      refine x_iadd (q := 71) dX11_takesGood_70 rfl ?_
      refine x_iload_n (q := 72) dX11_takesGood_71 rfl rfl ?_
      refine x_iast (q := 73) w62 (by omega) (ixI (show ((109 + nI G) : Int32) = nI (109 + G) from (nIs rfl rfl)) (by omega) (by decide)) dX11_takesGood_72 rfl (fun M72 w72 o72 => ?_)
      rw [ixC (show ((109 + nI G) : Int32) = nI (109 + G) from (nIs rfl rfl)) (by omega)] at w72
      refine x_aload_n (q := 74) dX11_takesGood_73 rfl rfl ?_
      have hv5_4_99 := ((o72 (99) (by omega)).trans hv4_3_99)
      refine x_getf (C := RX11) (T := TX11) (N := 29) (k := 0) (q := 77) hv5_4_99 (by omega) rfl hiX11 (by decide) (by decide +kernel) rfl dX11_takesGood_74 rfl ?_
      refine x_bipush (v := 98) (q := 79) dX11_takesGood_77 rfl (by decide) ?_
      refine x_dup2 (q := 80) dX11_takesGood_79 rfl rfl rfl ?_
      refine x_iald (q := 81) w72 (by omega) (ixI (show (98 : Int32) = nI 98 from rfl) (by omega) (by decide)) dX11_takesGood_80 rfl ?_
      rw [ixC (show (98 : Int32) = nI 98 from rfl) (by omega)]
      rw [show (upd (upd (upd w (99 + G) (nI v17)) (104 + G) (nI v42)) (109 + G) 1) 98 = nI G by rw [upd_ne (by omega), upd_ne (by omega), upd_ne (by omega)]; exact hG0]
      refine x_iconst (v := 1) (q := 82) dX11_takesGood_81 rfl (by decide) ?_
      refine x_iadd (q := 83) dX11_takesGood_82 rfl ?_
      rw [nI_1]
      refine x_iast (q := 84) w72 (by omega) (ixI (show (98 : Int32) = nI 98 from rfl) (by omega) (by decide)) dX11_takesGood_83 rfl (fun M83 w83 o83 => ?_)
      rw [ixC (show (98 : Int32) = nI 98 from rfl) (by omega)] at w83
      refine x_iconst (v := 1) (q := 85) dX11_takesGood_84 rfl (by decide) ?_
      refine x_zret dX11_takesGood_85 rfl rfl rfl (Nat.le_refl _) ?_
      have hv6_5_99 := ((o83 (99) (by omega)).trans hv5_4_99)
      have hv6_6_103 := ((o83 (103) (by omega)).trans ((o72 (103) (by omega)).trans ((o62 (103) (by omega)).trans k42_4)))
      refine ⟨?_, (fun j h1 h2 => ((o83 j h2).trans ((o72 j h2).trans ((o62 j h2).trans ((fr42 j h1).trans ((o37 j h2).trans ((fr17 j h1).trans rfl)))))))⟩
      show mrP t u lt N P W G w c (rdB lt N P 7 q) _ _
      unfold rdB
      rw [if_neg (by decide), if_neg (by decide), if_pos (by decide), nB_s hv17, nB_s hv42]
      exact ⟨rfl, hq42, _, _, _, _, ⟨hv6_5_99, w83, hv6_6_103⟩⟩
    · refine x_if_ne (t := 50) (q := 48) dX11_takesGood_45 (by decide) rfl (fun c45 => absurd c45 (by decide)) (fun c45 => ?_)
      refine x_iconst (v := 0) (q := 49) dX11_takesGood_48 rfl (by decide) ?_
      refine x_zret dX11_takesGood_49 rfl rfl rfl (Nat.le_refl _) ?_
      refine ⟨?_, (fun j h1 h2 => ((fr42 j h1).trans ((o37 j h2).trans ((fr17 j h1).trans rfl))))⟩
      show mrP t u lt N P W G w c (rdB lt N P 7 q) _ _
      unfold rdB
      rw [if_neg (by decide), if_neg (by decide), if_pos (by decide), nB_s hv17, nB_n hv42]
      exact ⟨rfl, _, _, _, _, _, ⟨k42_0, k42_1, k42_4⟩, (fun k hk => by rw [upd_ne (by omega)])⟩
  · refine x_if_ne (t := 25) (q := 23) dX11_takesGood_20 (by decide) rfl (fun c20 => absurd c20 (by decide)) (fun c20 => ?_)
    refine x_iconst (v := 0) (q := 24) dX11_takesGood_23 rfl (by decide) ?_
    refine x_zret dX11_takesGood_24 rfl rfl rfl (Nat.le_refl _) ?_
    refine ⟨?_, (fun j h1 h2 => ((fr17 j h1).trans rfl))⟩
    show mrP t u lt N P W G w c (rdB lt N P 7 q) _ _
    unfold rdB
    rw [if_neg (by decide), if_neg (by decide), if_pos (by decide), nB_n hv17]
    exact ⟨rfl, _, _, _, _, _, ⟨k17_0, k17_1, k17_4⟩, (fun k hk => by rfl)⟩

set_option maxHeartbeats 4000000 in
set_option maxRecDepth 100000 in
theorem c_m_tWither {n N : Nat} {M : Nat → xE} {t : Nat → Nat → Int32} {u : Nat → Nat → Int64} {lt w : Nat → Int32} {s iw ib v c : Int32} {q P W G : Nat} (hn : 113 < n) (hN : N ≤ 160) (hq : q ≤ N) (hR : oR t u lt N w (nI q) s iw ib v c M) (hG : G < 5) (hG0 : w 98 = nI G) : xMet mX11_takesGood [.ref 99, .int 2] n M (fun r M' => mrP t u lt N P W G w c (rdB lt N P 8 q) r M' ∧ (∀ j, ¬ j = 99 → ¬ j = 100 → M' j = M j)) := by
  have hR0 := hR
  obtain ⟨mp0, mp1, mp4⟩ := hR
  have hb := tkE_b lt hq
  have hb0 := tsp_b lt hq
  have hiX11 : ∀ w ∈ wsX110, w ∈ wsX11_takesGood := by decide +kernel
  refine xMet.of _ (by decide) rfl (Nat.le_of_ble_eq_true rfl) ?_
  refine x_aload_n (q := 1) dX11_takesGood_0 rfl rfl ?_
  refine x_getf (C := RX11) (T := TX11) (N := 29) (k := 0) (q := 4) mp0 (by omega) rfl hiX11 (by decide) (by decide +kernel) rfl dX11_takesGood_1 rfl ?_
  refine x_bipush (v := 98) (q := 6) dX11_takesGood_4 rfl (by decide) ?_
  refine x_iald (q := 7) mp1 (by omega) (ixI (show (98 : Int32) = nI 98 from rfl) (by omega) (by decide)) dX11_takesGood_6 rfl ?_
  rw [ixC (show (98 : Int32) = nI 98 from rfl) (by omega)]
  rw [hG0]
  refine x_istore_n (L' := fun x2_7 => [(2, .int x2_7), (0, .ref 99), (1, .int 2)]) (q := 8) dX11_takesGood_7 rfl (by decide) (fun _ => rfl) (fun x2_7 ex2_7 => ?_)
  obtain rfl : x2_7 = nI G := ex2_7
  refine x_iload_n (q := 9) dX11_takesGood_8 rfl rfl ?_
  refine x_iconst (v := 5) (q := 10) dX11_takesGood_9 rfl (by decide) ?_
  refine x_icmp_eq (t := 23) (q := 13) dX11_takesGood_10 (by decide) rfl (fun c10 => absurd ((nIne (a := G) (b := 5) (by omega) (by decide)).mp c10) (by omega)) (fun c10 => ?_)
  refine x_aload_n (q := 14) dX11_takesGood_13 rfl rfl ?_
  refine x_iconst (v := 0) (q := 15) dX11_takesGood_14 rfl (by decide) ?_
  refine x_bipush (v := 99) (q := 17) dX11_takesGood_15 rfl (by decide) ?_
  refine x_callV (q := 20) (ci := 11) (c_m_takes hn hN hq ⟨mp0, mp1, mp4⟩ (lo := 0) (H := 100) (by decide) rfl (by decide)) eX11_takesGood_127 gX11_takesGood_X11_takes mp0 (by omega) rfl rfl rfl (Nat.le_of_ble_eq_true rfl) ⟨Nat.le_refl _, Nat.le_refl _⟩ dX11_takesGood_17 rfl rfl (fun r17 M17 p17 => ?_)
  obtain ⟨p17, fr17⟩ := p17; rcases p17 with ⟨v17, hv17, rfl, k17_0, k17_1, k17_4⟩ | ⟨hv17, rfl, vz17, k17_0, k17_1, k17_4⟩
  · have hs17 := num_some hv17
    have hq17 : tkE lt N (q) ≤ N := (tkE_b lt hq).2
    refine x_if_ne (t := 25) (q := 23) dX11_takesGood_20 (by decide) rfl (fun c20 => ?_) (fun c20 => absurd c20 (by decide))
    refine x_aload_n (q := 26) dX11_takesGood_25 rfl rfl ?_
    refine x_getf (C := RX11) (T := TX11) (N := 29) (k := 0) (q := 29) k17_0 (by omega) rfl hiX11 (by decide) (by decide +kernel) rfl dX11_takesGood_26 rfl ?_
    refine x_bipush (v := 99) (q := 31) dX11_takesGood_29 rfl (by decide) ?_
    refine x_iload_n (q := 32) dX11_takesGood_31 rfl rfl ?_
    refine x_iadd (q := 33) dX11_takesGood_32 rfl ?_
    refine x_aload_n (q := 34) dX11_takesGood_33 rfl rfl ?_
    refine x_getf (C := RX11) (T := TX11) (N := 29) (k := 10) (q := 37) k17_0 (by omega) rfl hiX11 (by decide) (by decide +kernel) rfl dX11_takesGood_34 rfl ?_
    refine x_iast (q := 38) k17_1 (by omega) (ixI (show ((99 + nI G) : Int32) = nI (99 + G) from (nIs rfl rfl)) (by omega) (by decide)) dX11_takesGood_37 rfl (fun M37 w37 o37 => ?_)
    rw [ixC (show ((99 + nI G) : Int32) = nI (99 + G) from (nIs rfl rfl)) (by omega)] at w37
    refine x_aload_n (q := 39) dX11_takesGood_38 rfl rfl ?_
    refine x_iconst (v := 0) (q := 40) dX11_takesGood_39 rfl (by decide) ?_
    refine x_bipush (v := 9) (q := 42) dX11_takesGood_40 rfl (by decide) ?_
    have hv2_1_99 := ((o37 (99) (by omega)).trans k17_0)
    have hv2_2_103 := ((o37 (103) (by omega)).trans k17_4)
    refine x_callV (q := 45) (ci := 11) (c_m_takes hn hN hq17 ⟨hv2_1_99, w37, hv2_2_103⟩ (lo := 0) (H := 10) (by decide) rfl (by decide)) eX11_takesGood_127 gX11_takesGood_X11_takes hv2_1_99 (by omega) rfl rfl rfl (Nat.le_of_ble_eq_true rfl) ⟨Nat.le_refl _, Nat.le_refl _⟩ dX11_takesGood_42 rfl rfl (fun r42 M42 p42 => ?_)
    obtain ⟨p42, fr42⟩ := p42; rcases p42 with ⟨v42, hv42, rfl, k42_0, k42_1, k42_4⟩ | ⟨hv42, rfl, vz42, k42_0, k42_1, k42_4⟩
    · have hs42 := num_some hv42
      have hq42 : tkE lt N (tkE lt N (q)) ≤ N := (tkE_b lt hq17).2
      refine x_if_ne (t := 50) (q := 48) dX11_takesGood_45 (by decide) rfl (fun c45 => ?_) (fun c45 => absurd c45 (by decide))
      refine x_aload_n (q := 51) dX11_takesGood_50 rfl rfl ?_
      refine x_getf (C := RX11) (T := TX11) (N := 29) (k := 0) (q := 54) k42_0 (by omega) rfl hiX11 (by decide) (by decide +kernel) rfl dX11_takesGood_51 rfl ?_
      refine x_bipush (v := 104) (q := 56) dX11_takesGood_54 rfl (by decide) ?_
      refine x_iload_n (q := 57) dX11_takesGood_56 rfl rfl ?_
      refine x_iadd (q := 58) dX11_takesGood_57 rfl ?_
      refine x_aload_n (q := 59) dX11_takesGood_58 rfl rfl ?_
      refine x_getf (C := RX11) (T := TX11) (N := 29) (k := 10) (q := 62) k42_0 (by omega) rfl hiX11 (by decide) (by decide +kernel) rfl dX11_takesGood_59 rfl ?_
      refine x_iast (q := 63) k42_1 (by omega) (ixI (show ((104 + nI G) : Int32) = nI (104 + G) from (nIs rfl rfl)) (by omega) (by decide)) dX11_takesGood_62 rfl (fun M62 w62 o62 => ?_)
      rw [ixC (show ((104 + nI G) : Int32) = nI (104 + G) from (nIs rfl rfl)) (by omega)] at w62
      refine x_aload_n (q := 64) dX11_takesGood_63 rfl rfl ?_
      have hv4_3_99 := ((o62 (99) (by omega)).trans k42_0)
      refine x_getf (C := RX11) (T := TX11) (N := 29) (k := 0) (q := 67) hv4_3_99 (by omega) rfl hiX11 (by decide) (by decide +kernel) rfl dX11_takesGood_64 rfl ?_
      refine x_bipush (v := 109) (q := 69) dX11_takesGood_67 rfl (by decide) ?_
      refine x_iload_n (q := 70) dX11_takesGood_69 rfl rfl ?_
      refine x_iadd (q := 71) dX11_takesGood_70 rfl ?_
      refine x_iload_n (q := 72) dX11_takesGood_71 rfl rfl ?_
      refine x_iast (q := 73) w62 (by omega) (ixI (show ((109 + nI G) : Int32) = nI (109 + G) from (nIs rfl rfl)) (by omega) (by decide)) dX11_takesGood_72 rfl (fun M72 w72 o72 => ?_)
      rw [ixC (show ((109 + nI G) : Int32) = nI (109 + G) from (nIs rfl rfl)) (by omega)] at w72
      refine x_aload_n (q := 74) dX11_takesGood_73 rfl rfl ?_
      have hv5_4_99 := ((o72 (99) (by omega)).trans hv4_3_99)
      refine x_getf (C := RX11) (T := TX11) (N := 29) (k := 0) (q := 77) hv5_4_99 (by omega) rfl hiX11 (by decide) (by decide +kernel) rfl dX11_takesGood_74 rfl ?_
      refine x_bipush (v := 98) (q := 79) dX11_takesGood_77 rfl (by decide) ?_
      refine x_dup2 (q := 80) dX11_takesGood_79 rfl rfl rfl ?_
      refine x_iald (q := 81) w72 (by omega) (ixI (show (98 : Int32) = nI 98 from rfl) (by omega) (by decide)) dX11_takesGood_80 rfl ?_
      rw [ixC (show (98 : Int32) = nI 98 from rfl) (by omega)]
      rw [show (upd (upd (upd w (99 + G) (nI v17)) (104 + G) (nI v42)) (109 + G) 2) 98 = nI G by rw [upd_ne (by omega), upd_ne (by omega), upd_ne (by omega)]; exact hG0]
      refine x_iconst (v := 1) (q := 82) dX11_takesGood_81 rfl (by decide) ?_
      refine x_iadd (q := 83) dX11_takesGood_82 rfl ?_
      rw [nI_1]
      refine x_iast (q := 84) w72 (by omega) (ixI (show (98 : Int32) = nI 98 from rfl) (by omega) (by decide)) dX11_takesGood_83 rfl (fun M83 w83 o83 => ?_)
      rw [ixC (show (98 : Int32) = nI 98 from rfl) (by omega)] at w83
      refine x_iconst (v := 1) (q := 85) dX11_takesGood_84 rfl (by decide) ?_
      refine x_zret dX11_takesGood_85 rfl rfl rfl (Nat.le_refl _) ?_
      have hv6_5_99 := ((o83 (99) (by omega)).trans hv5_4_99)
      have hv6_6_103 := ((o83 (103) (by omega)).trans ((o72 (103) (by omega)).trans ((o62 (103) (by omega)).trans k42_4)))
      refine ⟨?_, (fun j h1 h2 => ((o83 j h2).trans ((o72 j h2).trans ((o62 j h2).trans ((fr42 j h1).trans ((o37 j h2).trans ((fr17 j h1).trans rfl)))))))⟩
      show mrP t u lt N P W G w c (rdB lt N P 8 q) _ _
      unfold rdB
      rw [if_neg (by decide), if_neg (by decide), if_pos (by decide), nB_s hv17, nB_s hv42]
      exact ⟨rfl, hq42, _, _, _, _, ⟨hv6_5_99, w83, hv6_6_103⟩⟩
    · refine x_if_ne (t := 50) (q := 48) dX11_takesGood_45 (by decide) rfl (fun c45 => absurd c45 (by decide)) (fun c45 => ?_)
      refine x_iconst (v := 0) (q := 49) dX11_takesGood_48 rfl (by decide) ?_
      refine x_zret dX11_takesGood_49 rfl rfl rfl (Nat.le_refl _) ?_
      refine ⟨?_, (fun j h1 h2 => ((fr42 j h1).trans ((o37 j h2).trans ((fr17 j h1).trans rfl))))⟩
      show mrP t u lt N P W G w c (rdB lt N P 8 q) _ _
      unfold rdB
      rw [if_neg (by decide), if_neg (by decide), if_pos (by decide), nB_s hv17, nB_n hv42]
      exact ⟨rfl, _, _, _, _, _, ⟨k42_0, k42_1, k42_4⟩, (fun k hk => by rw [upd_ne (by omega)])⟩
  · refine x_if_ne (t := 25) (q := 23) dX11_takesGood_20 (by decide) rfl (fun c20 => absurd c20 (by decide)) (fun c20 => ?_)
    refine x_iconst (v := 0) (q := 24) dX11_takesGood_23 rfl (by decide) ?_
    refine x_zret dX11_takesGood_24 rfl rfl rfl (Nat.le_refl _) ?_
    refine ⟨?_, (fun j h1 h2 => ((fr17 j h1).trans rfl))⟩
    show mrP t u lt N P W G w c (rdB lt N P 8 q) _ _
    unfold rdB
    rw [if_neg (by decide), if_neg (by decide), if_pos (by decide), nB_n hv17]
    exact ⟨rfl, _, _, _, _, _, ⟨k17_0, k17_1, k17_4⟩, (fun k hk => by rfl)⟩

set_option maxHeartbeats 4000000 in
set_option maxRecDepth 100000 in
theorem c_m_tGood5 {n N : Nat} {M : Nat → xE} {t : Nat → Nat → Int32} {u : Nat → Nat → Int64} {lt w : Nat → Int32} {s iw ib v c : Int32} {a : Int32} (hn : 113 < n) (hN : N ≤ 160) (hR : oR t u lt N w a s iw ib v c M) (hG0 : w 98 = nI 5) {k : Int32} : xMet mX11_takesGood [.ref 99, .int k] n M (fun r M' => M = M' ∧ some (.int (0)) = r) := by
  have hR0 := hR
  obtain ⟨mp0, mp1, mp4⟩ := hR
  have hiX11 : ∀ w ∈ wsX110, w ∈ wsX11_takesGood := by decide +kernel
  refine xMet.of _ (by decide) rfl (Nat.le_of_ble_eq_true rfl) ?_
  refine x_aload_n (q := 1) dX11_takesGood_0 rfl rfl ?_
  refine x_getf (C := RX11) (T := TX11) (N := 29) (k := 0) (q := 4) mp0 (by omega) rfl hiX11 (by decide) (by decide +kernel) rfl dX11_takesGood_1 rfl ?_
  refine x_bipush (v := 98) (q := 6) dX11_takesGood_4 rfl (by decide) ?_
  refine x_iald (q := 7) mp1 (by omega) (ixI (show (98 : Int32) = nI 98 from rfl) (by omega) (by decide)) dX11_takesGood_6 rfl ?_
  rw [ixC (show (98 : Int32) = nI 98 from rfl) (by omega)]
  rw [hG0]
  refine x_istore_n (L' := fun x2_7 => [(2, .int x2_7), (0, .ref 99), (1, .int k)]) (q := 8) dX11_takesGood_7 rfl (by decide) (fun _ => rfl) (fun x2_7 ex2_7 => ?_)
  obtain rfl : x2_7 = nI 5 := ex2_7
  refine x_iload_n (q := 9) dX11_takesGood_8 rfl rfl ?_
  refine x_iconst (v := 5) (q := 10) dX11_takesGood_9 rfl (by decide) ?_
  refine x_icmp_eq (t := 23) (q := 13) dX11_takesGood_10 (by decide) rfl (fun c10 => ?_) (fun c10 => absurd rfl c10)
  refine x_iconst (v := 0) (q := 24) dX11_takesGood_23 rfl (by decide) ?_
  refine x_zret dX11_takesGood_24 rfl rfl rfl (Nat.le_refl _) ?_
  exact ⟨rfl, rfl⟩

set_option maxHeartbeats 4000000 in
set_option maxRecDepth 100000 in
theorem c_m_tWorld {n N : Nat} {M : Nat → xE} {t : Nat → Nat → Int32} {u : Nat → Nat → Int64} {lt w : Nat → Int32} {s iw ib v c : Int32} {q P W G : Nat} (hn : 113 < n) (hN : N ≤ 160) (hq : q ≤ N) (hR : oR t u lt N w (nI q) s iw ib v c M) : xMet mX11_takesWorld [.ref 99] n M (fun r M' => mrP t u lt N P W G w c (rdB lt N P 10 q) r M' ∧ (∀ j, ¬ j = 99 → ¬ j = 100 → M' j = M j)) := by
  have hR0 := hR
  obtain ⟨mp0, mp1, mp4⟩ := hR
  have hb := tkE_b lt hq
  have hb0 := tsp_b lt hq
  have hiX11 : ∀ w ∈ wsX110, w ∈ wsX11_takesWorld := by decide +kernel
  refine xMet.of _ (by decide) rfl (Nat.le_of_ble_eq_true rfl) ?_
  refine x_aload_n (q := 1) dX11_takesWorld_0 rfl rfl ?_
  refine x_iconst (v := 0) (q := 2) dX11_takesWorld_1 rfl (by decide) ?_
  refine x_iconst (v := 3) (q := 3) dX11_takesWorld_2 rfl (by decide) ?_
  refine x_callV (q := 6) (ci := 11) (c_m_takes hn hN hq ⟨mp0, mp1, mp4⟩ (lo := 0) (H := 4) (by decide) rfl (by decide)) eX11_takesWorld_127 gX11_takesWorld_X11_takes mp0 (by omega) rfl rfl rfl (Nat.le_of_ble_eq_true rfl) ⟨Nat.le_refl _, Nat.le_refl _⟩ dX11_takesWorld_3 rfl rfl (fun r3 M3 p3 => ?_)
  obtain ⟨p3, fr3⟩ := p3; rcases p3 with ⟨v3, hv3, rfl, k3_0, k3_1, k3_4⟩ | ⟨hv3, rfl, vz3, k3_0, k3_1, k3_4⟩
  · have hs3 := num_some hv3
    have hq3 : tkE lt N (q) ≤ N := (tkE_b lt hq).2
    refine x_if_ne (t := 11) (q := 9) dX11_takesWorld_6 (by decide) rfl (fun c6 => ?_) (fun c6 => absurd c6 (by decide))
    refine x_aload_n (q := 12) dX11_takesWorld_11 rfl rfl ?_
    refine x_getf (C := RX11) (T := TX11) (N := 29) (k := 10) (q := 15) k3_0 (by omega) rfl hiX11 (by decide) (by decide +kernel) rfl dX11_takesWorld_12 rfl ?_
    refine x_istore_n (L' := fun x1_15 => [(1, .int x1_15), (0, .ref 99)]) (q := 16) dX11_takesWorld_15 rfl (by decide) (fun _ => rfl) (fun x1_15 ex1_15 => ?_)
    obtain rfl : x1_15 = nI v3 := ex1_15
    refine x_aload_n (q := 17) dX11_takesWorld_16 rfl rfl ?_
    refine x_iconst (v := 0) (q := 18) dX11_takesWorld_17 rfl (by decide) ?_
    refine x_iconst (v := 3) (q := 19) dX11_takesWorld_18 rfl (by decide) ?_
    refine x_callV (q := 22) (ci := 11) (c_m_takes hn hN hq3 ⟨k3_0, k3_1, k3_4⟩ (lo := 0) (H := 4) (by decide) rfl (by decide)) eX11_takesWorld_127 gX11_takesWorld_X11_takes k3_0 (by omega) rfl rfl rfl (Nat.le_of_ble_eq_true rfl) ⟨Nat.le_refl _, Nat.le_refl _⟩ dX11_takesWorld_19 rfl rfl (fun r19 M19 p19 => ?_)
    obtain ⟨p19, fr19⟩ := p19; rcases p19 with ⟨v19, hv19, rfl, k19_0, k19_1, k19_4⟩ | ⟨hv19, rfl, vz19, k19_0, k19_1, k19_4⟩
    · have hs19 := num_some hv19
      have hq19 : tkE lt N (tkE lt N (q)) ≤ N := (tkE_b lt hq3).2
      refine x_if_eq (t := 33) (q := 25) dX11_takesWorld_22 (by decide) rfl (fun c22 => absurd c22 (by decide)) (fun c22 => ?_)
      refine x_aload_n (q := 26) dX11_takesWorld_25 rfl rfl ?_
      refine x_getf (C := RX11) (T := TX11) (N := 29) (k := 10) (q := 29) k19_0 (by omega) rfl hiX11 (by decide) (by decide +kernel) rfl dX11_takesWorld_26 rfl ?_
      refine x_iload_n (q := 30) dX11_takesWorld_29 rfl rfl ?_
      refine x_icmp_ne (t := 35) (q := 33) dX11_takesWorld_30 (by decide) rfl (fun c30 => ?_) (fun c30 => ?_)
      · refine x_aload_n (q := 36) dX11_takesWorld_35 rfl rfl ?_
        refine x_getf (C := RX11) (T := TX11) (N := 29) (k := 10) (q := 39) k19_0 (by omega) rfl hiX11 (by decide) (by decide +kernel) rfl dX11_takesWorld_36 rfl ?_
        refine x_istore_n (L' := fun x2_39 => [(2, .int x2_39), (1, .int (nI v3)), (0, .ref 99)]) (q := 40) dX11_takesWorld_39 rfl (by decide) (fun _ => rfl) (fun x2_39 ex2_39 => ?_)
        obtain rfl : x2_39 = nI v19 := ex2_39
        refine x_aload_n (q := 41) dX11_takesWorld_40 rfl rfl ?_
        refine x_iconst (v := 0) (q := 42) dX11_takesWorld_41 rfl (by decide) ?_
        refine x_bipush (v := 9) (q := 44) dX11_takesWorld_42 rfl (by decide) ?_
        refine x_callV (q := 47) (ci := 11) (c_m_takes hn hN hq19 ⟨k19_0, k19_1, k19_4⟩ (lo := 0) (H := 10) (by decide) rfl (by decide)) eX11_takesWorld_127 gX11_takesWorld_X11_takes k19_0 (by omega) rfl rfl rfl (Nat.le_of_ble_eq_true rfl) ⟨Nat.le_refl _, Nat.le_refl _⟩ dX11_takesWorld_44 rfl rfl (fun r44 M44 p44 => ?_)
        obtain ⟨p44, fr44⟩ := p44; rcases p44 with ⟨v44, hv44, rfl, k44_0, k44_1, k44_4⟩ | ⟨hv44, rfl, vz44, k44_0, k44_1, k44_4⟩
        · have hs44 := num_some hv44
          have hq44 : tkE lt N (tkE lt N (tkE lt N (q))) ≤ N := (tkE_b lt hq19).2
          refine x_if_ne (t := 52) (q := 50) dX11_takesWorld_47 (by decide) rfl (fun c47 => ?_) (fun c47 => absurd c47 (by decide))
          refine x_aload_n (q := 53) dX11_takesWorld_52 rfl rfl ?_
          refine x_getf (C := RX11) (T := TX11) (N := 29) (k := 0) (q := 56) k44_0 (by omega) rfl hiX11 (by decide) (by decide +kernel) rfl dX11_takesWorld_53 rfl ?_
          refine x_bipush (v := 114) (q := 58) dX11_takesWorld_56 rfl (by decide) ?_
          refine x_iload_n (q := 59) dX11_takesWorld_58 rfl rfl ?_
          refine x_iadd (q := 60) dX11_takesWorld_59 rfl ?_
          refine x_iload_n (q := 61) dX11_takesWorld_60 rfl rfl ?_
          refine x_iast (q := 62) k44_1 (by omega) (ixI (show ((114 + nI v3) : Int32) = nI (114 + v3) from (nIs rfl rfl)) (by omega) (by decide)) dX11_takesWorld_61 rfl (fun M61 w61 o61 => ?_)
          rw [ixC (show ((114 + nI v3) : Int32) = nI (114 + v3) from (nIs rfl rfl)) (by omega)] at w61
          refine x_aload_n (q := 63) dX11_takesWorld_62 rfl rfl ?_
          have hv4_1_99 := ((o61 (99) (by omega)).trans k44_0)
          refine x_getf (C := RX11) (T := TX11) (N := 29) (k := 0) (q := 66) hv4_1_99 (by omega) rfl hiX11 (by decide) (by decide +kernel) rfl dX11_takesWorld_63 rfl ?_
          refine x_bipush (v := 118) (q := 68) dX11_takesWorld_66 rfl (by decide) ?_
          refine x_iload_n (q := 69) dX11_takesWorld_68 rfl rfl ?_
          refine x_iadd (q := 70) dX11_takesWorld_69 rfl ?_
          refine x_aload_n (q := 71) dX11_takesWorld_70 rfl rfl ?_
          refine x_getf (C := RX11) (T := TX11) (N := 29) (k := 10) (q := 74) hv4_1_99 (by omega) rfl hiX11 (by decide) (by decide +kernel) rfl dX11_takesWorld_71 rfl ?_
          refine x_iast (q := 75) w61 (by omega) (ixI (show ((118 + nI v3) : Int32) = nI (118 + v3) from (nIs rfl rfl)) (by omega) (by decide)) dX11_takesWorld_74 rfl (fun M74 w74 o74 => ?_)
          rw [ixC (show ((118 + nI v3) : Int32) = nI (118 + v3) from (nIs rfl rfl)) (by omega)] at w74
          refine x_iconst (v := 1) (q := 76) dX11_takesWorld_75 rfl (by decide) ?_
          refine x_zret dX11_takesWorld_76 rfl rfl rfl (Nat.le_refl _) ?_
          have hv5_2_99 := ((o74 (99) (by omega)).trans hv4_1_99)
          have hv5_3_103 := ((o74 (103) (by omega)).trans ((o61 (103) (by omega)).trans k44_4))
          refine ⟨?_, (fun j h1 h2 => ((o74 j h2).trans ((o61 j h2).trans ((fr44 j h1).trans ((fr19 j h1).trans ((fr3 j h1).trans rfl))))))⟩
          show mrP t u lt N P W G w c (rdB lt N P 10 q) _ _
          unfold rdB
          rw [if_neg (by decide), if_neg (by decide), if_neg (by decide), if_neg (by decide), if_pos (by decide), nB_s hv3, nB_s hv19, if_neg (show ¬ v19 = v3 from fun h => c30 (by rw [h])), nB_s hv44]
          exact ⟨rfl, hq44, _, _, _, _, ⟨hv5_2_99, w74, hv5_3_103⟩⟩
        · refine x_if_ne (t := 52) (q := 50) dX11_takesWorld_47 (by decide) rfl (fun c47 => absurd c47 (by decide)) (fun c47 => ?_)
          refine x_iconst (v := 0) (q := 51) dX11_takesWorld_50 rfl (by decide) ?_
          refine x_zret dX11_takesWorld_51 rfl rfl rfl (Nat.le_refl _) ?_
          refine ⟨?_, (fun j h1 h2 => ((fr44 j h1).trans ((fr19 j h1).trans ((fr3 j h1).trans rfl))))⟩
          show mrP t u lt N P W G w c (rdB lt N P 10 q) _ _
          unfold rdB
          rw [if_neg (by decide), if_neg (by decide), if_neg (by decide), if_neg (by decide), if_pos (by decide), nB_s hv3, nB_s hv19, if_neg (show ¬ v19 = v3 from fun h => c30 (by rw [h])), nB_n hv44]
          exact ⟨rfl, _, _, _, _, _, ⟨k44_0, k44_1, k44_4⟩, (fun k hk => by rfl)⟩
      · refine x_iconst (v := 0) (q := 34) dX11_takesWorld_33 rfl (by decide) ?_
        refine x_zret dX11_takesWorld_34 rfl rfl rfl (Nat.le_refl _) ?_
        refine ⟨?_, (fun j h1 h2 => ((fr19 j h1).trans ((fr3 j h1).trans rfl)))⟩
        show mrP t u lt N P W G w c (rdB lt N P 10 q) _ _
        unfold rdB
        rw [if_neg (by decide), if_neg (by decide), if_neg (by decide), if_neg (by decide), if_pos (by decide), nB_s hv3, nB_s hv19, if_pos (show v19 = v3 from (nIne (by omega) (by omega)).mp c30)]
        exact ⟨rfl, _, _, _, _, _, ⟨k19_0, k19_1, k19_4⟩, (fun k hk => by rfl)⟩
    · refine x_if_eq (t := 33) (q := 25) dX11_takesWorld_22 (by decide) rfl (fun c22 => ?_) (fun c22 => absurd c22 (by decide))
      refine x_iconst (v := 0) (q := 34) dX11_takesWorld_33 rfl (by decide) ?_
      refine x_zret dX11_takesWorld_34 rfl rfl rfl (Nat.le_refl _) ?_
      refine ⟨?_, (fun j h1 h2 => ((fr19 j h1).trans ((fr3 j h1).trans rfl)))⟩
      show mrP t u lt N P W G w c (rdB lt N P 10 q) _ _
      unfold rdB
      rw [if_neg (by decide), if_neg (by decide), if_neg (by decide), if_neg (by decide), if_pos (by decide), nB_s hv3, nB_n hv19]
      exact ⟨rfl, _, _, _, _, _, ⟨k19_0, k19_1, k19_4⟩, (fun k hk => by rfl)⟩
  · refine x_if_ne (t := 11) (q := 9) dX11_takesWorld_6 (by decide) rfl (fun c6 => absurd c6 (by decide)) (fun c6 => ?_)
    refine x_iconst (v := 0) (q := 10) dX11_takesWorld_9 rfl (by decide) ?_
    refine x_zret dX11_takesWorld_10 rfl rfl rfl (Nat.le_refl _) ?_
    refine ⟨?_, (fun j h1 h2 => ((fr3 j h1).trans rfl))⟩
    show mrP t u lt N P W G w c (rdB lt N P 10 q) _ _
    unfold rdB
    rw [if_neg (by decide), if_neg (by decide), if_neg (by decide), if_neg (by decide), if_pos (by decide), nB_n hv3]
    exact ⟨rfl, _, _, _, _, _, ⟨k3_0, k3_1, k3_4⟩, (fun k hk => by rfl)⟩

set_option maxHeartbeats 4000000 in
set_option maxRecDepth 100000 in
theorem c_m_tLen {n N : Nat} {M : Nat → xE} {t : Nat → Nat → Int32} {u : Nat → Nat → Int64} {lt w : Nat → Int32} {s iw ib v c : Int32} {q P W G : Nat} (hn : 113 < n) (hN : N ≤ 160) (hq : q ≤ N) (hR : oR t u lt N w (nI q) s iw ib v c M) : xMet mX11_takesLength [.ref 99] n M (fun r M' => mrP t u lt N P W G w c (rdB lt N P 9 q) r M' ∧ (∀ j, ¬ j = 99 → ¬ j = 100 → M' j = M j)) := by
  have hR0 := hR
  obtain ⟨mp0, mp1, mp4⟩ := hR
  have hb := tkE_b lt hq
  have hb0 := tsp_b lt hq
  have hiX11 : ∀ w ∈ wsX110, w ∈ wsX11_takesLength := by decide +kernel
  refine xMet.of _ (by decide) rfl (Nat.le_of_ble_eq_true rfl) ?_
  refine x_aload_n (q := 1) dX11_takesLength_0 rfl rfl ?_
  refine x_iconst (v := 1) (q := 2) dX11_takesLength_1 rfl (by decide) ?_
  refine x_bipush (v := 99) (q := 4) dX11_takesLength_2 rfl (by decide) ?_
  refine x_callV (q := 7) (ci := 11) (c_m_takes hn hN hq ⟨mp0, mp1, mp4⟩ (lo := 1) (H := 100) (by decide) rfl (by decide)) eX11_takesLength_127 gX11_takesLength_X11_takes mp0 (by omega) rfl rfl rfl (Nat.le_of_ble_eq_true rfl) ⟨Nat.le_refl _, Nat.le_refl _⟩ dX11_takesLength_4 rfl rfl (fun r4 M4 p4 => ?_)
  obtain ⟨p4, fr4⟩ := p4; rcases p4 with ⟨v4, hv4, rfl, k4_0, k4_1, k4_4⟩ | ⟨hv4, rfl, vz4, k4_0, k4_1, k4_4⟩
  · have hs4 := num_some hv4
    have hq4 : tkE lt N (q) ≤ N := (tkE_b lt hq).2
    refine x_istore_n (L' := fun x1_7 => [(1, .int x1_7), (0, .ref 99)]) (q := 8) dX11_takesLength_7 rfl (by decide) (fun _ => rfl) (fun x1_7 ex1_7 => ?_)
    obtain rfl : x1_7 = 1 := ex1_7
    refine x_aload_n (q := 9) dX11_takesLength_8 rfl rfl ?_
    refine x_getf (C := RX11) (T := TX11) (N := 29) (k := 0) (q := 12) k4_0 (by omega) rfl hiX11 (by decide) (by decide +kernel) rfl dX11_takesLength_9 rfl ?_
    refine x_bipush (v := 97) (q := 14) dX11_takesLength_12 rfl (by decide) ?_
    refine x_aload_n (q := 15) dX11_takesLength_14 rfl rfl ?_
    refine x_getf (C := RX11) (T := TX11) (N := 29) (k := 10) (q := 18) k4_0 (by omega) rfl hiX11 (by decide) (by decide +kernel) rfl dX11_takesLength_15 rfl ?_
    refine x_iast (q := 19) k4_1 (by omega) (ixI (show (97 : Int32) = nI 97 from rfl) (by omega) (by decide)) dX11_takesLength_18 rfl (fun M18 w18 o18 => ?_)
    rw [ixC (show (97 : Int32) = nI 97 from rfl) (by omega)] at w18
    refine x_iload_n (q := 20) dX11_takesLength_19 rfl rfl ?_
    refine x_zret dX11_takesLength_20 rfl (by first | rfl | decide) rfl (Nat.le_refl _) ?_
    have hv2_1_99 := ((o18 (99) (by omega)).trans k4_0)
    have hv2_2_103 := ((o18 (103) (by omega)).trans k4_4)
    refine ⟨?_, (fun j h1 h2 => ((o18 j h2).trans ((fr4 j h1).trans rfl)))⟩
    show mrP t u lt N P W G w c (rdB lt N P 9 q) _ _
    unfold rdB
    rw [if_neg (by decide), if_neg (by decide), if_neg (by decide), if_pos (by decide), nB_s hv4]
    exact ⟨rfl, hq4, _, _, _, _, ⟨hv2_1_99, w18, hv2_2_103⟩⟩
  · refine x_istore_n (L' := fun x1_7 => [(1, .int x1_7), (0, .ref 99)]) (q := 8) dX11_takesLength_7 rfl (by decide) (fun _ => rfl) (fun x1_7 ex1_7 => ?_)
    obtain rfl : x1_7 = 0 := ex1_7
    refine x_aload_n (q := 9) dX11_takesLength_8 rfl rfl ?_
    refine x_getf (C := RX11) (T := TX11) (N := 29) (k := 0) (q := 12) k4_0 (by omega) rfl hiX11 (by decide) (by decide +kernel) rfl dX11_takesLength_9 rfl ?_
    refine x_bipush (v := 97) (q := 14) dX11_takesLength_12 rfl (by decide) ?_
    refine x_aload_n (q := 15) dX11_takesLength_14 rfl rfl ?_
    refine x_getf (C := RX11) (T := TX11) (N := 29) (k := 10) (q := 18) k4_0 (by omega) rfl hiX11 (by decide) (by decide +kernel) rfl dX11_takesLength_15 rfl ?_
    refine x_iast (q := 19) k4_1 (by omega) (ixI (show (97 : Int32) = nI 97 from rfl) (by omega) (by decide)) dX11_takesLength_18 rfl (fun M18 w18 o18 => ?_)
    rw [ixC (show (97 : Int32) = nI 97 from rfl) (by omega)] at w18
    refine x_iload_n (q := 20) dX11_takesLength_19 rfl rfl ?_
    refine x_zret dX11_takesLength_20 rfl (by first | rfl | decide) rfl (Nat.le_refl _) ?_
    have hv2_1_99 := ((o18 (99) (by omega)).trans k4_0)
    have hv2_2_103 := ((o18 (103) (by omega)).trans k4_4)
    refine ⟨?_, (fun j h1 h2 => ((o18 j h2).trans ((fr4 j h1).trans rfl)))⟩
    show mrP t u lt N P W G w c (rdB lt N P 9 q) _ _
    unfold rdB
    rw [if_neg (by decide), if_neg (by decide), if_neg (by decide), if_pos (by decide), nB_n hv4]
    exact ⟨rfl, _, _, _, _, _, ⟨hv2_1_99, w18, hv2_2_103⟩, (fun k hk => by rw [upd_ne (by omega)])⟩

