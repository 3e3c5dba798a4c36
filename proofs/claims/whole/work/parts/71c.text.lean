set_option maxHeartbeats 4000000 in
set_option maxRecDepth 100000 in
theorem c_m_named4 {n N : Nat} {M : Nat → xE} {t : Nat → Nat → Int32} {u : Nat → Nat → Int64} {lt w : Nat → Int32} {ib v c : Int32} {q : Nat} (hn : 113 < n) (hN : N ≤ 160) (hq : q ≤ N) (hR : oR t u lt N w (nI (tkE lt N q)) (nI (tsp lt N q)) (kw (tkK lt N q)) ib v c M) {a1 a2 a3 a4 : Int32} : xMet mX11_isNamed [.ref 99, .int a1, .int a2, .int a3, .int a4, .int 0, .int 0] n M (fun r M' => M = M' ∧ xB (tkK lt N q = 0 ∧ tkE lt N q - tsp lt N q = 4 ∧ lA lt N (tsp lt N q) = a1 ∧ lA lt N (tsp lt N q + 1) = a2 ∧ lA lt N (tsp lt N q + 2) = a3 ∧ lA lt N (tsp lt N q + 3) = a4) r) := by
  have hb := tkE_b lt hq
  have hb0 := tsp_b lt hq
  have hR0 := hR
  obtain ⟨mp0, mp1, mp4⟩ := hR
  have hiX11 : ∀ w ∈ wsX110, w ∈ wsX11_isNamed := by decide +kernel
  refine xMet.of _ (by decide) rfl (Nat.le_of_ble_eq_true rfl) ?_
  refine x_iload (q := 2) dX11_isNamed_0 rfl rfl ?_
  refine x_if_ne (t := 9) (q := 5) dX11_isNamed_2 (by decide) rfl (fun c2 => absurd c2 (by decide)) (fun c2 => ?_)
  refine x_iconst (v := 4) (q := 6) dX11_isNamed_5 rfl (by decide) ?_
  refine x_goto (q := 20) dX11_isNamed_6 (by decide) ?_
  refine x_istore (L' := fun x7_20 => [(7, .int x7_20), (0, .ref 99), (1, .int a1), (2, .int a2), (3, .int a3), (4, .int a4), (5, .int 0), (6, .int 0)]) (q := 22) dX11_isNamed_20 rfl (by decide) (fun _ => rfl) (fun x7_20 ex7_20 => ?_)
  obtain rfl : x7_20 = 4 := ex7_20
  refine x_aload_n (q := 23) dX11_isNamed_22 rfl rfl ?_
  refine x_getf (C := RX11) (T := TX11) (N := 29) (k := 8) (q := 26) mp0 (by omega) rfl hiX11 (by decide) (by decide +kernel) rfl dX11_isNamed_23 rfl ?_
  refine x_if_eq (t := 102) (q := 29) dX11_isNamed_26 (by decide) rfl (fun c26 => ?_) (fun c26 => ?_)
  · refine x_iconst (v := 0) (q := 103) dX11_isNamed_102 rfl (by decide) ?_
    refine x_istore (L' := fun x8_103 => [(8, .int x8_103), (7, .int 4), (0, .ref 99), (1, .int a1), (2, .int a2), (3, .int a3), (4, .int a4), (5, .int 0), (6, .int 0)]) (q := 105) dX11_isNamed_103 rfl (by decide) (fun _ => rfl) (fun x8_103 ex8_103 => ?_)
    obtain rfl : x8_103 = 0 := ex8_103
    refine x_iload (q := 107) dX11_isNamed_105 rfl rfl ?_
    refine x_if_eq (t := 154) (q := 110) dX11_isNamed_107 (by decide) rfl (fun c107 => ?_) (fun c107 => absurd c107 (by decide))
    refine x_iconst (v := 0) (q := 155) dX11_isNamed_154 rfl (by decide) ?_
    refine x_zret dX11_isNamed_155 rfl rfl rfl (Nat.le_refl _) ?_
    exact ⟨rfl, Or.inr ⟨fun h => kw_0 c26 h.1, rfl⟩⟩
  · refine x_aload_n (q := 30) dX11_isNamed_29 rfl rfl ?_
    refine x_getf (C := RX11) (T := TX11) (N := 29) (k := 6) (q := 33) mp0 (by omega) rfl hiX11 (by decide) (by decide +kernel) rfl dX11_isNamed_30 rfl ?_
    refine x_aload_n (q := 34) dX11_isNamed_33 rfl rfl ?_
    refine x_getf (C := RX11) (T := TX11) (N := 29) (k := 7) (q := 37) mp0 (by omega) rfl hiX11 (by decide) (by decide +kernel) rfl dX11_isNamed_34 rfl ?_
    refine x_isub (q := 38) dX11_isNamed_37 rfl ?_
    rw [pk_sub hb.1]
    refine x_iload (q := 40) dX11_isNamed_38 rfl rfl ?_
    refine x_icmp_ne (t := 102) (q := 43) dX11_isNamed_40 (by decide) rfl (fun c40 => ?_) (fun c40 => ?_)
    · refine x_iconst (v := 0) (q := 103) dX11_isNamed_102 rfl (by decide) ?_
      refine x_istore (L' := fun x8_103 => [(8, .int x8_103), (7, .int 4), (0, .ref 99), (1, .int a1), (2, .int a2), (3, .int a3), (4, .int a4), (5, .int 0), (6, .int 0)]) (q := 105) dX11_isNamed_103 rfl (by decide) (fun _ => rfl) (fun x8_103 ex8_103 => ?_)
      obtain rfl : x8_103 = 0 := ex8_103
      refine x_iload (q := 107) dX11_isNamed_105 rfl rfl ?_
      refine x_if_eq (t := 154) (q := 110) dX11_isNamed_107 (by decide) rfl (fun c107 => ?_) (fun c107 => absurd c107 (by decide))
      refine x_iconst (v := 0) (q := 155) dX11_isNamed_154 rfl (by decide) ?_
      refine x_zret dX11_isNamed_155 rfl rfl rfl (Nat.le_refl _) ?_
      exact ⟨rfl, Or.inr ⟨fun h => c40 (by rw [h.2.1]; rfl), rfl⟩⟩
    · refine x_aload_n (q := 44) dX11_isNamed_43 rfl rfl ?_
      refine x_aload_n (q := 45) dX11_isNamed_44 rfl rfl ?_
      refine x_getf (C := RX11) (T := TX11) (N := 29) (k := 7) (q := 48) mp0 (by omega) rfl hiX11 (by decide) (by decide +kernel) rfl dX11_isNamed_45 rfl ?_
      refine x_callV (q := 51) (ci := 11) (c_m_let hn hN ⟨mp0, mp1, mp4⟩ (k := tsp lt N q) (by omega)) eX11_isNamed_95 gX11_isNamed_X11_letterAt mp0 (by omega) rfl rfl rfl (Nat.le_of_ble_eq_true rfl) ⟨Nat.le_refl _, Nat.le_refl _⟩ dX11_isNamed_48 rfl rfl (fun r48 M48 p48 => ?_)
      obtain ⟨rfl, rfl⟩ := p48
      refine x_iload_n (q := 52) dX11_isNamed_51 rfl rfl ?_
      refine x_icmp_ne (t := 102) (q := 55) dX11_isNamed_52 (by decide) rfl (fun c52 => ?_) (fun c52 => ?_)
      · refine x_iconst (v := 0) (q := 103) dX11_isNamed_102 rfl (by decide) ?_
        refine x_istore (L' := fun x8_103 => [(8, .int x8_103), (7, .int 4), (0, .ref 99), (1, .int a1), (2, .int a2), (3, .int a3), (4, .int a4), (5, .int 0), (6, .int 0)]) (q := 105) dX11_isNamed_103 rfl (by decide) (fun _ => rfl) (fun x8_103 ex8_103 => ?_)
        obtain rfl : x8_103 = 0 := ex8_103
        refine x_iload (q := 107) dX11_isNamed_105 rfl rfl ?_
        refine x_if_eq (t := 154) (q := 110) dX11_isNamed_107 (by decide) rfl (fun c107 => ?_) (fun c107 => absurd c107 (by decide))
        refine x_iconst (v := 0) (q := 155) dX11_isNamed_154 rfl (by decide) ?_
        refine x_zret dX11_isNamed_155 rfl rfl rfl (Nat.le_refl _) ?_
        exact ⟨rfl, Or.inr ⟨fun h => c52 h.2.2.1, rfl⟩⟩
      · refine x_aload_n (q := 56) dX11_isNamed_55 rfl rfl ?_
        refine x_aload_n (q := 57) dX11_isNamed_56 rfl rfl ?_
        refine x_getf (C := RX11) (T := TX11) (N := 29) (k := 7) (q := 60) mp0 (by omega) rfl hiX11 (by decide) (by decide +kernel) rfl dX11_isNamed_57 rfl ?_
        refine x_iconst (v := 1) (q := 61) dX11_isNamed_60 rfl (by decide) ?_
        refine x_iadd (q := 62) dX11_isNamed_61 rfl ?_
        rw [show nI (tsp lt N q) + 1 = nI (tsp lt N q + 1) from nI_add _ 1]
        refine x_callV (q := 65) (ci := 11) (c_m_let hn hN ⟨mp0, mp1, mp4⟩ (k := tsp lt N q + 1) (by omega)) eX11_isNamed_95 gX11_isNamed_X11_letterAt mp0 (by omega) rfl rfl rfl (Nat.le_of_ble_eq_true rfl) ⟨Nat.le_refl _, Nat.le_refl _⟩ dX11_isNamed_62 rfl rfl (fun r62 M62 p62 => ?_)
        obtain ⟨rfl, rfl⟩ := p62
        refine x_iload_n (q := 66) dX11_isNamed_65 rfl rfl ?_
        refine x_icmp_ne (t := 102) (q := 69) dX11_isNamed_66 (by decide) rfl (fun c66 => ?_) (fun c66 => ?_)
        · refine x_iconst (v := 0) (q := 103) dX11_isNamed_102 rfl (by decide) ?_
          refine x_istore (L' := fun x8_103 => [(8, .int x8_103), (7, .int 4), (0, .ref 99), (1, .int a1), (2, .int a2), (3, .int a3), (4, .int a4), (5, .int 0), (6, .int 0)]) (q := 105) dX11_isNamed_103 rfl (by decide) (fun _ => rfl) (fun x8_103 ex8_103 => ?_)
          obtain rfl : x8_103 = 0 := ex8_103
          refine x_iload (q := 107) dX11_isNamed_105 rfl rfl ?_
          refine x_if_eq (t := 154) (q := 110) dX11_isNamed_107 (by decide) rfl (fun c107 => ?_) (fun c107 => absurd c107 (by decide))
          refine x_iconst (v := 0) (q := 155) dX11_isNamed_154 rfl (by decide) ?_
          refine x_zret dX11_isNamed_155 rfl rfl rfl (Nat.le_refl _) ?_
          exact ⟨rfl, Or.inr ⟨fun h => c66 h.2.2.2.1, rfl⟩⟩
        · refine x_aload_n (q := 70) dX11_isNamed_69 rfl rfl ?_
          refine x_aload_n (q := 71) dX11_isNamed_70 rfl rfl ?_
          refine x_getf (C := RX11) (T := TX11) (N := 29) (k := 7) (q := 74) mp0 (by omega) rfl hiX11 (by decide) (by decide +kernel) rfl dX11_isNamed_71 rfl ?_
          refine x_iconst (v := 2) (q := 75) dX11_isNamed_74 rfl (by decide) ?_
          refine x_iadd (q := 76) dX11_isNamed_75 rfl ?_
          rw [show nI (tsp lt N q) + 2 = nI (tsp lt N q + 2) from nI_add _ 2]
          refine x_callV (q := 79) (ci := 11) (c_m_let hn hN ⟨mp0, mp1, mp4⟩ (k := tsp lt N q + 2) (by omega)) eX11_isNamed_95 gX11_isNamed_X11_letterAt mp0 (by omega) rfl rfl rfl (Nat.le_of_ble_eq_true rfl) ⟨Nat.le_refl _, Nat.le_refl _⟩ dX11_isNamed_76 rfl rfl (fun r76 M76 p76 => ?_)
          obtain ⟨rfl, rfl⟩ := p76
          refine x_iload_n (q := 80) dX11_isNamed_79 rfl rfl ?_
          refine x_icmp_ne (t := 102) (q := 83) dX11_isNamed_80 (by decide) rfl (fun c80 => ?_) (fun c80 => ?_)
          · refine x_iconst (v := 0) (q := 103) dX11_isNamed_102 rfl (by decide) ?_
            refine x_istore (L' := fun x8_103 => [(8, .int x8_103), (7, .int 4), (0, .ref 99), (1, .int a1), (2, .int a2), (3, .int a3), (4, .int a4), (5, .int 0), (6, .int 0)]) (q := 105) dX11_isNamed_103 rfl (by decide) (fun _ => rfl) (fun x8_103 ex8_103 => ?_)
            obtain rfl : x8_103 = 0 := ex8_103
            refine x_iload (q := 107) dX11_isNamed_105 rfl rfl ?_
            refine x_if_eq (t := 154) (q := 110) dX11_isNamed_107 (by decide) rfl (fun c107 => ?_) (fun c107 => absurd c107 (by decide))
            refine x_iconst (v := 0) (q := 155) dX11_isNamed_154 rfl (by decide) ?_
            refine x_zret dX11_isNamed_155 rfl rfl rfl (Nat.le_refl _) ?_
            exact ⟨rfl, Or.inr ⟨fun h => c80 h.2.2.2.2.1, rfl⟩⟩
          · refine x_aload_n (q := 84) dX11_isNamed_83 rfl rfl ?_
            refine x_aload_n (q := 85) dX11_isNamed_84 rfl rfl ?_
            refine x_getf (C := RX11) (T := TX11) (N := 29) (k := 7) (q := 88) mp0 (by omega) rfl hiX11 (by decide) (by decide +kernel) rfl dX11_isNamed_85 rfl ?_
            refine x_iconst (v := 3) (q := 89) dX11_isNamed_88 rfl (by decide) ?_
            refine x_iadd (q := 90) dX11_isNamed_89 rfl ?_
            rw [show nI (tsp lt N q) + 3 = nI (tsp lt N q + 3) from nI_add _ 3]
            refine x_callV (q := 93) (ci := 11) (c_m_let hn hN ⟨mp0, mp1, mp4⟩ (k := tsp lt N q + 3) (by omega)) eX11_isNamed_95 gX11_isNamed_X11_letterAt mp0 (by omega) rfl rfl rfl (Nat.le_of_ble_eq_true rfl) ⟨Nat.le_refl _, Nat.le_refl _⟩ dX11_isNamed_90 rfl rfl (fun r90 M90 p90 => ?_)
            obtain ⟨rfl, rfl⟩ := p90
            refine x_iload (q := 95) dX11_isNamed_93 rfl rfl ?_
            refine x_icmp_ne (t := 102) (q := 98) dX11_isNamed_95 (by decide) rfl (fun c95 => ?_) (fun c95 => ?_)
            · refine x_iconst (v := 0) (q := 103) dX11_isNamed_102 rfl (by decide) ?_
              refine x_istore (L' := fun x8_103 => [(8, .int x8_103), (7, .int 4), (0, .ref 99), (1, .int a1), (2, .int a2), (3, .int a3), (4, .int a4), (5, .int 0), (6, .int 0)]) (q := 105) dX11_isNamed_103 rfl (by decide) (fun _ => rfl) (fun x8_103 ex8_103 => ?_)
              obtain rfl : x8_103 = 0 := ex8_103
              refine x_iload (q := 107) dX11_isNamed_105 rfl rfl ?_
              refine x_if_eq (t := 154) (q := 110) dX11_isNamed_107 (by decide) rfl (fun c107 => ?_) (fun c107 => absurd c107 (by decide))
              refine x_iconst (v := 0) (q := 155) dX11_isNamed_154 rfl (by decide) ?_
              refine x_zret dX11_isNamed_155 rfl rfl rfl (Nat.le_refl _) ?_
              exact ⟨rfl, Or.inr ⟨fun h => c95 h.2.2.2.2.2, rfl⟩⟩
            · refine x_iconst (v := 1) (q := 99) dX11_isNamed_98 rfl (by decide) ?_
              refine x_goto (q := 103) dX11_isNamed_99 (by decide) ?_
              refine x_istore (L' := fun x8_103 => [(8, .int x8_103), (7, .int 4), (0, .ref 99), (1, .int a1), (2, .int a2), (3, .int a3), (4, .int a4), (5, .int 0), (6, .int 0)]) (q := 105) dX11_isNamed_103 rfl (by decide) (fun _ => rfl) (fun x8_103 ex8_103 => ?_)
              obtain rfl : x8_103 = 1 := ex8_103
              refine x_iload (q := 107) dX11_isNamed_105 rfl rfl ?_
              refine x_if_eq (t := 154) (q := 110) dX11_isNamed_107 (by decide) rfl (fun c107 => absurd c107 (by decide)) (fun c107 => ?_)
              refine x_iload (q := 112) dX11_isNamed_110 rfl rfl ?_
              refine x_if_eq (t := 130) (q := 115) dX11_isNamed_112 (by decide) rfl (fun c112 => ?_) (fun c112 => absurd c112 (by decide))
              refine x_iload (q := 132) dX11_isNamed_130 rfl rfl ?_
              refine x_if_eq (t := 150) (q := 135) dX11_isNamed_132 (by decide) rfl (fun c132 => ?_) (fun c132 => absurd c132 (by decide))
              refine x_iconst (v := 1) (q := 151) dX11_isNamed_150 rfl (by decide) ?_
              refine x_goto (q := 155) dX11_isNamed_151 (by decide) ?_
              refine x_zret dX11_isNamed_155 rfl rfl rfl (Nat.le_refl _) ?_
              exact ⟨rfl, Or.inl ⟨⟨kw_1 c26, (nIne (by omega) (by decide)).mp (show nI (tkE lt N q - tsp lt N q) = nI 4 from c40), c52, c66, c80, c95⟩, rfl⟩⟩

set_option maxHeartbeats 4000000 in
set_option maxRecDepth 100000 in
theorem c_m_named5 {n N : Nat} {M : Nat → xE} {t : Nat → Nat → Int32} {u : Nat → Nat → Int64} {lt w : Nat → Int32} {ib v c : Int32} {q : Nat} (hn : 113 < n) (hN : N ≤ 160) (hq : q ≤ N) (hR : oR t u lt N w (nI (tkE lt N q)) (nI (tsp lt N q)) (kw (tkK lt N q)) ib v c M) {a1 a2 a3 a4 a5 : Int32} (h5 : ¬ a5 = 0) : xMet mX11_isNamed [.ref 99, .int a1, .int a2, .int a3, .int a4, .int a5, .int 0] n M (fun r M' => M = M' ∧ xB (tkK lt N q = 0 ∧ tkE lt N q - tsp lt N q = 5 ∧ lA lt N (tsp lt N q) = a1 ∧ lA lt N (tsp lt N q + 1) = a2 ∧ lA lt N (tsp lt N q + 2) = a3 ∧ lA lt N (tsp lt N q + 3) = a4 ∧ lA lt N (tsp lt N q + 4) = a5) r) := by
  have hb := tkE_b lt hq
  have hb0 := tsp_b lt hq
  have hR0 := hR
  obtain ⟨mp0, mp1, mp4⟩ := hR
  have hiX11 : ∀ w ∈ wsX110, w ∈ wsX11_isNamed := by decide +kernel
  refine xMet.of _ (by decide) rfl (Nat.le_of_ble_eq_true rfl) ?_
  refine x_iload (q := 2) dX11_isNamed_0 rfl rfl ?_
  refine x_if_ne (t := 9) (q := 5) dX11_isNamed_2 (by decide) rfl (fun c2 => ?_) (fun c2 => absurd c2 h5)
  refine x_iload (q := 11) dX11_isNamed_9 rfl rfl ?_
  refine x_if_ne (t := 18) (q := 14) dX11_isNamed_11 (by decide) rfl (fun c11 => absurd c11 (by decide)) (fun c11 => ?_)
  refine x_iconst (v := 5) (q := 15) dX11_isNamed_14 rfl (by decide) ?_
  refine x_goto (q := 20) dX11_isNamed_15 (by decide) ?_
  refine x_istore (L' := fun x7_20 => [(7, .int x7_20), (0, .ref 99), (1, .int a1), (2, .int a2), (3, .int a3), (4, .int a4), (5, .int a5), (6, .int 0)]) (q := 22) dX11_isNamed_20 rfl (by decide) (fun _ => rfl) (fun x7_20 ex7_20 => ?_)
  obtain rfl : x7_20 = 5 := ex7_20
  refine x_aload_n (q := 23) dX11_isNamed_22 rfl rfl ?_
  refine x_getf (C := RX11) (T := TX11) (N := 29) (k := 8) (q := 26) mp0 (by omega) rfl hiX11 (by decide) (by decide +kernel) rfl dX11_isNamed_23 rfl ?_
  refine x_if_eq (t := 102) (q := 29) dX11_isNamed_26 (by decide) rfl (fun c26 => ?_) (fun c26 => ?_)
  · refine x_iconst (v := 0) (q := 103) dX11_isNamed_102 rfl (by decide) ?_
    refine x_istore (L' := fun x8_103 => [(8, .int x8_103), (7, .int 5), (0, .ref 99), (1, .int a1), (2, .int a2), (3, .int a3), (4, .int a4), (5, .int a5), (6, .int 0)]) (q := 105) dX11_isNamed_103 rfl (by decide) (fun _ => rfl) (fun x8_103 ex8_103 => ?_)
    obtain rfl : x8_103 = 0 := ex8_103
    refine x_iload (q := 107) dX11_isNamed_105 rfl rfl ?_
    refine x_if_eq (t := 154) (q := 110) dX11_isNamed_107 (by decide) rfl (fun c107 => ?_) (fun c107 => absurd c107 (by decide))
    refine x_iconst (v := 0) (q := 155) dX11_isNamed_154 rfl (by decide) ?_
    refine x_zret dX11_isNamed_155 rfl rfl rfl (Nat.le_refl _) ?_
    exact ⟨rfl, Or.inr ⟨fun h => kw_0 c26 h.1, rfl⟩⟩
  · refine x_aload_n (q := 30) dX11_isNamed_29 rfl rfl ?_
    refine x_getf (C := RX11) (T := TX11) (N := 29) (k := 6) (q := 33) mp0 (by omega) rfl hiX11 (by decide) (by decide +kernel) rfl dX11_isNamed_30 rfl ?_
    refine x_aload_n (q := 34) dX11_isNamed_33 rfl rfl ?_
    refine x_getf (C := RX11) (T := TX11) (N := 29) (k := 7) (q := 37) mp0 (by omega) rfl hiX11 (by decide) (by decide +kernel) rfl dX11_isNamed_34 rfl ?_
    refine x_isub (q := 38) dX11_isNamed_37 rfl ?_
    rw [pk_sub hb.1]
    refine x_iload (q := 40) dX11_isNamed_38 rfl rfl ?_
    refine x_icmp_ne (t := 102) (q := 43) dX11_isNamed_40 (by decide) rfl (fun c40 => ?_) (fun c40 => ?_)
    · refine x_iconst (v := 0) (q := 103) dX11_isNamed_102 rfl (by decide) ?_
      refine x_istore (L' := fun x8_103 => [(8, .int x8_103), (7, .int 5), (0, .ref 99), (1, .int a1), (2, .int a2), (3, .int a3), (4, .int a4), (5, .int a5), (6, .int 0)]) (q := 105) dX11_isNamed_103 rfl (by decide) (fun _ => rfl) (fun x8_103 ex8_103 => ?_)
      obtain rfl : x8_103 = 0 := ex8_103
      refine x_iload (q := 107) dX11_isNamed_105 rfl rfl ?_
      refine x_if_eq (t := 154) (q := 110) dX11_isNamed_107 (by decide) rfl (fun c107 => ?_) (fun c107 => absurd c107 (by decide))
      refine x_iconst (v := 0) (q := 155) dX11_isNamed_154 rfl (by decide) ?_
      refine x_zret dX11_isNamed_155 rfl rfl rfl (Nat.le_refl _) ?_
      exact ⟨rfl, Or.inr ⟨fun h => c40 (by rw [h.2.1]; rfl), rfl⟩⟩
    · refine x_aload_n (q := 44) dX11_isNamed_43 rfl rfl ?_
      refine x_aload_n (q := 45) dX11_isNamed_44 rfl rfl ?_
      refine x_getf (C := RX11) (T := TX11) (N := 29) (k := 7) (q := 48) mp0 (by omega) rfl hiX11 (by decide) (by decide +kernel) rfl dX11_isNamed_45 rfl ?_
      refine x_callV (q := 51) (ci := 11) (c_m_let hn hN ⟨mp0, mp1, mp4⟩ (k := tsp lt N q) (by omega)) eX11_isNamed_95 gX11_isNamed_X11_letterAt mp0 (by omega) rfl rfl rfl (Nat.le_of_ble_eq_true rfl) ⟨Nat.le_refl _, Nat.le_refl _⟩ dX11_isNamed_48 rfl rfl (fun r48 M48 p48 => ?_)
      obtain ⟨rfl, rfl⟩ := p48
      refine x_iload_n (q := 52) dX11_isNamed_51 rfl rfl ?_
      refine x_icmp_ne (t := 102) (q := 55) dX11_isNamed_52 (by decide) rfl (fun c52 => ?_) (fun c52 => ?_)
      · refine x_iconst (v := 0) (q := 103) dX11_isNamed_102 rfl (by decide) ?_
        refine x_istore (L' := fun x8_103 => [(8, .int x8_103), (7, .int 5), (0, .ref 99), (1, .int a1), (2, .int a2), (3, .int a3), (4, .int a4), (5, .int a5), (6, .int 0)]) (q := 105) dX11_isNamed_103 rfl (by decide) (fun _ => rfl) (fun x8_103 ex8_103 => ?_)
        obtain rfl : x8_103 = 0 := ex8_103
        refine x_iload (q := 107) dX11_isNamed_105 rfl rfl ?_
        refine x_if_eq (t := 154) (q := 110) dX11_isNamed_107 (by decide) rfl (fun c107 => ?_) (fun c107 => absurd c107 (by decide))
        refine x_iconst (v := 0) (q := 155) dX11_isNamed_154 rfl (by decide) ?_
        refine x_zret dX11_isNamed_155 rfl rfl rfl (Nat.le_refl _) ?_
        exact ⟨rfl, Or.inr ⟨fun h => c52 h.2.2.1, rfl⟩⟩
      · refine x_aload_n (q := 56) dX11_isNamed_55 rfl rfl ?_
        refine x_aload_n (q := 57) dX11_isNamed_56 rfl rfl ?_
        refine x_getf (C := RX11) (T := TX11) (N := 29) (k := 7) (q := 60) mp0 (by omega) rfl hiX11 (by decide) (by decide +kernel) rfl dX11_isNamed_57 rfl ?_
        refine x_iconst (v := 1) (q := 61) dX11_isNamed_60 rfl (by decide) ?_
        refine x_iadd (q := 62) dX11_isNamed_61 rfl ?_
        rw [show nI (tsp lt N q) + 1 = nI (tsp lt N q + 1) from nI_add _ 1]
        refine x_callV (q := 65) (ci := 11) (c_m_let hn hN ⟨mp0, mp1, mp4⟩ (k := tsp lt N q + 1) (by omega)) eX11_isNamed_95 gX11_isNamed_X11_letterAt mp0 (by omega) rfl rfl rfl (Nat.le_of_ble_eq_true rfl) ⟨Nat.le_refl _, Nat.le_refl _⟩ dX11_isNamed_62 rfl rfl (fun r62 M62 p62 => ?_)
        obtain ⟨rfl, rfl⟩ := p62
        refine x_iload_n (q := 66) dX11_isNamed_65 rfl rfl ?_
        refine x_icmp_ne (t := 102) (q := 69) dX11_isNamed_66 (by decide) rfl (fun c66 => ?_) (fun c66 => ?_)
        · refine x_iconst (v := 0) (q := 103) dX11_isNamed_102 rfl (by decide) ?_
          refine x_istore (L' := fun x8_103 => [(8, .int x8_103), (7, .int 5), (0, .ref 99), (1, .int a1), (2, .int a2), (3, .int a3), (4, .int a4), (5, .int a5), (6, .int 0)]) (q := 105) dX11_isNamed_103 rfl (by decide) (fun _ => rfl) (fun x8_103 ex8_103 => ?_)
          obtain rfl : x8_103 = 0 := ex8_103
          refine x_iload (q := 107) dX11_isNamed_105 rfl rfl ?_
          refine x_if_eq (t := 154) (q := 110) dX11_isNamed_107 (by decide) rfl (fun c107 => ?_) (fun c107 => absurd c107 (by decide))
          refine x_iconst (v := 0) (q := 155) dX11_isNamed_154 rfl (by decide) ?_
          refine x_zret dX11_isNamed_155 rfl rfl rfl (Nat.le_refl _) ?_
          exact ⟨rfl, Or.inr ⟨fun h => c66 h.2.2.2.1, rfl⟩⟩
        · refine x_aload_n (q := 70) dX11_isNamed_69 rfl rfl ?_
          refine x_aload_n (q := 71) dX11_isNamed_70 rfl rfl ?_
          refine x_getf (C := RX11) (T := TX11) (N := 29) (k := 7) (q := 74) mp0 (by omega) rfl hiX11 (by decide) (by decide +kernel) rfl dX11_isNamed_71 rfl ?_
          refine x_iconst (v := 2) (q := 75) dX11_isNamed_74 rfl (by decide) ?_
          refine x_iadd (q := 76) dX11_isNamed_75 rfl ?_
          rw [show nI (tsp lt N q) + 2 = nI (tsp lt N q + 2) from nI_add _ 2]
          refine x_callV (q := 79) (ci := 11) (c_m_let hn hN ⟨mp0, mp1, mp4⟩ (k := tsp lt N q + 2) (by omega)) eX11_isNamed_95 gX11_isNamed_X11_letterAt mp0 (by omega) rfl rfl rfl (Nat.le_of_ble_eq_true rfl) ⟨Nat.le_refl _, Nat.le_refl _⟩ dX11_isNamed_76 rfl rfl (fun r76 M76 p76 => ?_)
          obtain ⟨rfl, rfl⟩ := p76
          refine x_iload_n (q := 80) dX11_isNamed_79 rfl rfl ?_
          refine x_icmp_ne (t := 102) (q := 83) dX11_isNamed_80 (by decide) rfl (fun c80 => ?_) (fun c80 => ?_)
          · refine x_iconst (v := 0) (q := 103) dX11_isNamed_102 rfl (by decide) ?_
            refine x_istore (L' := fun x8_103 => [(8, .int x8_103), (7, .int 5), (0, .ref 99), (1, .int a1), (2, .int a2), (3, .int a3), (4, .int a4), (5, .int a5), (6, .int 0)]) (q := 105) dX11_isNamed_103 rfl (by decide) (fun _ => rfl) (fun x8_103 ex8_103 => ?_)
            obtain rfl : x8_103 = 0 := ex8_103
            refine x_iload (q := 107) dX11_isNamed_105 rfl rfl ?_
            refine x_if_eq (t := 154) (q := 110) dX11_isNamed_107 (by decide) rfl (fun c107 => ?_) (fun c107 => absurd c107 (by decide))
            refine x_iconst (v := 0) (q := 155) dX11_isNamed_154 rfl (by decide) ?_
            refine x_zret dX11_isNamed_155 rfl rfl rfl (Nat.le_refl _) ?_
            exact ⟨rfl, Or.inr ⟨fun h => c80 h.2.2.2.2.1, rfl⟩⟩
          · refine x_aload_n (q := 84) dX11_isNamed_83 rfl rfl ?_
            refine x_aload_n (q := 85) dX11_isNamed_84 rfl rfl ?_
            refine x_getf (C := RX11) (T := TX11) (N := 29) (k := 7) (q := 88) mp0 (by omega) rfl hiX11 (by decide) (by decide +kernel) rfl dX11_isNamed_85 rfl ?_
            refine x_iconst (v := 3) (q := 89) dX11_isNamed_88 rfl (by decide) ?_
            refine x_iadd (q := 90) dX11_isNamed_89 rfl ?_
            rw [show nI (tsp lt N q) + 3 = nI (tsp lt N q + 3) from nI_add _ 3]
            refine x_callV (q := 93) (ci := 11) (c_m_let hn hN ⟨mp0, mp1, mp4⟩ (k := tsp lt N q + 3) (by omega)) eX11_isNamed_95 gX11_isNamed_X11_letterAt mp0 (by omega) rfl rfl rfl (Nat.le_of_ble_eq_true rfl) ⟨Nat.le_refl _, Nat.le_refl _⟩ dX11_isNamed_90 rfl rfl (fun r90 M90 p90 => ?_)
            obtain ⟨rfl, rfl⟩ := p90
            refine x_iload (q := 95) dX11_isNamed_93 rfl rfl ?_
            refine x_icmp_ne (t := 102) (q := 98) dX11_isNamed_95 (by decide) rfl (fun c95 => ?_) (fun c95 => ?_)
            · refine x_iconst (v := 0) (q := 103) dX11_isNamed_102 rfl (by decide) ?_
              refine x_istore (L' := fun x8_103 => [(8, .int x8_103), (7, .int 5), (0, .ref 99), (1, .int a1), (2, .int a2), (3, .int a3), (4, .int a4), (5, .int a5), (6, .int 0)]) (q := 105) dX11_isNamed_103 rfl (by decide) (fun _ => rfl) (fun x8_103 ex8_103 => ?_)
              obtain rfl : x8_103 = 0 := ex8_103
              refine x_iload (q := 107) dX11_isNamed_105 rfl rfl ?_
              refine x_if_eq (t := 154) (q := 110) dX11_isNamed_107 (by decide) rfl (fun c107 => ?_) (fun c107 => absurd c107 (by decide))
              refine x_iconst (v := 0) (q := 155) dX11_isNamed_154 rfl (by decide) ?_
              refine x_zret dX11_isNamed_155 rfl rfl rfl (Nat.le_refl _) ?_
              exact ⟨rfl, Or.inr ⟨fun h => c95 h.2.2.2.2.2.1, rfl⟩⟩
            · refine x_iconst (v := 1) (q := 99) dX11_isNamed_98 rfl (by decide) ?_
              refine x_goto (q := 103) dX11_isNamed_99 (by decide) ?_
              refine x_istore (L' := fun x8_103 => [(8, .int x8_103), (7, .int 5), (0, .ref 99), (1, .int a1), (2, .int a2), (3, .int a3), (4, .int a4), (5, .int a5), (6, .int 0)]) (q := 105) dX11_isNamed_103 rfl (by decide) (fun _ => rfl) (fun x8_103 ex8_103 => ?_)
              obtain rfl : x8_103 = 1 := ex8_103
              refine x_iload (q := 107) dX11_isNamed_105 rfl rfl ?_
              refine x_if_eq (t := 154) (q := 110) dX11_isNamed_107 (by decide) rfl (fun c107 => absurd c107 (by decide)) (fun c107 => ?_)
              refine x_iload (q := 112) dX11_isNamed_110 rfl rfl ?_
              refine x_if_eq (t := 130) (q := 115) dX11_isNamed_112 (by decide) rfl (fun c112 => absurd c112 h5) (fun c112 => ?_)
              refine x_aload_n (q := 116) dX11_isNamed_115 rfl rfl ?_
              refine x_aload_n (q := 117) dX11_isNamed_116 rfl rfl ?_
              refine x_getf (C := RX11) (T := TX11) (N := 29) (k := 7) (q := 120) mp0 (by omega) rfl hiX11 (by decide) (by decide +kernel) rfl dX11_isNamed_117 rfl ?_
              refine x_iconst (v := 4) (q := 121) dX11_isNamed_120 rfl (by decide) ?_
              refine x_iadd (q := 122) dX11_isNamed_121 rfl ?_
              rw [show nI (tsp lt N q) + 4 = nI (tsp lt N q + 4) from nI_add _ 4]
              refine x_callV (q := 125) (ci := 11) (c_m_let hn hN ⟨mp0, mp1, mp4⟩ (k := tsp lt N q + 4) (by omega)) eX11_isNamed_95 gX11_isNamed_X11_letterAt mp0 (by omega) rfl rfl rfl (Nat.le_of_ble_eq_true rfl) ⟨Nat.le_refl _, Nat.le_refl _⟩ dX11_isNamed_122 rfl rfl (fun r122 M122 p122 => ?_)
              obtain ⟨rfl, rfl⟩ := p122
              refine x_iload (q := 127) dX11_isNamed_125 rfl rfl ?_
              refine x_icmp_ne (t := 154) (q := 130) dX11_isNamed_127 (by decide) rfl (fun c127 => ?_) (fun c127 => ?_)
              · refine x_iconst (v := 0) (q := 155) dX11_isNamed_154 rfl (by decide) ?_
                refine x_zret dX11_isNamed_155 rfl rfl rfl (Nat.le_refl _) ?_
                exact ⟨rfl, Or.inr ⟨fun h => c127 h.2.2.2.2.2.2, rfl⟩⟩
              · refine x_iload (q := 132) dX11_isNamed_130 rfl rfl ?_
                refine x_if_eq (t := 150) (q := 135) dX11_isNamed_132 (by decide) rfl (fun c132 => ?_) (fun c132 => absurd c132 (by decide))
                refine x_iconst (v := 1) (q := 151) dX11_isNamed_150 rfl (by decide) ?_
                refine x_goto (q := 155) dX11_isNamed_151 (by decide) ?_
                refine x_zret dX11_isNamed_155 rfl rfl rfl (Nat.le_refl _) ?_
                exact ⟨rfl, Or.inl ⟨⟨kw_1 c26, (nIne (by omega) (by decide)).mp (show nI (tkE lt N q - tsp lt N q) = nI 5 from c40), c52, c66, c80, c95, c127⟩, rfl⟩⟩

set_option maxHeartbeats 4000000 in
set_option maxRecDepth 100000 in
theorem c_m_named6 {n N : Nat} {M : Nat → xE} {t : Nat → Nat → Int32} {u : Nat → Nat → Int64} {lt w : Nat → Int32} {ib v c : Int32} {q : Nat} (hn : 113 < n) (hN : N ≤ 160) (hq : q ≤ N) (hR : oR t u lt N w (nI (tkE lt N q)) (nI (tsp lt N q)) (kw (tkK lt N q)) ib v c M) {a1 a2 a3 a4 a5 a6 : Int32} (h5 : ¬ a5 = 0) (h6 : ¬ a6 = 0) : xMet mX11_isNamed [.ref 99, .int a1, .int a2, .int a3, .int a4, .int a5, .int a6] n M (fun r M' => M = M' ∧ xB (tkK lt N q = 0 ∧ tkE lt N q - tsp lt N q = 6 ∧ lA lt N (tsp lt N q) = a1 ∧ lA lt N (tsp lt N q + 1) = a2 ∧ lA lt N (tsp lt N q + 2) = a3 ∧ lA lt N (tsp lt N q + 3) = a4 ∧ lA lt N (tsp lt N q + 4) = a5 ∧ lA lt N (tsp lt N q + 5) = a6) r) := by
  have hb := tkE_b lt hq
  have hb0 := tsp_b lt hq
  have hR0 := hR
  obtain ⟨mp0, mp1, mp4⟩ := hR
  have hiX11 : ∀ w ∈ wsX110, w ∈ wsX11_isNamed := by decide +kernel
  refine xMet.of _ (by decide) rfl (Nat.le_of_ble_eq_true rfl) ?_
  refine x_iload (q := 2) dX11_isNamed_0 rfl rfl ?_
  refine x_if_ne (t := 9) (q := 5) dX11_isNamed_2 (by decide) rfl (fun c2 => ?_) (fun c2 => absurd c2 h5)
  refine x_iload (q := 11) dX11_isNamed_9 rfl rfl ?_
  refine x_if_ne (t := 18) (q := 14) dX11_isNamed_11 (by decide) rfl (fun c11 => ?_) (fun c11 => absurd c11 h6)
  refine x_bipush (v := 6) (q := 20) dX11_isNamed_18 rfl (by decide) ?_
  refine x_istore (L' := fun x7_20 => [(7, .int x7_20), (0, .ref 99), (1, .int a1), (2, .int a2), (3, .int a3), (4, .int a4), (5, .int a5), (6, .int a6)]) (q := 22) dX11_isNamed_20 rfl (by decide) (fun _ => rfl) (fun x7_20 ex7_20 => ?_)
  obtain rfl : x7_20 = 6 := ex7_20
  refine x_aload_n (q := 23) dX11_isNamed_22 rfl rfl ?_
  refine x_getf (C := RX11) (T := TX11) (N := 29) (k := 8) (q := 26) mp0 (by omega) rfl hiX11 (by decide) (by decide +kernel) rfl dX11_isNamed_23 rfl ?_
  refine x_if_eq (t := 102) (q := 29) dX11_isNamed_26 (by decide) rfl (fun c26 => ?_) (fun c26 => ?_)
  · refine x_iconst (v := 0) (q := 103) dX11_isNamed_102 rfl (by decide) ?_
    refine x_istore (L' := fun x8_103 => [(8, .int x8_103), (7, .int 6), (0, .ref 99), (1, .int a1), (2, .int a2), (3, .int a3), (4, .int a4), (5, .int a5), (6, .int a6)]) (q := 105) dX11_isNamed_103 rfl (by decide) (fun _ => rfl) (fun x8_103 ex8_103 => ?_)
    obtain rfl : x8_103 = 0 := ex8_103
    refine x_iload (q := 107) dX11_isNamed_105 rfl rfl ?_
    refine x_if_eq (t := 154) (q := 110) dX11_isNamed_107 (by decide) rfl (fun c107 => ?_) (fun c107 => absurd c107 (by decide))
    refine x_iconst (v := 0) (q := 155) dX11_isNamed_154 rfl (by decide) ?_
    refine x_zret dX11_isNamed_155 rfl rfl rfl (Nat.le_refl _) ?_
    exact ⟨rfl, Or.inr ⟨fun h => kw_0 c26 h.1, rfl⟩⟩
  · refine x_aload_n (q := 30) dX11_isNamed_29 rfl rfl ?_
    refine x_getf (C := RX11) (T := TX11) (N := 29) (k := 6) (q := 33) mp0 (by omega) rfl hiX11 (by decide) (by decide +kernel) rfl dX11_isNamed_30 rfl ?_
    refine x_aload_n (q := 34) dX11_isNamed_33 rfl rfl ?_
    refine x_getf (C := RX11) (T := TX11) (N := 29) (k := 7) (q := 37) mp0 (by omega) rfl hiX11 (by decide) (by decide +kernel) rfl dX11_isNamed_34 rfl ?_
    refine x_isub (q := 38) dX11_isNamed_37 rfl ?_
    rw [pk_sub hb.1]
    refine x_iload (q := 40) dX11_isNamed_38 rfl rfl ?_
    refine x_icmp_ne (t := 102) (q := 43) dX11_isNamed_40 (by decide) rfl (fun c40 => ?_) (fun c40 => ?_)
    · refine x_iconst (v := 0) (q := 103) dX11_isNamed_102 rfl (by decide) ?_
      refine x_istore (L' := fun x8_103 => [(8, .int x8_103), (7, .int 6), (0, .ref 99), (1, .int a1), (2, .int a2), (3, .int a3), (4, .int a4), (5, .int a5), (6, .int a6)]) (q := 105) dX11_isNamed_103 rfl (by decide) (fun _ => rfl) (fun x8_103 ex8_103 => ?_)
      obtain rfl : x8_103 = 0 := ex8_103
      refine x_iload (q := 107) dX11_isNamed_105 rfl rfl ?_
      refine x_if_eq (t := 154) (q := 110) dX11_isNamed_107 (by decide) rfl (fun c107 => ?_) (fun c107 => absurd c107 (by decide))
      refine x_iconst (v := 0) (q := 155) dX11_isNamed_154 rfl (by decide) ?_
      refine x_zret dX11_isNamed_155 rfl rfl rfl (Nat.le_refl _) ?_
      exact ⟨rfl, Or.inr ⟨fun h => c40 (by rw [h.2.1]; rfl), rfl⟩⟩
    · refine x_aload_n (q := 44) dX11_isNamed_43 rfl rfl ?_
      refine x_aload_n (q := 45) dX11_isNamed_44 rfl rfl ?_
      refine x_getf (C := RX11) (T := TX11) (N := 29) (k := 7) (q := 48) mp0 (by omega) rfl hiX11 (by decide) (by decide +kernel) rfl dX11_isNamed_45 rfl ?_
      refine x_callV (q := 51) (ci := 11) (c_m_let hn hN ⟨mp0, mp1, mp4⟩ (k := tsp lt N q) (by omega)) eX11_isNamed_95 gX11_isNamed_X11_letterAt mp0 (by omega) rfl rfl rfl (Nat.le_of_ble_eq_true rfl) ⟨Nat.le_refl _, Nat.le_refl _⟩ dX11_isNamed_48 rfl rfl (fun r48 M48 p48 => ?_)
      obtain ⟨rfl, rfl⟩ := p48
      refine x_iload_n (q := 52) dX11_isNamed_51 rfl rfl ?_
      refine x_icmp_ne (t := 102) (q := 55) dX11_isNamed_52 (by decide) rfl (fun c52 => ?_) (fun c52 => ?_)
      · refine x_iconst (v := 0) (q := 103) dX11_isNamed_102 rfl (by decide) ?_
        refine x_istore (L' := fun x8_103 => [(8, .int x8_103), (7, .int 6), (0, .ref 99), (1, .int a1), (2, .int a2), (3, .int a3), (4, .int a4), (5, .int a5), (6, .int a6)]) (q := 105) dX11_isNamed_103 rfl (by decide) (fun _ => rfl) (fun x8_103 ex8_103 => ?_)
        obtain rfl : x8_103 = 0 := ex8_103
        refine x_iload (q := 107) dX11_isNamed_105 rfl rfl ?_
        refine x_if_eq (t := 154) (q := 110) dX11_isNamed_107 (by decide) rfl (fun c107 => ?_) (fun c107 => absurd c107 (by decide))
        refine x_iconst (v := 0) (q := 155) dX11_isNamed_154 rfl (by decide) ?_
        refine x_zret dX11_isNamed_155 rfl rfl rfl (Nat.le_refl _) ?_
        exact ⟨rfl, Or.inr ⟨fun h => c52 h.2.2.1, rfl⟩⟩
      · refine x_aload_n (q := 56) dX11_isNamed_55 rfl rfl ?_
        refine x_aload_n (q := 57) dX11_isNamed_56 rfl rfl ?_
        refine x_getf (C := RX11) (T := TX11) (N := 29) (k := 7) (q := 60) mp0 (by omega) rfl hiX11 (by decide) (by decide +kernel) rfl dX11_isNamed_57 rfl ?_
        refine x_iconst (v := 1) (q := 61) dX11_isNamed_60 rfl (by decide) ?_
        refine x_iadd (q := 62) dX11_isNamed_61 rfl ?_
        rw [show nI (tsp lt N q) + 1 = nI (tsp lt N q + 1) from nI_add _ 1]
        refine x_callV (q := 65) (ci := 11) (c_m_let hn hN ⟨mp0, mp1, mp4⟩ (k := tsp lt N q + 1) (by omega)) eX11_isNamed_95 gX11_isNamed_X11_letterAt mp0 (by omega) rfl rfl rfl (Nat.le_of_ble_eq_true rfl) ⟨Nat.le_refl _, Nat.le_refl _⟩ dX11_isNamed_62 rfl rfl (fun r62 M62 p62 => ?_)
        obtain ⟨rfl, rfl⟩ := p62
        refine x_iload_n (q := 66) dX11_isNamed_65 rfl rfl ?_
        refine x_icmp_ne (t := 102) (q := 69) dX11_isNamed_66 (by decide) rfl (fun c66 => ?_) (fun c66 => ?_)
        · refine x_iconst (v := 0) (q := 103) dX11_isNamed_102 rfl (by decide) ?_
          refine x_istore (L' := fun x8_103 => [(8, .int x8_103), (7, .int 6), (0, .ref 99), (1, .int a1), (2, .int a2), (3, .int a3), (4, .int a4), (5, .int a5), (6, .int a6)]) (q := 105) dX11_isNamed_103 rfl (by decide) (fun _ => rfl) (fun x8_103 ex8_103 => ?_)
          obtain rfl : x8_103 = 0 := ex8_103
          refine x_iload (q := 107) dX11_isNamed_105 rfl rfl ?_
          refine x_if_eq (t := 154) (q := 110) dX11_isNamed_107 (by decide) rfl (fun c107 => ?_) (fun c107 => absurd c107 (by decide))
          refine x_iconst (v := 0) (q := 155) dX11_isNamed_154 rfl (by decide) ?_
          refine x_zret dX11_isNamed_155 rfl rfl rfl (Nat.le_refl _) ?_
          exact ⟨rfl, Or.inr ⟨fun h => c66 h.2.2.2.1, rfl⟩⟩
        · refine x_aload_n (q := 70) dX11_isNamed_69 rfl rfl ?_
          refine x_aload_n (q := 71) dX11_isNamed_70 rfl rfl ?_
          refine x_getf (C := RX11) (T := TX11) (N := 29) (k := 7) (q := 74) mp0 (by omega) rfl hiX11 (by decide) (by decide +kernel) rfl dX11_isNamed_71 rfl ?_
          refine x_iconst (v := 2) (q := 75) dX11_isNamed_74 rfl (by decide) ?_
          refine x_iadd (q := 76) dX11_isNamed_75 rfl ?_
          rw [show nI (tsp lt N q) + 2 = nI (tsp lt N q + 2) from nI_add _ 2]
          refine x_callV (q := 79) (ci := 11) (c_m_let hn hN ⟨mp0, mp1, mp4⟩ (k := tsp lt N q + 2) (by omega)) eX11_isNamed_95 gX11_isNamed_X11_letterAt mp0 (by omega) rfl rfl rfl (Nat.le_of_ble_eq_true rfl) ⟨Nat.le_refl _, Nat.le_refl _⟩ dX11_isNamed_76 rfl rfl (fun r76 M76 p76 => ?_)
          obtain ⟨rfl, rfl⟩ := p76
          refine x_iload_n (q := 80) dX11_isNamed_79 rfl rfl ?_
          refine x_icmp_ne (t := 102) (q := 83) dX11_isNamed_80 (by decide) rfl (fun c80 => ?_) (fun c80 => ?_)
          · refine x_iconst (v := 0) (q := 103) dX11_isNamed_102 rfl (by decide) ?_
            refine x_istore (L' := fun x8_103 => [(8, .int x8_103), (7, .int 6), (0, .ref 99), (1, .int a1), (2, .int a2), (3, .int a3), (4, .int a4), (5, .int a5), (6, .int a6)]) (q := 105) dX11_isNamed_103 rfl (by decide) (fun _ => rfl) (fun x8_103 ex8_103 => ?_)
            obtain rfl : x8_103 = 0 := ex8_103
            refine x_iload (q := 107) dX11_isNamed_105 rfl rfl ?_
            refine x_if_eq (t := 154) (q := 110) dX11_isNamed_107 (by decide) rfl (fun c107 => ?_) (fun c107 => absurd c107 (by decide))
            refine x_iconst (v := 0) (q := 155) dX11_isNamed_154 rfl (by decide) ?_
            refine x_zret dX11_isNamed_155 rfl rfl rfl (Nat.le_refl _) ?_
            exact ⟨rfl, Or.inr ⟨fun h => c80 h.2.2.2.2.1, rfl⟩⟩
          · refine x_aload_n (q := 84) dX11_isNamed_83 rfl rfl ?_
            refine x_aload_n (q := 85) dX11_isNamed_84 rfl rfl ?_
            refine x_getf (C := RX11) (T := TX11) (N := 29) (k := 7) (q := 88) mp0 (by omega) rfl hiX11 (by decide) (by decide +kernel) rfl dX11_isNamed_85 rfl ?_
            refine x_iconst (v := 3) (q := 89) dX11_isNamed_88 rfl (by decide) ?_
            refine x_iadd (q := 90) dX11_isNamed_89 rfl ?_
            rw [show nI (tsp lt N q) + 3 = nI (tsp lt N q + 3) from nI_add _ 3]
            refine x_callV (q := 93) (ci := 11) (c_m_let hn hN ⟨mp0, mp1, mp4⟩ (k := tsp lt N q + 3) (by omega)) eX11_isNamed_95 gX11_isNamed_X11_letterAt mp0 (by omega) rfl rfl rfl (Nat.le_of_ble_eq_true rfl) ⟨Nat.le_refl _, Nat.le_refl _⟩ dX11_isNamed_90 rfl rfl (fun r90 M90 p90 => ?_)
            obtain ⟨rfl, rfl⟩ := p90
            refine x_iload (q := 95) dX11_isNamed_93 rfl rfl ?_
            refine x_icmp_ne (t := 102) (q := 98) dX11_isNamed_95 (by decide) rfl (fun c95 => ?_) (fun c95 => ?_)
            · refine x_iconst (v := 0) (q := 103) dX11_isNamed_102 rfl (by decide) ?_
              refine x_istore (L' := fun x8_103 => [(8, .int x8_103), (7, .int 6), (0, .ref 99), (1, .int a1), (2, .int a2), (3, .int a3), (4, .int a4), (5, .int a5), (6, .int a6)]) (q := 105) dX11_isNamed_103 rfl (by decide) (fun _ => rfl) (fun x8_103 ex8_103 => ?_)
              obtain rfl : x8_103 = 0 := ex8_103
              refine x_iload (q := 107) dX11_isNamed_105 rfl rfl ?_
              refine x_if_eq (t := 154) (q := 110) dX11_isNamed_107 (by decide) rfl (fun c107 => ?_) (fun c107 => absurd c107 (by decide))
              refine x_iconst (v := 0) (q := 155) dX11_isNamed_154 rfl (by decide) ?_
              refine x_zret dX11_isNamed_155 rfl rfl rfl (Nat.le_refl _) ?_
              exact ⟨rfl, Or.inr ⟨fun h => c95 h.2.2.2.2.2.1, rfl⟩⟩
            · refine x_iconst (v := 1) (q := 99) dX11_isNamed_98 rfl (by decide) ?_
              refine x_goto (q := 103) dX11_isNamed_99 (by decide) ?_
              refine x_istore (L' := fun x8_103 => [(8, .int x8_103), (7, .int 6), (0, .ref 99), (1, .int a1), (2, .int a2), (3, .int a3), (4, .int a4), (5, .int a5), (6, .int a6)]) (q := 105) dX11_isNamed_103 rfl (by decide) (fun _ => rfl) (fun x8_103 ex8_103 => ?_)
              obtain rfl : x8_103 = 1 := ex8_103
              refine x_iload (q := 107) dX11_isNamed_105 rfl rfl ?_
              refine x_if_eq (t := 154) (q := 110) dX11_isNamed_107 (by decide) rfl (fun c107 => absurd c107 (by decide)) (fun c107 => ?_)
              refine x_iload (q := 112) dX11_isNamed_110 rfl rfl ?_
              refine x_if_eq (t := 130) (q := 115) dX11_isNamed_112 (by decide) rfl (fun c112 => absurd c112 h5) (fun c112 => ?_)
              refine x_aload_n (q := 116) dX11_isNamed_115 rfl rfl ?_
              refine x_aload_n (q := 117) dX11_isNamed_116 rfl rfl ?_
              refine x_getf (C := RX11) (T := TX11) (N := 29) (k := 7) (q := 120) mp0 (by omega) rfl hiX11 (by decide) (by decide +kernel) rfl dX11_isNamed_117 rfl ?_
              refine x_iconst (v := 4) (q := 121) dX11_isNamed_120 rfl (by decide) ?_
              refine x_iadd (q := 122) dX11_isNamed_121 rfl ?_
              rw [show nI (tsp lt N q) + 4 = nI (tsp lt N q + 4) from nI_add _ 4]
              refine x_callV (q := 125) (ci := 11) (c_m_let hn hN ⟨mp0, mp1, mp4⟩ (k := tsp lt N q + 4) (by omega)) eX11_isNamed_95 gX11_isNamed_X11_letterAt mp0 (by omega) rfl rfl rfl (Nat.le_of_ble_eq_true rfl) ⟨Nat.le_refl _, Nat.le_refl _⟩ dX11_isNamed_122 rfl rfl (fun r122 M122 p122 => ?_)
              obtain ⟨rfl, rfl⟩ := p122
              refine x_iload (q := 127) dX11_isNamed_125 rfl rfl ?_
              refine x_icmp_ne (t := 154) (q := 130) dX11_isNamed_127 (by decide) rfl (fun c127 => ?_) (fun c127 => ?_)
              · refine x_iconst (v := 0) (q := 155) dX11_isNamed_154 rfl (by decide) ?_
                refine x_zret dX11_isNamed_155 rfl rfl rfl (Nat.le_refl _) ?_
                exact ⟨rfl, Or.inr ⟨fun h => c127 h.2.2.2.2.2.2.1, rfl⟩⟩
              · refine x_iload (q := 132) dX11_isNamed_130 rfl rfl ?_
                refine x_if_eq (t := 150) (q := 135) dX11_isNamed_132 (by decide) rfl (fun c132 => absurd c132 h6) (fun c132 => ?_)
                refine x_aload_n (q := 136) dX11_isNamed_135 rfl rfl ?_
                refine x_aload_n (q := 137) dX11_isNamed_136 rfl rfl ?_
                refine x_getf (C := RX11) (T := TX11) (N := 29) (k := 7) (q := 140) mp0 (by omega) rfl hiX11 (by decide) (by decide +kernel) rfl dX11_isNamed_137 rfl ?_
                refine x_iconst (v := 5) (q := 141) dX11_isNamed_140 rfl (by decide) ?_
                refine x_iadd (q := 142) dX11_isNamed_141 rfl ?_
                rw [show nI (tsp lt N q) + 5 = nI (tsp lt N q + 5) from nI_add _ 5]
                refine x_callV (q := 145) (ci := 11) (c_m_let hn hN ⟨mp0, mp1, mp4⟩ (k := tsp lt N q + 5) (by omega)) eX11_isNamed_95 gX11_isNamed_X11_letterAt mp0 (by omega) rfl rfl rfl (Nat.le_of_ble_eq_true rfl) ⟨Nat.le_refl _, Nat.le_refl _⟩ dX11_isNamed_142 rfl rfl (fun r142 M142 p142 => ?_)
                obtain ⟨rfl, rfl⟩ := p142
                refine x_iload (q := 147) dX11_isNamed_145 rfl rfl ?_
                refine x_icmp_ne (t := 154) (q := 150) dX11_isNamed_147 (by decide) rfl (fun c147 => ?_) (fun c147 => ?_)
                · refine x_iconst (v := 0) (q := 155) dX11_isNamed_154 rfl (by decide) ?_
                  refine x_zret dX11_isNamed_155 rfl rfl rfl (Nat.le_refl _) ?_
                  exact ⟨rfl, Or.inr ⟨fun h => c147 h.2.2.2.2.2.2.2, rfl⟩⟩
                · refine x_iconst (v := 1) (q := 151) dX11_isNamed_150 rfl (by decide) ?_
                  refine x_goto (q := 155) dX11_isNamed_151 (by decide) ?_
                  refine x_zret dX11_isNamed_155 rfl rfl rfl (Nat.le_refl _) ?_
                  exact ⟨rfl, Or.inl ⟨⟨kw_1 c26, (nIne (by omega) (by decide)).mp (show nI (tkE lt N q - tsp lt N q) = nI 6 from c40), c52, c66, c80, c95, c127, c147⟩, rfl⟩⟩

def nmP (lt : Nat → Int32) (N q c : Nat) : Prop := tkK lt N q = 0 ∧ spC lt (tsp lt N q) (tkE lt N q) c = true
theorem spR_iff {lt : Nat → Int32} {s c : Nat} : ∀ k i, spR lt s c k i = true ↔ ∀ j, i ≤ j → j < i + k → wB c j = lt (s + j)
  | 0, i => ⟨fun _ j h1 h2 => by omega, fun _ => rfl⟩
  | k + 1, i => by
    rw [spR]
    by_cases h : wB c i = lt (s + i)
    · rw [if_pos h, spR_iff k (i + 1)]
      exact ⟨fun z j h1 h2 => by
        by_cases e : j = i
        · rw [e]; exact h
        · exact z j (by omega) (by omega), fun z j h1 h2 => z j (by omega) (by omega)⟩
    · rw [if_neg h]
      exact ⟨fun z => (by cases z), fun z => absurd (z i (Nat.le_refl _) (by omega)) h⟩
theorem spC_iff {lt : Nat → Int32} {s e c : Nat} : spC lt s e c = true ↔ (wL c = e - s ∧ ∀ j, j < wL c → wB c j = lt (s + j)) := by
  unfold spC
  rw [Bool.and_eq_true, decide_eq_true_iff, spR_iff]
  exact ⟨fun h => ⟨h.1, fun j hj => h.2 j (Nat.zero_le _) (by omega)⟩, fun h => ⟨h.1, fun j _ hj => h.2 j (by omega)⟩⟩
theorem nm4 {lt : Nat → Int32} {N q x : Nat} {a1 a2 a3 a4 : Int32} (hq : q ≤ N) (hl : wL x = 4) (h0 : wB x 0 = a1) (h1 : wB x 1 = a2) (h2 : wB x 2 = a3) (h3 : wB x 3 = a4) : (tkK lt N q = 0 ∧ tkE lt N q - tsp lt N q = 4 ∧ lA lt N (tsp lt N q) = a1 ∧ lA lt N (tsp lt N q + 1) = a2 ∧ lA lt N (tsp lt N q + 2) = a3 ∧ lA lt N (tsp lt N q + 3) = a4) ↔ nmP lt N q x := by
  have hb := tkE_b lt hq
  unfold nmP
  rw [spC_iff, hl]
  constructor
  · rintro ⟨k0, k1, e0, e1, e2, e3⟩
    refine ⟨k0, k1.symm, fun j hj => ?_⟩
    rcases (show j = 0 ∨ j = 1 ∨ j = 2 ∨ j = 3 by omega) with e | e | e | e <;> subst e
    · rw [h0, ← e0]; exact lA_in (by omega)
    · rw [h1, ← e1]; exact lA_in (by omega)
    · rw [h2, ← e2]; exact lA_in (by omega)
    · rw [h3, ← e3]; exact lA_in (by omega)
  · rintro ⟨k0, k1, hj⟩
    refine ⟨k0, k1.symm, ?_, ?_, ?_, ?_⟩
    · rw [← h0, hj 0 (by decide)]; exact lA_in (by omega)
    · rw [← h1, hj 1 (by decide)]; exact lA_in (by omega)
    · rw [← h2, hj 2 (by decide)]; exact lA_in (by omega)
    · rw [← h3, hj 3 (by decide)]; exact lA_in (by omega)
theorem nm5 {lt : Nat → Int32} {N q x : Nat} {a1 a2 a3 a4 a5 : Int32} (hq : q ≤ N) (hl : wL x = 5) (h0 : wB x 0 = a1) (h1 : wB x 1 = a2) (h2 : wB x 2 = a3) (h3 : wB x 3 = a4) (h4 : wB x 4 = a5) : (tkK lt N q = 0 ∧ tkE lt N q - tsp lt N q = 5 ∧ lA lt N (tsp lt N q) = a1 ∧ lA lt N (tsp lt N q + 1) = a2 ∧ lA lt N (tsp lt N q + 2) = a3 ∧ lA lt N (tsp lt N q + 3) = a4 ∧ lA lt N (tsp lt N q + 4) = a5) ↔ nmP lt N q x := by
  have hb := tkE_b lt hq
  unfold nmP
  rw [spC_iff, hl]
  constructor
  · rintro ⟨k0, k1, e0, e1, e2, e3, e4⟩
    refine ⟨k0, k1.symm, fun j hj => ?_⟩
    rcases (show j = 0 ∨ j = 1 ∨ j = 2 ∨ j = 3 ∨ j = 4 by omega) with e | e | e | e | e <;> subst e
    · rw [h0, ← e0]; exact lA_in (by omega)
    · rw [h1, ← e1]; exact lA_in (by omega)
    · rw [h2, ← e2]; exact lA_in (by omega)
    · rw [h3, ← e3]; exact lA_in (by omega)
    · rw [h4, ← e4]; exact lA_in (by omega)
  · rintro ⟨k0, k1, hj⟩
    refine ⟨k0, k1.symm, ?_, ?_, ?_, ?_, ?_⟩
    · rw [← h0, hj 0 (by decide)]; exact lA_in (by omega)
    · rw [← h1, hj 1 (by decide)]; exact lA_in (by omega)
    · rw [← h2, hj 2 (by decide)]; exact lA_in (by omega)
    · rw [← h3, hj 3 (by decide)]; exact lA_in (by omega)
    · rw [← h4, hj 4 (by decide)]; exact lA_in (by omega)
theorem nm6 {lt : Nat → Int32} {N q x : Nat} {a1 a2 a3 a4 a5 a6 : Int32} (hq : q ≤ N) (hl : wL x = 6) (h0 : wB x 0 = a1) (h1 : wB x 1 = a2) (h2 : wB x 2 = a3) (h3 : wB x 3 = a4) (h4 : wB x 4 = a5) (h5 : wB x 5 = a6) : (tkK lt N q = 0 ∧ tkE lt N q - tsp lt N q = 6 ∧ lA lt N (tsp lt N q) = a1 ∧ lA lt N (tsp lt N q + 1) = a2 ∧ lA lt N (tsp lt N q + 2) = a3 ∧ lA lt N (tsp lt N q + 3) = a4 ∧ lA lt N (tsp lt N q + 4) = a5 ∧ lA lt N (tsp lt N q + 5) = a6) ↔ nmP lt N q x := by
  have hb := tkE_b lt hq
  unfold nmP
  rw [spC_iff, hl]
  constructor
  · rintro ⟨k0, k1, e0, e1, e2, e3, e4, e5⟩
    refine ⟨k0, k1.symm, fun j hj => ?_⟩
    rcases (show j = 0 ∨ j = 1 ∨ j = 2 ∨ j = 3 ∨ j = 4 ∨ j = 5 by omega) with e | e | e | e | e | e <;> subst e
    · rw [h0, ← e0]; exact lA_in (by omega)
    · rw [h1, ← e1]; exact lA_in (by omega)
    · rw [h2, ← e2]; exact lA_in (by omega)
    · rw [h3, ← e3]; exact lA_in (by omega)
    · rw [h4, ← e4]; exact lA_in (by omega)
    · rw [h5, ← e5]; exact lA_in (by omega)
  · rintro ⟨k0, k1, hj⟩
    refine ⟨k0, k1.symm, ?_, ?_, ?_, ?_, ?_, ?_⟩
    · rw [← h0, hj 0 (by decide)]; exact lA_in (by omega)
    · rw [← h1, hj 1 (by decide)]; exact lA_in (by omega)
    · rw [← h2, hj 2 (by decide)]; exact lA_in (by omega)
    · rw [← h3, hj 3 (by decide)]; exact lA_in (by omega)
    · rw [← h4, hj 4 (by decide)]; exact lA_in (by omega)
    · rw [← h5, hj 5 (by decide)]; exact lA_in (by omega)
def wdD (x y : Nat) : Bool := decide (x = y) || (!decide (wL x = wL y) || (List.range (wL x)).any (fun j => !decide (wB x j = wB y j)))
theorem wdD_ok : ∀ x, x < 12 → ∀ y, y < 12 → wdD x y = true := by decide +kernel
theorem sp_one {lt : Nat → Int32} {s e x y : Nat} (hx : x < 12) (hy : y < 12) (h1 : spC lt s e x = true) (h2 : spC lt s e y = true) : x = y := by
  rw [spC_iff] at h1 h2
  have h := wdD_ok x hx y hy
  unfold wdD at h
  rw [Bool.or_eq_true, Bool.or_eq_true, decide_eq_true_iff] at h
  rcases h with h | h | h
  · exact h
  · rw [decide_eq_true (show wL x = wL y by rw [h1.1, h2.1])] at h; cases h
  · rw [List.any_eq_true] at h
    obtain ⟨j, hj, hb⟩ := h
    rw [List.mem_range] at hj
    rw [decide_eq_true (show wB x j = wB y j by rw [h1.2 j hj, h2.2 j (by rw [h2.1, ← h1.1]; exact hj)])] at hb
    cases hb
theorem wdF_of {lt : Nat → Int32} {s e x : Nat} (hx : x < 12) (h : spC lt s e x = true) : ∀ k i, i ≤ x → x < i + k → i + k ≤ 12 → wdF lt s e k i = some x
  | 0, i, h1, h2, _ => by omega
  | k + 1, i, h1, h2, h3 => by
    rw [wdF]
    by_cases q : spC lt s e i = true
    · rw [if_pos q, sp_one (by omega) hx q h]
    · rw [if_neg q]
      have : ¬ i = x := fun z => q (by rw [z]; exact h)
      exact wdF_of hx h k (i + 1) (by omega) (by omega) (by omega)
theorem wdF_no {lt : Nat → Int32} {s e : Nat} : ∀ k i, (∀ x, i ≤ x → x < i + k → ¬ spC lt s e x = true) → wdF lt s e k i = none
  | 0, _, _ => rfl
  | k + 1, i, h => by
    rw [wdF, if_neg (h i (Nat.le_refl _) (by omega))]
    exact wdF_no k (i + 1) (fun x h1 h2 => h x (by omega) (by omega))
theorem wd_some {lt : Nat → Int32} {N q x : Nat} (hx : x < 12) (h : nmP lt N q x) : wdT lt N q = some x := by
  unfold wdT
  rw [if_pos h.1]
  exact wdF_of hx h.2 12 0 (Nat.zero_le _) (by omega) (Nat.le_refl _)
theorem wd_none {lt : Nat → Int32} {N q : Nat} (h : ∀ x, x < 12 → ¬ nmP lt N q x) : wdT lt N q = none := by
  unfold wdT
  by_cases k : tkK lt N q = 0
  · rw [if_pos k]
    exact wdF_no 12 0 (fun x _ hx z => h x (by omega) ⟨k, z⟩)
  · rw [if_neg k]
def mwC (x : Nat) : Nat := ([4, 0, 1, 2, 3, 5, 6, 7, 8, 9, 10, 11] : List Nat).getD x 0
def mwO (o : Option Nat) : Int32 := o.elim (-1) (fun x => nI (mwC x))
set_option maxHeartbeats 4000000 in
set_option maxRecDepth 100000 in
theorem c_m_word {n N : Nat} {M : Nat → xE} {t : Nat → Nat → Int32} {u : Nat → Nat → Int64} {lt w : Nat → Int32} {ib v c : Int32} {q : Nat} (hn : 113 < n) (hN : N ≤ 160) (hq : q ≤ N) (hR : oR t u lt N w (nI (tkE lt N q)) (nI (tsp lt N q)) (kw (tkK lt N q)) ib v c M) : xMet mX11_wordNow [.ref 99] n M (fun r M' => M = M' ∧ some (.int (mwO (wdT lt N q))) = r) := by
  have hR0 := hR
  obtain ⟨mp0, mp1, mp4⟩ := hR
  refine xMet.of _ (by decide) rfl (Nat.le_of_ble_eq_true rfl) ?_
  refine x_aload_n (q := 1) dX11_wordNow_0 rfl rfl ?_
  refine x_bipush (v := 115) (q := 3) dX11_wordNow_1 rfl (by decide) ?_
  refine x_bipush (v := 109) (q := 5) dX11_wordNow_3 rfl (by decide) ?_
  refine x_bipush (v := 105) (q := 7) dX11_wordNow_5 rfl (by decide) ?_
  refine x_bipush (v := 116) (q := 9) dX11_wordNow_7 rfl (by decide) ?_
  refine x_bipush (v := 104) (q := 11) dX11_wordNow_9 rfl (by decide) ?_
  refine x_iconst (v := 0) (q := 12) dX11_wordNow_11 rfl (by decide) ?_
  refine x_callV (q := 15) (ci := 11) (c_m_named5 hn hN hq hR0 (by decide)) eX11_wordNow_123 gX11_wordNow_X11_isNamed mp0 (by omega) rfl rfl rfl (Nat.le_of_ble_eq_true rfl) ⟨Nat.le_refl _, Nat.le_refl _⟩ dX11_wordNow_12 rfl rfl (fun r12 M12 p12 => ?_)
  obtain ⟨rfl, p12⟩ := p12
  rcases p12 with ⟨b12, rfl⟩ | ⟨b12, rfl⟩
  · have n1 := (nm5 (x := 1) hq (by decide +kernel) (by decide +kernel) (by decide +kernel) (by decide +kernel) (by decide +kernel) (by decide +kernel)).mp b12
    refine x_if_eq (t := 20) (q := 18) dX11_wordNow_15 (by decide) rfl (fun c15 => absurd c15 (by decide)) (fun c15 => ?_)
    refine x_iconst (v := 0) (q := 19) dX11_wordNow_18 rfl (by decide) ?_
    refine x_iret dX11_wordNow_19 rfl rfl (Nat.le_refl _) ?_
    refine ⟨rfl, ?_⟩
    rw [wd_some (x := 1) (by decide) n1]
    rfl
  · have n1 : ¬ nmP lt N q 1 := fun h => b12 ((nm5 (x := 1) hq (by decide +kernel) (by decide +kernel) (by decide +kernel) (by decide +kernel) (by decide +kernel) (by decide +kernel)).mpr h)
    refine x_if_eq (t := 20) (q := 18) dX11_wordNow_15 (by decide) rfl (fun c15 => ?_) (fun c15 => absurd c15 (by decide))
    refine x_aload_n (q := 21) dX11_wordNow_20 rfl rfl ?_
    refine x_bipush (v := 109) (q := 23) dX11_wordNow_21 rfl (by decide) ?_
    refine x_bipush (v := 97) (q := 25) dX11_wordNow_23 rfl (by decide) ?_
    refine x_bipush (v := 115) (q := 27) dX11_wordNow_25 rfl (by decide) ?_
    refine x_bipush (v := 111) (q := 29) dX11_wordNow_27 rfl (by decide) ?_
    refine x_bipush (v := 110) (q := 31) dX11_wordNow_29 rfl (by decide) ?_
    refine x_iconst (v := 0) (q := 32) dX11_wordNow_31 rfl (by decide) ?_
    refine x_callV (q := 35) (ci := 11) (c_m_named5 hn hN hq hR0 (by decide)) eX11_wordNow_123 gX11_wordNow_X11_isNamed mp0 (by omega) rfl rfl rfl (Nat.le_of_ble_eq_true rfl) ⟨Nat.le_refl _, Nat.le_refl _⟩ dX11_wordNow_32 rfl rfl (fun r32 M32 p32 => ?_)
    obtain ⟨rfl, p32⟩ := p32
    rcases p32 with ⟨b32, rfl⟩ | ⟨b32, rfl⟩
    · have n2 := (nm5 (x := 2) hq (by decide +kernel) (by decide +kernel) (by decide +kernel) (by decide +kernel) (by decide +kernel) (by decide +kernel)).mp b32
      refine x_if_eq (t := 40) (q := 38) dX11_wordNow_35 (by decide) rfl (fun c35 => absurd c35 (by decide)) (fun c35 => ?_)
      refine x_iconst (v := 1) (q := 39) dX11_wordNow_38 rfl (by decide) ?_
      refine x_iret dX11_wordNow_39 rfl rfl (Nat.le_refl _) ?_
      refine ⟨rfl, ?_⟩
      rw [wd_some (x := 2) (by decide) n2]
      rfl
    · have n2 : ¬ nmP lt N q 2 := fun h => b32 ((nm5 (x := 2) hq (by decide +kernel) (by decide +kernel) (by decide +kernel) (by decide +kernel) (by decide +kernel) (by decide +kernel)).mpr h)
      refine x_if_eq (t := 40) (q := 38) dX11_wordNow_35 (by decide) rfl (fun c35 => ?_) (fun c35 => absurd c35 (by decide))
      refine x_aload_n (q := 41) dX11_wordNow_40 rfl rfl ?_
      refine x_bipush (v := 115) (q := 43) dX11_wordNow_41 rfl (by decide) ?_
      refine x_bipush (v := 99) (q := 45) dX11_wordNow_43 rfl (by decide) ?_
      refine x_bipush (v := 114) (q := 47) dX11_wordNow_45 rfl (by decide) ?_
      refine x_bipush (v := 105) (q := 49) dX11_wordNow_47 rfl (by decide) ?_
      refine x_bipush (v := 98) (q := 51) dX11_wordNow_49 rfl (by decide) ?_
      refine x_bipush (v := 101) (q := 53) dX11_wordNow_51 rfl (by decide) ?_
      refine x_callV (q := 56) (ci := 11) (c_m_named6 hn hN hq hR0 (by decide) (by decide)) eX11_wordNow_123 gX11_wordNow_X11_isNamed mp0 (by omega) rfl rfl rfl (Nat.le_of_ble_eq_true rfl) ⟨Nat.le_refl _, Nat.le_refl _⟩ dX11_wordNow_53 rfl rfl (fun r53 M53 p53 => ?_)
      obtain ⟨rfl, p53⟩ := p53
      rcases p53 with ⟨b53, rfl⟩ | ⟨b53, rfl⟩
      · have n3 := (nm6 (x := 3) hq (by decide +kernel) (by decide +kernel) (by decide +kernel) (by decide +kernel) (by decide +kernel) (by decide +kernel) (by decide +kernel)).mp b53
        refine x_if_eq (t := 61) (q := 59) dX11_wordNow_56 (by decide) rfl (fun c56 => absurd c56 (by decide)) (fun c56 => ?_)
        refine x_iconst (v := 2) (q := 60) dX11_wordNow_59 rfl (by decide) ?_
        refine x_iret dX11_wordNow_60 rfl rfl (Nat.le_refl _) ?_
        refine ⟨rfl, ?_⟩
        rw [wd_some (x := 3) (by decide) n3]
        rfl
      · have n3 : ¬ nmP lt N q 3 := fun h => b53 ((nm6 (x := 3) hq (by decide +kernel) (by decide +kernel) (by decide +kernel) (by decide +kernel) (by decide +kernel) (by decide +kernel) (by decide +kernel)).mpr h)
        refine x_if_eq (t := 61) (q := 59) dX11_wordNow_56 (by decide) rfl (fun c56 => ?_) (fun c56 => absurd c56 (by decide))
        refine x_aload_n (q := 62) dX11_wordNow_61 rfl rfl ?_
        refine x_bipush (v := 114) (q := 64) dX11_wordNow_62 rfl (by decide) ?_
        refine x_bipush (v := 101) (q := 66) dX11_wordNow_64 rfl (by decide) ?_
        refine x_bipush (v := 101) (q := 68) dX11_wordNow_66 rfl (by decide) ?_
        refine x_bipush (v := 118) (q := 70) dX11_wordNow_68 rfl (by decide) ?_
        refine x_bipush (v := 101) (q := 72) dX11_wordNow_70 rfl (by decide) ?_
        refine x_iconst (v := 0) (q := 73) dX11_wordNow_72 rfl (by decide) ?_
        refine x_callV (q := 76) (ci := 11) (c_m_named5 hn hN hq hR0 (by decide)) eX11_wordNow_123 gX11_wordNow_X11_isNamed mp0 (by omega) rfl rfl rfl (Nat.le_of_ble_eq_true rfl) ⟨Nat.le_refl _, Nat.le_refl _⟩ dX11_wordNow_73 rfl rfl (fun r73 M73 p73 => ?_)
        obtain ⟨rfl, p73⟩ := p73
        rcases p73 with ⟨b73, rfl⟩ | ⟨b73, rfl⟩
        · have n4 := (nm5 (x := 4) hq (by decide +kernel) (by decide +kernel) (by decide +kernel) (by decide +kernel) (by decide +kernel) (by decide +kernel)).mp b73
          refine x_if_eq (t := 81) (q := 79) dX11_wordNow_76 (by decide) rfl (fun c76 => absurd c76 (by decide)) (fun c76 => ?_)
          refine x_iconst (v := 3) (q := 80) dX11_wordNow_79 rfl (by decide) ?_
          refine x_iret dX11_wordNow_80 rfl rfl (Nat.le_refl _) ?_
          refine ⟨rfl, ?_⟩
          rw [wd_some (x := 4) (by decide) n4]
          rfl
        · have n4 : ¬ nmP lt N q 4 := fun h => b73 ((nm5 (x := 4) hq (by decide +kernel) (by decide +kernel) (by decide +kernel) (by decide +kernel) (by decide +kernel) (by decide +kernel)).mpr h)
          refine x_if_eq (t := 81) (q := 79) dX11_wordNow_76 (by decide) rfl (fun c76 => ?_) (fun c76 => absurd c76 (by decide))
          refine x_aload_n (q := 82) dX11_wordNow_81 rfl rfl ?_
          refine x_bipush (v := 116) (q := 84) dX11_wordNow_82 rfl (by decide) ?_
          refine x_bipush (v := 111) (q := 86) dX11_wordNow_84 rfl (by decide) ?_
          refine x_bipush (v := 119) (q := 88) dX11_wordNow_86 rfl (by decide) ?_
          refine x_bipush (v := 110) (q := 90) dX11_wordNow_88 rfl (by decide) ?_
          refine x_iconst (v := 0) (q := 91) dX11_wordNow_90 rfl (by decide) ?_
          refine x_iconst (v := 0) (q := 92) dX11_wordNow_91 rfl (by decide) ?_
          refine x_callV (q := 95) (ci := 11) (c_m_named4 hn hN hq hR0) eX11_wordNow_123 gX11_wordNow_X11_isNamed mp0 (by omega) rfl rfl rfl (Nat.le_of_ble_eq_true rfl) ⟨Nat.le_refl _, Nat.le_refl _⟩ dX11_wordNow_92 rfl rfl (fun r92 M92 p92 => ?_)
          obtain ⟨rfl, p92⟩ := p92
          rcases p92 with ⟨b92, rfl⟩ | ⟨b92, rfl⟩
          · have n0 := (nm4 (x := 0) hq (by decide +kernel) (by decide +kernel) (by decide +kernel) (by decide +kernel) (by decide +kernel)).mp b92
            refine x_if_eq (t := 100) (q := 98) dX11_wordNow_95 (by decide) rfl (fun c95 => absurd c95 (by decide)) (fun c95 => ?_)
            refine x_iconst (v := 4) (q := 99) dX11_wordNow_98 rfl (by decide) ?_
            refine x_iret dX11_wordNow_99 rfl rfl (Nat.le_refl _) ?_
            refine ⟨rfl, ?_⟩
            rw [wd_some (x := 0) (by decide) n0]
            rfl
          · have n0 : ¬ nmP lt N q 0 := fun h => b92 ((nm4 (x := 0) hq (by decide +kernel) (by decide +kernel) (by decide +kernel) (by decide +kernel) (by decide +kernel)).mpr h)
            refine x_if_eq (t := 100) (q := 98) dX11_wordNow_95 (by decide) rfl (fun c95 => ?_) (fun c95 => absurd c95 (by decide))
            refine x_aload_n (q := 101) dX11_wordNow_100 rfl rfl ?_
            refine x_bipush (v := 108) (q := 103) dX11_wordNow_101 rfl (by decide) ?_
            refine x_bipush (v := 105) (q := 105) dX11_wordNow_103 rfl (by decide) ?_
            refine x_bipush (v := 107) (q := 107) dX11_wordNow_105 rfl (by decide) ?_
            refine x_bipush (v := 101) (q := 109) dX11_wordNow_107 rfl (by decide) ?_
            refine x_bipush (v := 115) (q := 111) dX11_wordNow_109 rfl (by decide) ?_
            refine x_iconst (v := 0) (q := 112) dX11_wordNow_111 rfl (by decide) ?_
            refine x_callV (q := 115) (ci := 11) (c_m_named5 hn hN hq hR0 (by decide)) eX11_wordNow_123 gX11_wordNow_X11_isNamed mp0 (by omega) rfl rfl rfl (Nat.le_of_ble_eq_true rfl) ⟨Nat.le_refl _, Nat.le_refl _⟩ dX11_wordNow_112 rfl rfl (fun r112 M112 p112 => ?_)
            obtain ⟨rfl, p112⟩ := p112
            rcases p112 with ⟨b112, rfl⟩ | ⟨b112, rfl⟩
            · have n5 := (nm5 (x := 5) hq (by decide +kernel) (by decide +kernel) (by decide +kernel) (by decide +kernel) (by decide +kernel) (by decide +kernel)).mp b112
              refine x_if_eq (t := 120) (q := 118) dX11_wordNow_115 (by decide) rfl (fun c115 => absurd c115 (by decide)) (fun c115 => ?_)
              refine x_iconst (v := 5) (q := 119) dX11_wordNow_118 rfl (by decide) ?_
              refine x_iret dX11_wordNow_119 rfl rfl (Nat.le_refl _) ?_
              refine ⟨rfl, ?_⟩
              rw [wd_some (x := 5) (by decide) n5]
              rfl
            · have n5 : ¬ nmP lt N q 5 := fun h => b112 ((nm5 (x := 5) hq (by decide +kernel) (by decide +kernel) (by decide +kernel) (by decide +kernel) (by decide +kernel) (by decide +kernel)).mpr h)
              refine x_if_eq (t := 120) (q := 118) dX11_wordNow_115 (by decide) rfl (fun c115 => ?_) (fun c115 => absurd c115 (by decide))
              refine x_aload_n (q := 121) dX11_wordNow_120 rfl rfl ?_
              refine x_bipush (v := 119) (q := 123) dX11_wordNow_121 rfl (by decide) ?_
              refine x_bipush (v := 111) (q := 125) dX11_wordNow_123 rfl (by decide) ?_
              refine x_bipush (v := 114) (q := 127) dX11_wordNow_125 rfl (by decide) ?_
              refine x_bipush (v := 107) (q := 129) dX11_wordNow_127 rfl (by decide) ?_
              refine x_iconst (v := 0) (q := 130) dX11_wordNow_129 rfl (by decide) ?_
              refine x_iconst (v := 0) (q := 131) dX11_wordNow_130 rfl (by decide) ?_
              refine x_callV (q := 134) (ci := 11) (c_m_named4 hn hN hq hR0) eX11_wordNow_123 gX11_wordNow_X11_isNamed mp0 (by omega) rfl rfl rfl (Nat.le_of_ble_eq_true rfl) ⟨Nat.le_refl _, Nat.le_refl _⟩ dX11_wordNow_131 rfl rfl (fun r131 M131 p131 => ?_)
              obtain ⟨rfl, p131⟩ := p131
              rcases p131 with ⟨b131, rfl⟩ | ⟨b131, rfl⟩
              · have n6 := (nm4 (x := 6) hq (by decide +kernel) (by decide +kernel) (by decide +kernel) (by decide +kernel) (by decide +kernel)).mp b131
                refine x_if_eq (t := 140) (q := 137) dX11_wordNow_134 (by decide) rfl (fun c134 => absurd c134 (by decide)) (fun c134 => ?_)
                refine x_bipush (v := 6) (q := 139) dX11_wordNow_137 rfl (by decide) ?_
                refine x_iret dX11_wordNow_139 rfl rfl (Nat.le_refl _) ?_
                refine ⟨rfl, ?_⟩
                rw [wd_some (x := 6) (by decide) n6]
                rfl
              · have n6 : ¬ nmP lt N q 6 := fun h => b131 ((nm4 (x := 6) hq (by decide +kernel) (by decide +kernel) (by decide +kernel) (by decide +kernel) (by decide +kernel)).mpr h)
                refine x_if_eq (t := 140) (q := 137) dX11_wordNow_134 (by decide) rfl (fun c134 => ?_) (fun c134 => absurd c134 (by decide))
                refine x_aload_n (q := 141) dX11_wordNow_140 rfl rfl ?_
                refine x_bipush (v := 103) (q := 143) dX11_wordNow_141 rfl (by decide) ?_
                refine x_bipush (v := 114) (q := 145) dX11_wordNow_143 rfl (by decide) ?_
                refine x_bipush (v := 111) (q := 147) dX11_wordNow_145 rfl (by decide) ?_
                refine x_bipush (v := 119) (q := 149) dX11_wordNow_147 rfl (by decide) ?_
                refine x_iconst (v := 0) (q := 150) dX11_wordNow_149 rfl (by decide) ?_
                refine x_iconst (v := 0) (q := 151) dX11_wordNow_150 rfl (by decide) ?_
                refine x_callV (q := 154) (ci := 11) (c_m_named4 hn hN hq hR0) eX11_wordNow_123 gX11_wordNow_X11_isNamed mp0 (by omega) rfl rfl rfl (Nat.le_of_ble_eq_true rfl) ⟨Nat.le_refl _, Nat.le_refl _⟩ dX11_wordNow_151 rfl rfl (fun r151 M151 p151 => ?_)
                obtain ⟨rfl, p151⟩ := p151
                rcases p151 with ⟨b151, rfl⟩ | ⟨b151, rfl⟩
                · have n7 := (nm4 (x := 7) hq (by decide +kernel) (by decide +kernel) (by decide +kernel) (by decide +kernel) (by decide +kernel)).mp b151
                  refine x_if_eq (t := 160) (q := 157) dX11_wordNow_154 (by decide) rfl (fun c154 => absurd c154 (by decide)) (fun c154 => ?_)
                  refine x_bipush (v := 7) (q := 159) dX11_wordNow_157 rfl (by decide) ?_
                  refine x_iret dX11_wordNow_159 rfl rfl (Nat.le_refl _) ?_
                  refine ⟨rfl, ?_⟩
                  rw [wd_some (x := 7) (by decide) n7]
                  rfl
                · have n7 : ¬ nmP lt N q 7 := fun h => b151 ((nm4 (x := 7) hq (by decide +kernel) (by decide +kernel) (by decide +kernel) (by decide +kernel) (by decide +kernel)).mpr h)
                  refine x_if_eq (t := 160) (q := 157) dX11_wordNow_154 (by decide) rfl (fun c154 => ?_) (fun c154 => absurd c154 (by decide))
                  refine x_aload_n (q := 161) dX11_wordNow_160 rfl rfl ?_
                  refine x_bipush (v := 119) (q := 163) dX11_wordNow_161 rfl (by decide) ?_
                  refine x_bipush (v := 105) (q := 165) dX11_wordNow_163 rfl (by decide) ?_
                  refine x_bipush (v := 116) (q := 167) dX11_wordNow_165 rfl (by decide) ?_
                  refine x_bipush (v := 104) (q := 169) dX11_wordNow_167 rfl (by decide) ?_
                  refine x_bipush (v := 101) (q := 171) dX11_wordNow_169 rfl (by decide) ?_
                  refine x_bipush (v := 114) (q := 173) dX11_wordNow_171 rfl (by decide) ?_
                  refine x_callV (q := 176) (ci := 11) (c_m_named6 hn hN hq hR0 (by decide) (by decide)) eX11_wordNow_123 gX11_wordNow_X11_isNamed mp0 (by omega) rfl rfl rfl (Nat.le_of_ble_eq_true rfl) ⟨Nat.le_refl _, Nat.le_refl _⟩ dX11_wordNow_173 rfl rfl (fun r173 M173 p173 => ?_)
                  obtain ⟨rfl, p173⟩ := p173
                  rcases p173 with ⟨b173, rfl⟩ | ⟨b173, rfl⟩
                  · have n8 := (nm6 (x := 8) hq (by decide +kernel) (by decide +kernel) (by decide +kernel) (by decide +kernel) (by decide +kernel) (by decide +kernel) (by decide +kernel)).mp b173
                    refine x_if_eq (t := 182) (q := 179) dX11_wordNow_176 (by decide) rfl (fun c176 => absurd c176 (by decide)) (fun c176 => ?_)
                    refine x_bipush (v := 8) (q := 181) dX11_wordNow_179 rfl (by decide) ?_
                    refine x_iret dX11_wordNow_181 rfl rfl (Nat.le_refl _) ?_
                    refine ⟨rfl, ?_⟩
                    rw [wd_some (x := 8) (by decide) n8]
                    rfl
                  · have n8 : ¬ nmP lt N q 8 := fun h => b173 ((nm6 (x := 8) hq (by decide +kernel) (by decide +kernel) (by decide +kernel) (by decide +kernel) (by decide +kernel) (by decide +kernel) (by decide +kernel)).mpr h)
                    refine x_if_eq (t := 182) (q := 179) dX11_wordNow_176 (by decide) rfl (fun c176 => ?_) (fun c176 => absurd c176 (by decide))
                    refine x_aload_n (q := 183) dX11_wordNow_182 rfl rfl ?_
                    refine x_bipush (v := 108) (q := 185) dX11_wordNow_183 rfl (by decide) ?_
                    refine x_bipush (v := 101) (q := 187) dX11_wordNow_185 rfl (by decide) ?_
                    refine x_bipush (v := 110) (q := 189) dX11_wordNow_187 rfl (by decide) ?_
                    refine x_bipush (v := 103) (q := 191) dX11_wordNow_189 rfl (by decide) ?_
                    refine x_bipush (v := 116) (q := 193) dX11_wordNow_191 rfl (by decide) ?_
                    refine x_bipush (v := 104) (q := 195) dX11_wordNow_193 rfl (by decide) ?_
                    refine x_callV (q := 198) (ci := 11) (c_m_named6 hn hN hq hR0 (by decide) (by decide)) eX11_wordNow_123 gX11_wordNow_X11_isNamed mp0 (by omega) rfl rfl rfl (Nat.le_of_ble_eq_true rfl) ⟨Nat.le_refl _, Nat.le_refl _⟩ dX11_wordNow_195 rfl rfl (fun r195 M195 p195 => ?_)
                    obtain ⟨rfl, p195⟩ := p195
                    rcases p195 with ⟨b195, rfl⟩ | ⟨b195, rfl⟩
                    · have n9 := (nm6 (x := 9) hq (by decide +kernel) (by decide +kernel) (by decide +kernel) (by decide +kernel) (by decide +kernel) (by decide +kernel) (by decide +kernel)).mp b195
                      refine x_if_eq (t := 204) (q := 201) dX11_wordNow_198 (by decide) rfl (fun c198 => absurd c198 (by decide)) (fun c198 => ?_)
                      refine x_bipush (v := 9) (q := 203) dX11_wordNow_201 rfl (by decide) ?_
                      refine x_iret dX11_wordNow_203 rfl rfl (Nat.le_refl _) ?_
                      refine ⟨rfl, ?_⟩
                      rw [wd_some (x := 9) (by decide) n9]
                      rfl
                    · have n9 : ¬ nmP lt N q 9 := fun h => b195 ((nm6 (x := 9) hq (by decide +kernel) (by decide +kernel) (by decide +kernel) (by decide +kernel) (by decide +kernel) (by decide +kernel) (by decide +kernel)).mpr h)
                      refine x_if_eq (t := 204) (q := 201) dX11_wordNow_198 (by decide) rfl (fun c198 => ?_) (fun c198 => absurd c198 (by decide))
                      refine x_aload_n (q := 205) dX11_wordNow_204 rfl rfl ?_
                      refine x_bipush (v := 119) (q := 207) dX11_wordNow_205 rfl (by decide) ?_
                      refine x_bipush (v := 111) (q := 209) dX11_wordNow_207 rfl (by decide) ?_
                      refine x_bipush (v := 114) (q := 211) dX11_wordNow_209 rfl (by decide) ?_
                      refine x_bipush (v := 108) (q := 213) dX11_wordNow_211 rfl (by decide) ?_
                      refine x_bipush (v := 100) (q := 215) dX11_wordNow_213 rfl (by decide) ?_
                      refine x_iconst (v := 0) (q := 216) dX11_wordNow_215 rfl (by decide) ?_
                      refine x_callV (q := 219) (ci := 11) (c_m_named5 hn hN hq hR0 (by decide)) eX11_wordNow_123 gX11_wordNow_X11_isNamed mp0 (by omega) rfl rfl rfl (Nat.le_of_ble_eq_true rfl) ⟨Nat.le_refl _, Nat.le_refl _⟩ dX11_wordNow_216 rfl rfl (fun r216 M216 p216 => ?_)
                      obtain ⟨rfl, p216⟩ := p216
                      rcases p216 with ⟨b216, rfl⟩ | ⟨b216, rfl⟩
                      · have n10 := (nm5 (x := 10) hq (by decide +kernel) (by decide +kernel) (by decide +kernel) (by decide +kernel) (by decide +kernel) (by decide +kernel)).mp b216
                        refine x_if_eq (t := 227) (q := 222) dX11_wordNow_219 (by decide) rfl (fun c219 => absurd c219 (by decide)) (fun c219 => ?_)
                        refine x_bipush (v := 10) (q := 224) dX11_wordNow_222 rfl (by decide) ?_
                        refine x_goto (q := 251) dX11_wordNow_224 (by decide) ?_
                        refine x_iret dX11_wordNow_251 rfl rfl (Nat.le_refl _) ?_
                        refine ⟨rfl, ?_⟩
                        rw [wd_some (x := 10) (by decide) n10]
                        rfl
                      · have n10 : ¬ nmP lt N q 10 := fun h => b216 ((nm5 (x := 10) hq (by decide +kernel) (by decide +kernel) (by decide +kernel) (by decide +kernel) (by decide +kernel) (by decide +kernel)).mpr h)
                        refine x_if_eq (t := 227) (q := 222) dX11_wordNow_219 (by decide) rfl (fun c219 => ?_) (fun c219 => absurd c219 (by decide))
                        refine x_aload_n (q := 228) dX11_wordNow_227 rfl rfl ?_
                        refine x_bipush (v := 115) (q := 230) dX11_wordNow_228 rfl (by decide) ?_
                        refine x_bipush (v := 116) (q := 232) dX11_wordNow_230 rfl (by decide) ?_
                        refine x_bipush (v := 105) (q := 234) dX11_wordNow_232 rfl (by decide) ?_
                        refine x_bipush (v := 108) (q := 236) dX11_wordNow_234 rfl (by decide) ?_
                        refine x_bipush (v := 108) (q := 238) dX11_wordNow_236 rfl (by decide) ?_
                        refine x_iconst (v := 0) (q := 239) dX11_wordNow_238 rfl (by decide) ?_
                        refine x_callV (q := 242) (ci := 11) (c_m_named5 hn hN hq hR0 (by decide)) eX11_wordNow_123 gX11_wordNow_X11_isNamed mp0 (by omega) rfl rfl rfl (Nat.le_of_ble_eq_true rfl) ⟨Nat.le_refl _, Nat.le_refl _⟩ dX11_wordNow_239 rfl rfl (fun r239 M239 p239 => ?_)
                        obtain ⟨rfl, p239⟩ := p239
                        rcases p239 with ⟨b239, rfl⟩ | ⟨b239, rfl⟩
                        · have n11 := (nm5 (x := 11) hq (by decide +kernel) (by decide +kernel) (by decide +kernel) (by decide +kernel) (by decide +kernel) (by decide +kernel)).mp b239
                          refine x_if_eq (t := 250) (q := 245) dX11_wordNow_242 (by decide) rfl (fun c242 => absurd c242 (by decide)) (fun c242 => ?_)
                          refine x_bipush (v := 11) (q := 247) dX11_wordNow_245 rfl (by decide) ?_
                          refine x_goto (q := 251) dX11_wordNow_247 (by decide) ?_
                          refine x_iret dX11_wordNow_251 rfl rfl (Nat.le_refl _) ?_
                          refine ⟨rfl, ?_⟩
                          rw [wd_some (x := 11) (by decide) n11]
                          rfl
                        · have n11 : ¬ nmP lt N q 11 := fun h => b239 ((nm5 (x := 11) hq (by decide +kernel) (by decide +kernel) (by decide +kernel) (by decide +kernel) (by decide +kernel) (by decide +kernel)).mpr h)
                          refine x_if_eq (t := 250) (q := 245) dX11_wordNow_242 (by decide) rfl (fun c242 => ?_) (fun c242 => absurd c242 (by decide))
                          refine x_iconst (v := -1) (q := 251) dX11_wordNow_250 rfl (by decide) ?_
                          refine x_iret dX11_wordNow_251 rfl rfl (Nat.le_refl _) ?_
                          refine ⟨rfl, ?_⟩
                          rw [wd_none (fun x hx => by
                            rcases (show x = 0 ∨ x = 1 ∨ x = 2 ∨ x = 3 ∨ x = 4 ∨ x = 5 ∨ x = 6 ∨ x = 7 ∨ x = 8 ∨ x = 9 ∨ x = 10 ∨ x = 11 by omega) with e | e | e | e | e | e | e | e | e | e | e | e <;> subst e <;> assumption)]
                          rfl

