theorem kn_1 {K : Nat} (h : ¬ kn K = 0) : K = 1 := by
  unfold kn at h
  split at h
  · assumption
  · exact absurd rfl h
theorem kn_0 {K : Nat} (h : kn K = 0) : ¬ K = 1 := fun e => by rw [e] at h; exact absurd h (by decide)
theorem kw_1 {K : Nat} (h : ¬ kw K = 0) : K = 0 := by
  unfold kw at h
  split at h
  · assumption
  · exact absurd rfl h
theorem kw_0 {K : Nat} (h : kw K = 0) : ¬ K = 0 := fun e => by rw [e] at h; exact absurd h (by decide)
theorem num_no {lt : Nat → Int32} {N q lo H : Nat} (h : ¬ (tkK lt N q = 1 ∧ tkE lt N q - tsp lt N q ≤ 2)) : num lt N q lo H = none := by unfold num; rw [if_neg (fun z => h ⟨z.1, z.2.1⟩)]
theorem num_in {lt : Nat → Int32} {N q lo H : Nat} {c0 : Int32} (hc : c0 = nI H - 1) (hH : H ≤ 200) (hlo : lo ≤ 100) (h : tkK lt N q = 1 ∧ tkE lt N q - tsp lt N q ≤ 2) : ((nI lo).toInt64 ≤ (nI (nvT lt N q)).toInt64 ∧ (nI (nvT lt N q)).toInt64 ≤ c0.toInt64) ↔ num lt N q lo H = some (nvT lt N q) := by
  have hv := nvT_lt lt h.1 h.2
  have hc2 : c0.toInt = (H : Int) - 1 := by rw [hc]; exact pk_sub_toInt (a := H) (b := 1) (by omega) (by decide)
  rw [w32, w32, nI_toInt (by omega), nI_toInt (by omega), hc2]
  unfold num
  by_cases h2 : lo ≤ nvT lt N q ∧ nvT lt N q < H
  · rw [if_pos ⟨h.1, h.2, h2⟩]; exact ⟨fun _ => rfl, fun _ => by omega⟩
  · rw [if_neg (fun z => h2 z.2.2)]; exact ⟨fun z => by omega, fun z => by cases z⟩
set_option maxHeartbeats 4000000 in
set_option maxRecDepth 100000 in
theorem l_mtake {n N : Nat} {t : Nat → Nat → Int32} {u : Nat → Nat → Int64} {lt w : Nat → Int32} {c c0 : Int32} {q lo : Nat} {Q : Option Value → (Nat → xE) → Prop} {M0 : Nat → xE} (hn : 113 < n) (hN : N ≤ 160) (hq : q ≤ N) (hK : tkK lt N q = 1) (hl : tkE lt N q - tsp lt N q ≤ 2) : ∀ (k i : Nat) (M : Nat → xE) (vv : Nat), i + k = tkE lt N q → (tsp lt N q ≤ i) → (oR t u lt N w (nI (tkE lt N q)) (nI (tsp lt N q)) 0 1 (nI vv) c M) → (∀ j, ¬ j = 99 → M j = M0 j) → (∀ (M' : Nat → xE), oR t u lt N w (nI (tkE lt N q)) (nI (tsp lt N q)) 0 1 (nI (nvR lt k i vv)) c M' → (∀ j, ¬ j = 99 → M' j = M0 j) → X mX11_takes 0 0 68 [(3, .int (nI (tkE lt N q))), (0, .ref 99), (1, .int (nI lo)), (2, .int c0)] [] n M' Q) → X mX11_takes 0 0 14 [(3, .int (nI i)), (0, .ref 99), (1, .int (nI lo)), (2, .int c0)] [] n M (Q) := by
  have hiX11 : ∀ w ∈ wsX110, w ∈ wsX11_takes := by decide +kernel
  intro k
  induction k with
  | zero =>
    intro i M vv hik hi hR hf hk
    have hb := tkE_b lt hq
    have hb0 := tsp_b lt hq
    have hR0 := hR
    obtain ⟨mp0, mp1, mp4⟩ := hR
    refine x_iload_n (q := 15) dX11_takes_14 rfl rfl ?_
    refine x_aload_n (q := 16) dX11_takes_15 rfl rfl ?_
    refine x_getf (C := RX11) (T := TX11) (N := 29) (k := 6) (q := 19) mp0 (by omega) rfl hiX11 (by decide) (by decide +kernel) rfl dX11_takes_16 rfl ?_
    refine x_icmp_ge (t := 68) (q := 22) dX11_takes_19 (by decide) rfl (fun c19 => ?_) (fun c19 => absurd (nI_le (show tkE lt N q ≤ i by omega) (by omega)) c19)
    rw [show i = tkE lt N q by omega]
    exact hk M hR0 hf
  | succ k ih =>
    intro i M vv hik hi hR hf hk
    have hb := tkE_b lt hq
    have hb0 := tsp_b lt hq
    have hR0 := hR
    obtain ⟨mp0, mp1, mp4⟩ := hR
    obtain ⟨d, hd, ed⟩ := kd_dig (tk_dig lt hK hi (show i < tkE lt N q by omega))
    refine x_iload_n (q := 15) dX11_takes_14 rfl rfl ?_
    refine x_aload_n (q := 16) dX11_takes_15 rfl rfl ?_
    refine x_getf (C := RX11) (T := TX11) (N := 29) (k := 6) (q := 19) mp0 (by omega) rfl hiX11 (by decide) (by decide +kernel) rfl dX11_takes_16 rfl ?_
    refine x_icmp_ge (t := 68) (q := 22) dX11_takes_19 (by decide) rfl (fun c19 => absurd c19 (nI_ge (a := i) (b := tkE lt N q) (by omega) (by omega))) (fun c19 => ?_)
    refine x_aload_n (q := 23) dX11_takes_22 rfl rfl ?_
    refine x_getf (C := RX11) (T := TX11) (N := 29) (k := 9) (q := 26) mp0 (by omega) rfl hiX11 (by decide) (by decide +kernel) rfl dX11_takes_23 rfl ?_
    refine x_if_eq (t := 68) (q := 29) dX11_takes_26 (by decide) rfl (fun c26 => absurd c26 (by decide)) (fun c26 => ?_)
    refine x_aload_n (q := 30) dX11_takes_29 rfl rfl ?_
    refine x_getf (C := RX11) (T := TX11) (N := 29) (k := 6) (q := 33) mp0 (by omega) rfl hiX11 (by decide) (by decide +kernel) rfl dX11_takes_30 rfl ?_
    refine x_aload_n (q := 34) dX11_takes_33 rfl rfl ?_
    refine x_getf (C := RX11) (T := TX11) (N := 29) (k := 7) (q := 37) mp0 (by omega) rfl hiX11 (by decide) (by decide +kernel) rfl dX11_takes_34 rfl ?_
    refine x_isub (q := 38) dX11_takes_37 rfl ?_
    rw [pk_sub hb.1]
    refine x_iconst (v := 3) (q := 39) dX11_takes_38 rfl (by decide) ?_
    refine x_icmp_ge (t := 68) (q := 42) dX11_takes_39 (by decide) rfl (fun c39 => absurd c39 (nI_ge (b := 3) (show tkE lt N q - tsp lt N q < 3 by omega) (by decide))) (fun c39 => ?_)
    refine x_aload_n (q := 43) dX11_takes_42 rfl rfl ?_
    refine x_bipush (v := 10) (q := 45) dX11_takes_43 rfl (by decide) ?_
    refine x_aload_n (q := 46) dX11_takes_45 rfl rfl ?_
    refine x_getf (C := RX11) (T := TX11) (N := 29) (k := 10) (q := 49) mp0 (by omega) rfl hiX11 (by decide) (by decide +kernel) rfl dX11_takes_46 rfl ?_
    refine x_imul (q := 50) dX11_takes_49 rfl ?_
    refine x_aload_n (q := 51) dX11_takes_50 rfl rfl ?_
    refine x_iload_n (q := 52) dX11_takes_51 rfl rfl ?_
    refine x_callV (q := 55) (ci := 11) (c_m_let hn hN ⟨mp0, mp1, mp4⟩ (k := i) (by omega)) eX11_takes_95 gX11_takes_X11_letterAt mp0 (by omega) rfl rfl rfl (Nat.le_of_ble_eq_true rfl) ⟨Nat.le_refl _, Nat.le_refl _⟩ dX11_takes_52 rfl rfl (fun r52 M52 p52 => ?_)
    obtain ⟨rfl, rfl⟩ := p52
    refine x_iadd (q := 56) dX11_takes_55 rfl ?_
    refine x_bipush (v := 48) (q := 58) dX11_takes_56 rfl (by decide) ?_
    refine x_isub (q := 59) dX11_takes_58 rfl ?_
    rw [show 10 * nI vv + lA lt N i - 48 = nI (10 * vv + dgv (lt i)) by rw [lA_in (show i < N by omega), ed, dgv_of hd, show (10 : Int32) * nI vv = nI (10 * vv) from pk_mul 10 vv, nI_add, show (48 : Int32) = nI 48 from rfl, pk_sub (by omega)]; congr 1; omega]
    refine x_put (C := RX11) (T := TX11) (N := 29) (k := 10) (q := 62) (ty := .int) tyX11_ok nmX11 mp0 (by omega) rfl hiX11 (by decide) (by decide +kernel) rfl (by decide +kernel) (fun _ => rfl) (fun _ => rfl) (Nat.le_of_ble_eq_true rfl) dX11_takes_59 rfl (fun M59 w59 o59 => ?_)
    refine x_iinc (L' := fun x3_62 => [(3, .int x3_62), (0, .ref 99), (1, .int (nI lo)), (2, .int c0)]) (q := 65) dX11_takes_62 rfl rfl (by decide) (fun _ => rfl) (fun x3_62 ex3_62 => ?_)
    obtain rfl : x3_62 = nI (i + 1) := ex3_62.trans (nI_1 i)
    refine x_goto (q := 14) dX11_takes_65 (by decide) ?_
    have hv1_1_100 := ((o59 (100) (by omega)).trans mp1)
    have hv1_2_103 := ((o59 (103) (by omega)).trans mp4)
    refine x_pick (L' := [(3, .int (nI (i + 1))), (0, .ref 99), (1, .int (nI lo)), (2, .int c0)]) [0, 1, 2, 3] rfl ?_
    exact ih (i + 1) M59 (10 * vv + dgv (lt i)) (by omega) (by omega) ⟨w59, hv1_1_100, hv1_2_103⟩ (fun j hj => (o59 j hj).trans (hf j hj)) hk

set_option maxHeartbeats 4000000 in
set_option maxRecDepth 100000 in
theorem c_m_takes {n N : Nat} {M : Nat → xE} {t : Nat → Nat → Int32} {u : Nat → Nat → Int64} {lt w : Nat → Int32} {s iw ib v c : Int32} {q : Nat} (hn : 113 < n) (hN : N ≤ 160) (hq : q ≤ N) (hR : oR t u lt N w (nI q) s iw ib v c M) {lo H : Nat} {c0 : Int32} (hlo : lo ≤ 100) (hc : c0 = nI H - 1) (hH : H ≤ 200) : xMet mX11_takes [.ref 99, .int (nI lo), .int c0] n M (fun r M' => ((∃ x, num lt N q lo H = some x ∧ some (.int 1) = r ∧ oR t u lt N w (nI (tkE lt N q)) (nI (tsp lt N q)) (kw (tkK lt N q)) (kn (tkK lt N q)) (nI x) c M') ∨ (num lt N q lo H = none ∧ some (.int 0) = r ∧ ∃ v', oR t u lt N w (nI (tkE lt N q)) (nI (tsp lt N q)) (kw (tkK lt N q)) (kn (tkK lt N q)) v' c M')) ∧ ∀ j, ¬ j = 99 → M' j = M j) := by
  have hb := tkE_b lt hq
  have hb0 := tsp_b lt hq
  have hR0 := hR
  obtain ⟨mp0, mp1, mp4⟩ := hR
  have hiX11 : ∀ w ∈ wsX110, w ∈ wsX11_takes := by decide +kernel
  refine xMet.of _ (by decide) rfl (Nat.le_of_ble_eq_true rfl) ?_
  refine x_aload_n (q := 1) dX11_takes_0 rfl rfl ?_
  refine x_callV (q := 4) (ci := 11) (c_m_token hn hN hq hR0) eX11_takes_117 gX11_takes_X11_token mp0 (by omega) rfl rfl rfl (Nat.le_of_ble_eq_true rfl) ⟨Nat.le_refl _, Nat.le_refl _⟩ dX11_takes_1 rfl rfl (fun r1 M1 p1 => ?_)
  obtain ⟨rfl, ⟨k0, k1, k4⟩, fr1⟩ := p1
  refine x_aload_n (q := 5) dX11_takes_4 rfl rfl ?_
  refine x_iconst (v := 0) (q := 6) dX11_takes_5 rfl (by decide) ?_
  refine x_put (C := RX11) (T := TX11) (N := 29) (k := 10) (q := 9) (ty := .int) tyX11_ok nmX11 k0 (by omega) rfl hiX11 (by decide) (by decide +kernel) rfl (by decide +kernel) (fun _ => rfl) (fun _ => rfl) (Nat.le_of_ble_eq_true rfl) dX11_takes_6 rfl (fun M6 w6 o6 => ?_)
  refine x_aload_n (q := 10) dX11_takes_9 rfl rfl ?_
  refine x_getf (C := RX11) (T := TX11) (N := 29) (k := 7) (q := 13) w6 (by omega) rfl hiX11 (by decide) (by decide +kernel) rfl dX11_takes_10 rfl ?_
  refine x_istore_n (L' := fun x3_13 => [(3, .int x3_13), (0, .ref 99), (1, .int (nI lo)), (2, .int c0)]) (q := 14) dX11_takes_13 rfl (by decide) (fun _ => rfl) (fun x3_13 ex3_13 => ?_)
  obtain rfl : x3_13 = nI (tsp lt N q) := ex3_13
  have hv2_1_100 := ((o6 (100) (by omega)).trans k1)
  have hv2_2_103 := ((o6 (103) (by omega)).trans k4)
  by_cases hKl : tkK lt N q = 1 ∧ tkE lt N q - tsp lt N q ≤ 2
  · refine x_pick (L' := [(3, .int (nI (tsp lt N q))), (0, .ref 99), (1, .int (nI lo)), (2, .int c0)]) [0, 1, 2, 3] rfl ?_
    refine l_mtake (M0 := M) (w := w) (c := c) hn hN hq hKl.1 hKl.2 (tkE lt N q - tsp lt N q) (tsp lt N q) M6 0 (by omega) (Nat.le_refl _) (by have h9 : oR t u lt N w (nI (tkE lt N q)) (nI (tsp lt N q)) (kw (tkK lt N q)) (kn (tkK lt N q)) 0 c M6 := ⟨w6, hv2_1_100, hv2_2_103⟩; rw [hKl.1] at h9; exact h9) (fun j hj => (o6 j hj).trans (fr1 j hj)) (fun M9 hR9 hf9 => ?_)
    obtain ⟨n0, n1, n4⟩ := hR9
    have hnv : nvR lt (tkE lt N q - tsp lt N q) (tsp lt N q) 0 = nvT lt N q := rfl
    rw [hnv] at n0
    refine x_aload_n (q := 69) dX11_takes_68 rfl rfl ?_
    refine x_getf (C := RX11) (T := TX11) (N := 29) (k := 9) (q := 72) n0 (by omega) rfl hiX11 (by decide) (by decide +kernel) rfl dX11_takes_69 rfl ?_
    refine x_if_eq (t := 107) (q := 75) dX11_takes_72 (by decide) rfl (fun c72 => absurd c72 (by decide)) (fun c72 => ?_)
    refine x_aload_n (q := 76) dX11_takes_75 rfl rfl ?_
    refine x_getf (C := RX11) (T := TX11) (N := 29) (k := 6) (q := 79) n0 (by omega) rfl hiX11 (by decide) (by decide +kernel) rfl dX11_takes_76 rfl ?_
    refine x_aload_n (q := 80) dX11_takes_79 rfl rfl ?_
    refine x_getf (C := RX11) (T := TX11) (N := 29) (k := 7) (q := 83) n0 (by omega) rfl hiX11 (by decide) (by decide +kernel) rfl dX11_takes_80 rfl ?_
    refine x_isub (q := 84) dX11_takes_83 rfl ?_
    rw [pk_sub hb.1]
    refine x_iconst (v := 3) (q := 85) dX11_takes_84 rfl (by decide) ?_
    refine x_icmp_ge (t := 107) (q := 88) dX11_takes_85 (by decide) rfl (fun c85 => absurd c85 (nI_ge (b := 3) (show tkE lt N q - tsp lt N q < 3 by omega) (by decide))) (fun c85 => ?_)
    refine x_aload_n (q := 89) dX11_takes_88 rfl rfl ?_
    refine x_getf (C := RX11) (T := TX11) (N := 29) (k := 10) (q := 92) n0 (by omega) rfl hiX11 (by decide) (by decide +kernel) rfl dX11_takes_89 rfl ?_
    refine x_i2l (q := 93) dX11_takes_92 rfl ?_
    refine x_iload_n (q := 94) dX11_takes_93 rfl rfl ?_
    refine x_i2l (q := 95) dX11_takes_94 rfl ?_
    refine x_iload_n (q := 96) dX11_takes_95 rfl rfl ?_
    refine x_i2l (q := 97) dX11_takes_96 rfl ?_
    refine x_callS (q := 100) c_m_in eX11_takes_65 gX11_takes_X11_in rfl (Nat.le_of_ble_eq_true rfl) ⟨Nat.le_refl _, Nat.le_refl _⟩ dX11_takes_97 rfl rfl (fun r97 M97 p97 => ?_)
    obtain ⟨rfl, p97⟩ := p97
    rcases p97 with ⟨b97, rfl⟩ | ⟨b97, rfl⟩
    · refine x_if_eq (t := 107) (q := 103) dX11_takes_100 (by decide) rfl (fun c100 => absurd c100 (by decide)) (fun c100 => ?_)
      refine x_iconst (v := 1) (q := 104) dX11_takes_103 rfl (by decide) ?_
      refine x_goto (q := 108) dX11_takes_104 (by decide) ?_
      refine x_zret dX11_takes_108 rfl rfl rfl (Nat.le_refl _) ?_
      exact ⟨Or.inl ⟨nvT lt N q, (num_in hc hH hlo hKl).mp b97, rfl, by rw [hKl.1]; exact ⟨n0, n1, n4⟩⟩, (fun j hj => (hf9 j hj))⟩
    · refine x_if_eq (t := 107) (q := 103) dX11_takes_100 (by decide) rfl (fun c100 => ?_) (fun c100 => absurd c100 (by decide))
      refine x_iconst (v := 0) (q := 108) dX11_takes_107 rfl (by decide) ?_
      refine x_zret dX11_takes_108 rfl rfl rfl (Nat.le_refl _) ?_
      exact ⟨Or.inr ⟨by cases e9 : num lt N q lo H with
          | none => rfl
          | some z => exact absurd ((num_in hc hH hlo hKl).mpr (by rw [e9, (num_some e9).1])) b97, rfl, _, by rw [hKl.1]; exact ⟨n0, n1, n4⟩⟩, (fun j hj => (hf9 j hj))⟩
  · refine x_iload_n (q := 15) dX11_takes_14 rfl rfl ?_
    refine x_aload_n (q := 16) dX11_takes_15 rfl rfl ?_
    refine x_getf (C := RX11) (T := TX11) (N := 29) (k := 6) (q := 19) w6 (by omega) rfl hiX11 (by decide) (by decide +kernel) rfl dX11_takes_16 rfl ?_
    refine x_icmp_ge (t := 68) (q := 22) dX11_takes_19 (by decide) rfl (fun c19 => ?_) (fun c19 => ?_)
    · refine x_aload_n (q := 69) dX11_takes_68 rfl rfl ?_
      refine x_getf (C := RX11) (T := TX11) (N := 29) (k := 9) (q := 72) w6 (by omega) rfl hiX11 (by decide) (by decide +kernel) rfl dX11_takes_69 rfl ?_
      refine x_if_eq (t := 107) (q := 75) dX11_takes_72 (by decide) rfl (fun c72 => ?_) (fun c72 => ?_)
      · refine x_iconst (v := 0) (q := 108) dX11_takes_107 rfl (by decide) ?_
        refine x_zret dX11_takes_108 rfl rfl rfl (Nat.le_refl _) ?_
        exact ⟨Or.inr ⟨num_no hKl, rfl, _, ⟨w6, hv2_1_100, hv2_2_103⟩⟩, (fun j hj => ((o6 j hj).trans ((fr1 j hj).trans rfl)))⟩
      · refine x_aload_n (q := 76) dX11_takes_75 rfl rfl ?_
        refine x_getf (C := RX11) (T := TX11) (N := 29) (k := 6) (q := 79) w6 (by omega) rfl hiX11 (by decide) (by decide +kernel) rfl dX11_takes_76 rfl ?_
        refine x_aload_n (q := 80) dX11_takes_79 rfl rfl ?_
        refine x_getf (C := RX11) (T := TX11) (N := 29) (k := 7) (q := 83) w6 (by omega) rfl hiX11 (by decide) (by decide +kernel) rfl dX11_takes_80 rfl ?_
        refine x_isub (q := 84) dX11_takes_83 rfl ?_
        rw [pk_sub hb.1]
        refine x_iconst (v := 3) (q := 85) dX11_takes_84 rfl (by decide) ?_
        refine x_icmp_ge (t := 107) (q := 88) dX11_takes_85 (by decide) rfl (fun c85 => ?_) (fun c85 => ?_)
        · refine x_iconst (v := 0) (q := 108) dX11_takes_107 rfl (by decide) ?_
          refine x_zret dX11_takes_108 rfl rfl rfl (Nat.le_refl _) ?_
          exact ⟨Or.inr ⟨num_no hKl, rfl, _, ⟨w6, hv2_1_100, hv2_2_103⟩⟩, (fun j hj => ((o6 j hj).trans ((fr1 j hj).trans rfl)))⟩
        · exact absurd ⟨kn_1 c72, Nat.le_of_lt_succ (Nat.lt_of_not_le (fun h => c85 (nI_le (a := 3) h (by omega))))⟩ hKl
    · refine x_aload_n (q := 23) dX11_takes_22 rfl rfl ?_
      refine x_getf (C := RX11) (T := TX11) (N := 29) (k := 9) (q := 26) w6 (by omega) rfl hiX11 (by decide) (by decide +kernel) rfl dX11_takes_23 rfl ?_
      refine x_if_eq (t := 68) (q := 29) dX11_takes_26 (by decide) rfl (fun c26 => ?_) (fun c26 => ?_)
      · refine x_aload_n (q := 69) dX11_takes_68 rfl rfl ?_
        refine x_getf (C := RX11) (T := TX11) (N := 29) (k := 9) (q := 72) w6 (by omega) rfl hiX11 (by decide) (by decide +kernel) rfl dX11_takes_69 rfl ?_
        refine x_if_eq (t := 107) (q := 75) dX11_takes_72 (by decide) rfl (fun c72 => ?_) (fun c72 => ?_)
        · refine x_iconst (v := 0) (q := 108) dX11_takes_107 rfl (by decide) ?_
          refine x_zret dX11_takes_108 rfl rfl rfl (Nat.le_refl _) ?_
          exact ⟨Or.inr ⟨num_no hKl, rfl, _, ⟨w6, hv2_1_100, hv2_2_103⟩⟩, (fun j hj => ((o6 j hj).trans ((fr1 j hj).trans rfl)))⟩
        · refine x_aload_n (q := 76) dX11_takes_75 rfl rfl ?_
          refine x_getf (C := RX11) (T := TX11) (N := 29) (k := 6) (q := 79) w6 (by omega) rfl hiX11 (by decide) (by decide +kernel) rfl dX11_takes_76 rfl ?_
          refine x_aload_n (q := 80) dX11_takes_79 rfl rfl ?_
          refine x_getf (C := RX11) (T := TX11) (N := 29) (k := 7) (q := 83) w6 (by omega) rfl hiX11 (by decide) (by decide +kernel) rfl dX11_takes_80 rfl ?_
          refine x_isub (q := 84) dX11_takes_83 rfl ?_
          rw [pk_sub hb.1]
          refine x_iconst (v := 3) (q := 85) dX11_takes_84 rfl (by decide) ?_
          refine x_icmp_ge (t := 107) (q := 88) dX11_takes_85 (by decide) rfl (fun c85 => ?_) (fun c85 => ?_)
          · refine x_iconst (v := 0) (q := 108) dX11_takes_107 rfl (by decide) ?_
            refine x_zret dX11_takes_108 rfl rfl rfl (Nat.le_refl _) ?_
            exact ⟨Or.inr ⟨num_no hKl, rfl, _, ⟨w6, hv2_1_100, hv2_2_103⟩⟩, (fun j hj => ((o6 j hj).trans ((fr1 j hj).trans rfl)))⟩
          · exact absurd ⟨kn_1 c72, Nat.le_of_lt_succ (Nat.lt_of_not_le (fun h => c85 (nI_le (a := 3) h (by omega))))⟩ hKl
      · refine x_aload_n (q := 30) dX11_takes_29 rfl rfl ?_
        refine x_getf (C := RX11) (T := TX11) (N := 29) (k := 6) (q := 33) w6 (by omega) rfl hiX11 (by decide) (by decide +kernel) rfl dX11_takes_30 rfl ?_
        refine x_aload_n (q := 34) dX11_takes_33 rfl rfl ?_
        refine x_getf (C := RX11) (T := TX11) (N := 29) (k := 7) (q := 37) w6 (by omega) rfl hiX11 (by decide) (by decide +kernel) rfl dX11_takes_34 rfl ?_
        refine x_isub (q := 38) dX11_takes_37 rfl ?_
        rw [pk_sub hb.1]
        refine x_iconst (v := 3) (q := 39) dX11_takes_38 rfl (by decide) ?_
        refine x_icmp_ge (t := 68) (q := 42) dX11_takes_39 (by decide) rfl (fun c39 => ?_) (fun c39 => ?_)
        · refine x_aload_n (q := 69) dX11_takes_68 rfl rfl ?_
          refine x_getf (C := RX11) (T := TX11) (N := 29) (k := 9) (q := 72) w6 (by omega) rfl hiX11 (by decide) (by decide +kernel) rfl dX11_takes_69 rfl ?_
          refine x_if_eq (t := 107) (q := 75) dX11_takes_72 (by decide) rfl (fun c72 => ?_) (fun c72 => ?_)
          · refine x_iconst (v := 0) (q := 108) dX11_takes_107 rfl (by decide) ?_
            refine x_zret dX11_takes_108 rfl rfl rfl (Nat.le_refl _) ?_
            exact ⟨Or.inr ⟨num_no hKl, rfl, _, ⟨w6, hv2_1_100, hv2_2_103⟩⟩, (fun j hj => ((o6 j hj).trans ((fr1 j hj).trans rfl)))⟩
          · refine x_aload_n (q := 76) dX11_takes_75 rfl rfl ?_
            refine x_getf (C := RX11) (T := TX11) (N := 29) (k := 6) (q := 79) w6 (by omega) rfl hiX11 (by decide) (by decide +kernel) rfl dX11_takes_76 rfl ?_
            refine x_aload_n (q := 80) dX11_takes_79 rfl rfl ?_
            refine x_getf (C := RX11) (T := TX11) (N := 29) (k := 7) (q := 83) w6 (by omega) rfl hiX11 (by decide) (by decide +kernel) rfl dX11_takes_80 rfl ?_
            refine x_isub (q := 84) dX11_takes_83 rfl ?_
            rw [pk_sub hb.1]
            refine x_iconst (v := 3) (q := 85) dX11_takes_84 rfl (by decide) ?_
            refine x_icmp_ge (t := 107) (q := 88) dX11_takes_85 (by decide) rfl (fun c85 => ?_) (fun c85 => ?_)
            · refine x_iconst (v := 0) (q := 108) dX11_takes_107 rfl (by decide) ?_
              refine x_zret dX11_takes_108 rfl rfl rfl (Nat.le_refl _) ?_
              exact ⟨Or.inr ⟨num_no hKl, rfl, _, ⟨w6, hv2_1_100, hv2_2_103⟩⟩, (fun j hj => ((o6 j hj).trans ((fr1 j hj).trans rfl)))⟩
            · exact absurd ⟨kn_1 c72, Nat.le_of_lt_succ (Nat.lt_of_not_le (fun h => c85 (nI_le (a := 3) h (by omega))))⟩ hKl
        · exact absurd ⟨kn_1 c26, Nat.le_of_lt_succ (Nat.lt_of_not_le (fun h => c39 (nI_le (a := 3) h (by omega))))⟩ hKl
  

