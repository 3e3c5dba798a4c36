theorem rT_n {t : Nat → Nat → Int32} {lt w : Nat → Int32} {N : Nat} {a s iw ib v c : Int32} (h4 : lt = t 4) (h5 : t 5 = fun _ => nI N) : ∀ z, ((1 ≤ z ∧ z < 6) ∨ 12 ≤ z) → rT t lt N w a s iw ib v c z = t z := by
  intro z hz
  unfold rT
  rw [if_neg (by omega)]
  by_cases e4 : z = 4
  · rw [if_pos e4, h4, e4]
  · rw [if_neg e4]
    by_cases e5 : z = 5
    · rw [if_pos e5, e5, h5]
    · rw [if_neg e5, if_neg (by omega), if_neg (by omega), if_neg (by omega), if_neg (by omega), if_neg (by omega), if_neg (by omega)]
theorem rT_n2 {t : Nat → Nat → Int32} {lt w : Nat → Int32} {N : Nat} {a s iw ib v c : Int32} (h4 : lt = t 4) : ∀ z, ((1 ≤ z ∧ z < 5) ∨ 12 ≤ z) → rT t lt N w a s iw ib v c z = t z := by
  intro z hz
  unfold rT
  rw [if_neg (by omega)]
  by_cases e4 : z = 4
  · rw [if_pos e4, h4, e4]
  · rw [if_neg e4, if_neg (by omega), if_neg (by omega), if_neg (by omega), if_neg (by omega), if_neg (by omega), if_neg (by omega), if_neg (by omega)]
theorem mf_xfr {M M' : Nat → xE} (h : ∀ j, ¬ j = 99 → ¬ j = 100 → M' j = M j) : xfr 99 114 M M' := fun j hj => h j (by omega) (by omega)
theorem mf_o {N P W G : Nat} {t : Nat → Nat → Int32} {u : Nat → Nat → Int64} {r : Option Value} {M M' : Nat → xE} (h : mfP t u (t 4) N P W G (cpW (t 0) 61) (fnd (t 4) N 14 1 P W G 0) r M') (hf : ∀ j, ¬ j = 99 → ¬ j = 100 → M' j = M j) (hlo : ∀ y, fnd (t 4) N 14 1 P W G 0 = .inr y → ∀ k, k < 61 → foldM P W G (cpW (t 0) 61) y.2 k = t 0 k) : some (.int (ffI (fnd (t 4) N 14 1 P W G 0))) = r ∧ (∃ t', oX11 99 t' u M' ∧ (∀ k, k < 61 → t' 0 k = t 0 k) ∧ t' 5 0 = nI N ∧ ∀ z, ((1 ≤ z ∧ z < 5) ∨ 12 ≤ z) → t' z = t z) ∧ xfr 99 114 M M' := by
  cases e : fnd (t 4) N 14 1 P W G 0 with
  | inl s =>
    rw [e] at h
    obtain ⟨-, h1, w', a, s', iw, ib, v, c, h2, h3⟩ := h
    exact ⟨h1, ⟨_, h2, fun k hk => (h3 k hk).trans (cpW_lo _ _ hk), rfl, rT_n2 rfl⟩, mf_xfr hf⟩
  | inr y =>
    rw [e] at h
    obtain ⟨h1, a, s, iw, ib, v, h2⟩ := h
    exact ⟨h1, ⟨_, h2, fun k hk => hlo y e k hk, rfl, rT_n2 rfl⟩, mf_xfr hf⟩
theorem fold_lo {w : Nat → Int32} {k : Nat} (hk : k < 61) : ∀ (xs : List tAct) (P W G : Nat) (w : Nat → Int32), foldM P W G w xs k = w k
  | [], _, _, _, _ => rfl
  | x :: xs, P, W, G, w => by rw [foldM, fold_lo (w := w) hk xs, doM_lo hk]
set_option maxHeartbeats 4000000 in
set_option maxRecDepth 100000 in
theorem c_m_fault {n N : Nat} {M : Nat → xE} {t : Nat → Nat → Int32} {u : Nat → Nat → Int64} (hn : 113 < n) (hN : N ≤ 160) (hM : oX11 99 t u M) (h5 : t 5 0 = nI N) {P W G : Nat} (hP : P ≤ 5) (hW : W ≤ 6) (hG : G ≤ 5) (hP0 : t 0 0 = nI P) (hW0 : t 0 11 = nI W) (hG0 : t 0 37 = nI G) : xMet mX11_fault [.ref 99] n M (fun r M' => some (.int (ffI (fnd (t 4) N 14 1 P W G 0))) = r ∧ (∃ t', oX11 99 t' u M' ∧ (∀ k, k < 61 → t' 0 k = t 0 k) ∧ t' 5 0 = nI N ∧ ∀ z, ((1 ≤ z ∧ z < 5) ∨ 12 ≤ z) → t' z = t z) ∧ xfr 99 114 M M') := by
  obtain ⟨mp0, -⟩ := id hM
  refine xMet.of _ (by decide) rfl (Nat.le_of_ble_eq_true rfl) ?_
  refine x_aload_n (q := 1) dX11_fault_0 rfl rfl ?_
  refine x_callV (q := 4) (ci := 11) (c_m_reads hn hN hM h5 hP hW hG hP0 hW0 hG0) eX11_fault_161 gX11_fault_X11_reads mp0 (by omega) rfl rfl rfl (Nat.le_of_ble_eq_true rfl) ⟨Nat.le_refl _, Nat.le_refl _⟩ dX11_fault_1 rfl rfl (fun r1 M1 p1 => ?_)
  obtain ⟨h1, h2⟩ := p1
  obtain ⟨rfl, h3⟩ := mf_o h1 h2 (fun y _ k hk => (fold_lo (w := t 0) hk y.2 P W G _).trans (cpW_lo _ _ hk))
  refine x_iret dX11_fault_4 rfl rfl (Nat.le_refl _) ?_
  exact ⟨rfl, h3⟩

def mtP (t : Nat → Nat → Int32) (u : Nat → Nat → Int64) (N P W G : Nat) (res : Nat ⊕ (Nat × List tAct)) (r : Option Value) (M' : Nat → xE) : Prop := res.elim
  (fun _ => some (.int (-4)) = r ∧ ∃ t', oX11 99 t' u M' ∧ (∀ k, k < 61 → t' 0 k = t 0 k) ∧ t' 5 0 = nI N ∧ ∀ z, ((1 ≤ z ∧ z < 5) ∨ 12 ≤ z) → t' z = t z)
  (fun y => some (.int (nI y.1)) = r ∧ ∃ t', oX11 99 (bgT t') u M' ∧ (∀ k, k < 61 → t' 0 k = foldM P W G (cpW (t 0) 61) y.2 (61 + k)) ∧ t' 5 0 = 0 ∧ ∀ z, ((1 ≤ z ∧ z < 5) ∨ 12 ≤ z) → t' z = t z)
set_option maxHeartbeats 4000000 in
set_option maxRecDepth 100000 in
theorem c_m_town {n N : Nat} {M : Nat → xE} {t : Nat → Nat → Int32} {u : Nat → Nat → Int64} (hn : 113 < n) (hN : N ≤ 160) (hM : oX11 99 t u M) (h5 : t 5 0 = nI N) {P W G : Nat} (hP : P ≤ 5) (hW : W ≤ 6) (hG : G ≤ 5) (hP0 : t 0 0 = nI P) (hW0 : t 0 11 = nI W) (hG0 : t 0 37 = nI G) : xMet mX11_town [.ref 99] n M (fun r M' => mtP t u N P W G (fnd (t 4) N 14 1 P W G 0) r M' ∧ xfr 99 114 M M') := by
  obtain ⟨mp0, -⟩ := id hM
  have hiX11 : ∀ w ∈ wsX110, w ∈ wsX11_town := by decide +kernel
  refine xMet.of _ (by decide) rfl (Nat.le_of_ble_eq_true rfl) ?_
  refine x_aload_n (q := 1) dX11_town_0 rfl rfl ?_
  refine x_callV (q := 4) (ci := 11) (c_m_reads hn hN hM h5 hP hW hG hP0 hW0 hG0) eX11_town_161 gX11_town_X11_reads mp0 (by omega) rfl rfl rfl (Nat.le_of_ble_eq_true rfl) ⟨Nat.le_refl _, Nat.le_refl _⟩ dX11_town_1 rfl rfl (fun r1 M1 p1 => ?_)
  obtain ⟨h1, h2⟩ := p1; rcases hres : fnd (t 4) N 14 1 P W G 0 with s8 | y
  · have hres2 := hres
    rw [hres] at h1
    obtain ⟨hsN, rfl, w9, a9, s9, iw9, ib9, v9, c9, hM1, hlow⟩ := h1
    refine x_iconst (v := -1) (q := 5) dX11_town_4 rfl (by decide) ?_
    refine x_icmp_eq (t := 11) (q := 8) dX11_town_5 (by decide) rfl (fun c5 => absurd c5 (m1ne (by omega))) (fun c5 => ?_)
    refine x_bipush (v := -4) (q := 10) dX11_town_8 rfl (by decide) ?_
    refine x_iret dX11_town_10 rfl rfl (Nat.le_refl _) ?_
    exact ⟨⟨rfl, _, hM1, fun k hk => (hlow k hk).trans (cpW_lo _ _ hk), rfl, rT_n2 rfl⟩, mf_xfr h2⟩
  · rw [hres] at h1
    obtain ⟨rfl, a9, s9, iw9, ib9, v9, hM1⟩ := h1
    obtain ⟨k0, k1, k4⟩ := id (rT_R hM1)
    refine x_iconst (v := -1) (q := 5) dX11_town_4 rfl (by decide) ?_
    refine x_icmp_eq (t := 11) (q := 8) dX11_town_5 (by decide) rfl (fun c5 => ?_) (fun c5 => absurd rfl c5)
    refine x_iconst (v := 0) (q := 12) dX11_town_11 rfl (by decide) ?_
    refine x_istore_n (L' := fun x1_12 => [(1, .int x1_12), (0, .ref 99)]) (q := 13) dX11_town_12 rfl (by decide) (fun _ => rfl) (fun x1_12 ex1_12 => ?_)
    subst ex1_12
    refine l_tw1 (M0 := M1) hn 61 0 M1 (by omega) (by rw [upW_0]; exact rT_R hM1) (fun j _ _ => rfl) (fun M40 hR40 fr40 => ?_)
    have hM40 := rT_K hM1 hR40 fr40
    obtain ⟨g0, g1, g2, g3, g4, g5, g6, g7, g8, g9, g10, g11, g12, g13, g14⟩ := id hM40
    refine x_aload_n (q := 41) dX11_town_40 rfl rfl ?_
    refine x_iconst (v := 0) (q := 42) dX11_town_41 rfl (by decide) ?_
    refine x_put (C := RX11) (T := TX11) (N := 29) (k := 5) (q := 45) (ty := .int) tyX11_ok nmX11 g0 (by omega) rfl hiX11 (by decide) (by decide +kernel) rfl (by decide +kernel) (fun _ => rfl) (fun _ => rfl) (Nat.le_of_ble_eq_true rfl) dX11_town_42 rfl (fun M42 w42 o42 => ?_)
    refine x_aload_n (q := 46) dX11_town_45 rfl rfl ?_
    have hv1_1_100 := ((o42 (100) (by omega)).trans g1)
    have hv1_2_101 := ((o42 (101) (by omega)).trans g2)
    have hv1_3_102 := ((o42 (102) (by omega)).trans g3)
    have hv1_4_103 := ((o42 (103) (by omega)).trans g4)
    have hv1_5_104 := ((o42 (104) (by omega)).trans g5)
    have hv1_6_105 := ((o42 (105) (by omega)).trans g6)
    have hv1_7_106 := ((o42 (106) (by omega)).trans g7)
    have hv1_8_107 := ((o42 (107) (by omega)).trans g8)
    have hv1_9_108 := ((o42 (108) (by omega)).trans g9)
    have hv1_10_109 := ((o42 (109) (by omega)).trans g10)
    have hv1_11_110 := ((o42 (110) (by omega)).trans g11)
    have hv1_12_111 := ((o42 (111) (by omega)).trans g12)
    have hv1_13_112 := ((o42 (112) (by omega)).trans g13)
    have hv1_14_113 := ((o42 (113) (by omega)).trans g14)
    have hM42 : oX11 99 (fun z => if z = 5 then (fun _ => 0) else rT t (t 4) N (upW (foldM P W G (cpW (t 0) 61) y.2) 61) a9 s9 iw9 ib9 v9 (nI y.1) z) u M42 := ⟨w42, hv1_1_100, hv1_2_101, hv1_3_102, hv1_4_103, hv1_5_104, hv1_6_105, hv1_7_106, hv1_8_107, hv1_9_108, hv1_10_109, hv1_11_110, hv1_12_111, hv1_13_112, hv1_14_113⟩
    refine x_callV (q := 49) (ci := 11) (c_m_beginsDay hn hM42) eX11_town_62 gX11_town_X11_beginsDay w42 (by omega) rfl rfl rfl (Nat.le_of_ble_eq_true rfl) ⟨Nat.le_refl _, Nat.le_refl _⟩ dX11_town_46 rfl rfl (fun r46 M46 p46 => ?_)
    obtain ⟨rfl, hV46, fr46⟩ := p46
    refine x_aload_n (q := 50) dX11_town_49 rfl rfl ?_
    refine x_getf (C := RX11) (T := TX11) (N := 29) (k := 11) (q := 53) hV46.1 (by omega) rfl hiX11 (by decide) (by decide +kernel) rfl dX11_town_50 rfl ?_
    refine x_iret dX11_town_53 rfl rfl (Nat.le_refl _) ?_
    refine ⟨⟨rfl, _, hV46, fun k hk => ?_, rfl, fun z hz => ?_⟩, fun j hj => (fr46 j hj).trans ((o42 j (by omega)).trans ((fr40 j (by omega) (by omega)).trans (h2 j (by omega) (by omega))))⟩
    · show upW (foldM P W G (cpW (t 0) 61) y.2) 61 k = _
      unfold upW
      rw [if_pos hk]
    · show (if z = 5 then _ else rT t (t 4) N _ a9 s9 iw9 ib9 v9 (nI y.1) z) = t z
      rw [if_neg (by omega)]
      exact rT_n2 rfl z hz
    

def mtW (t : Nat → Nat → Int32) (N : Nat) (a : Int32) : Nat → Nat → Int32 := fun z => if z = 4 then upd (t 4) N a else if z = 5 then (fun _ => nI (N + 1)) else t z
set_option maxHeartbeats 4000000 in
set_option maxRecDepth 100000 in
theorem c_m_write {n N : Nat} {M : Nat → xE} {t : Nat → Nat → Int32} {u : Nat → Nat → Int64} (hn : 113 < n) (hN : N ≤ 160) (hM : oX11 99 t u M) (h5 : t 5 0 = nI N) {a : Int32} : xMet mX11_write [.ref 99, .int a] n M (fun r M' => if inB a 256 = true then (if N < 160 then (some (.int (nI (N + 1))) = r ∧ oX11 99 (mtW t N a) u M' ∧ xfr 99 114 M M') else (M = M' ∧ some (.int (-5)) = r)) else (M = M' ∧ some (.int (-3)) = r)) := by
  have hM0 := hM
  obtain ⟨mp0, mp1, mp2, mp3, mp4, mp5, mp6, mp7, mp8, mp9, mp10, mp11, mp12, mp13, mp14⟩ := hM
  rw [h5] at mp0
  have hiX11 : ∀ w ∈ wsX110, w ∈ wsX11_write := by decide +kernel
  refine xMet.of _ (by decide) rfl (Nat.le_of_ble_eq_true rfl) ?_
  refine x_iload_n (q := 1) dX11_write_0 rfl rfl ?_
  refine x_i2l (q := 2) dX11_write_1 rfl ?_
  refine x_lconst (v := 0) (q := 3) dX11_write_2 rfl (by decide) ?_
  refine x_ldc2 (v := 255) (q := 6) (by decide +kernel) dX11_write_3 rfl ?_
  refine x_callS (q := 9) c_m_in eX11_write_65 gX11_write_X11_in rfl (Nat.le_of_ble_eq_true rfl) ⟨Nat.le_refl _, Nat.le_refl _⟩ dX11_write_6 rfl rfl (fun r6 M6 p6 => ?_)
  obtain ⟨rfl, p6⟩ := p6
  rcases p6 with ⟨b6, rfl⟩ | ⟨b6, rfl⟩
  · refine x_if_ne (t := 15) (q := 12) dX11_write_9 (by decide) rfl (fun c9 => ?_) (fun c9 => absurd c9 (by decide))
    refine x_aload_n (q := 16) dX11_write_15 rfl rfl ?_
    refine x_getf (C := RX11) (T := TX11) (N := 29) (k := 5) (q := 19) mp0 (by omega) rfl hiX11 (by decide) (by decide +kernel) rfl dX11_write_16 rfl ?_
    refine x_sipush (v := 160) (q := 22) dX11_write_19 rfl (by decide) ?_
    refine x_icmp_ne (t := 28) (q := 25) dX11_write_22 (by decide) rfl (fun c22 => ?_) (fun c22 => ?_)
    · have hlt : N < 160 := by have h9 : ¬ N = 160 := fun h => c22 ((nIne (b := 160) (by omega) (by decide)).mpr h); omega
      refine x_aload_n (q := 29) dX11_write_28 rfl rfl ?_
      refine x_getf (C := RX11) (T := TX11) (N := 29) (k := 4) (q := 32) mp0 (by omega) rfl hiX11 (by decide) (by decide +kernel) rfl dX11_write_29 rfl ?_
      refine x_aload_n (q := 33) dX11_write_32 rfl rfl ?_
      refine x_getf (C := RX11) (T := TX11) (N := 29) (k := 5) (q := 36) mp0 (by omega) rfl hiX11 (by decide) (by decide +kernel) rfl dX11_write_33 rfl ?_
      refine x_iload_n (q := 37) dX11_write_36 rfl rfl ?_
      refine x_iast (q := 38) mp4 (by omega) (vp_in_nI (show N < 160 by omega) (by decide)) dX11_write_37 rfl (fun M37 w37 o37 => ?_)
      rw [nI_clamp (show N < 2 ^ 31 by omega)] at w37
      refine x_aload_n (q := 39) dX11_write_38 rfl rfl ?_
      refine x_dup (q := 40) dX11_write_39 rfl rfl ?_
      have hv1_1_99 := ((o37 (99) (by omega)).trans mp0)
      refine x_getf (C := RX11) (T := TX11) (N := 29) (k := 5) (q := 43) hv1_1_99 (by omega) rfl hiX11 (by decide) (by decide +kernel) rfl dX11_write_40 rfl ?_
      refine x_iconst (v := 1) (q := 44) dX11_write_43 rfl (by decide) ?_
      refine x_iadd (q := 45) dX11_write_44 rfl ?_
      rw [nI_1]
      refine x_put (C := RX11) (T := TX11) (N := 29) (k := 5) (q := 48) (ty := .int) tyX11_ok nmX11 hv1_1_99 (by omega) rfl hiX11 (by decide) (by decide +kernel) rfl (by decide +kernel) (fun _ => rfl) (fun _ => rfl) (Nat.le_of_ble_eq_true rfl) dX11_write_45 rfl (fun M45 w45 o45 => ?_)
      refine x_aload_n (q := 49) dX11_write_48 rfl rfl ?_
      refine x_getf (C := RX11) (T := TX11) (N := 29) (k := 5) (q := 52) w45 (by omega) rfl hiX11 (by decide) (by decide +kernel) rfl dX11_write_49 rfl ?_
      refine x_iret dX11_write_52 rfl rfl (Nat.le_refl _) ?_
      have hv2_2_100 := ((o45 (100) (by omega)).trans ((o37 (100) (by omega)).trans mp1))
      have hv2_3_101 := ((o45 (101) (by omega)).trans ((o37 (101) (by omega)).trans mp2))
      have hv2_4_102 := ((o45 (102) (by omega)).trans ((o37 (102) (by omega)).trans mp3))
      have hv2_5_103 := ((o45 (103) (by omega)).trans w37)
      have hv2_6_104 := ((o45 (104) (by omega)).trans ((o37 (104) (by omega)).trans mp5))
      have hv2_7_105 := ((o45 (105) (by omega)).trans ((o37 (105) (by omega)).trans mp6))
      have hv2_8_106 := ((o45 (106) (by omega)).trans ((o37 (106) (by omega)).trans mp7))
      have hv2_9_107 := ((o45 (107) (by omega)).trans ((o37 (107) (by omega)).trans mp8))
      have hv2_10_108 := ((o45 (108) (by omega)).trans ((o37 (108) (by omega)).trans mp9))
      have hv2_11_109 := ((o45 (109) (by omega)).trans ((o37 (109) (by omega)).trans mp10))
      have hv2_12_110 := ((o45 (110) (by omega)).trans ((o37 (110) (by omega)).trans mp11))
      have hv2_13_111 := ((o45 (111) (by omega)).trans ((o37 (111) (by omega)).trans mp12))
      have hv2_14_112 := ((o45 (112) (by omega)).trans ((o37 (112) (by omega)).trans mp13))
      have hv2_15_113 := ((o45 (113) (by omega)).trans ((o37 (113) (by omega)).trans mp14))
      rw [if_pos ((mIn2 (k := 255) (by decide) rfl).mp b6), if_pos hlt]
      exact ⟨rfl, ⟨w45, hv2_2_100, hv2_3_101, hv2_4_102, hv2_5_103, hv2_6_104, hv2_7_105, hv2_8_106, hv2_9_107, hv2_10_108, hv2_11_109, hv2_12_110, hv2_13_111, hv2_14_112, hv2_15_113⟩, (fun j hj => ((o45 j (by omega)).trans ((o37 j (by omega)).trans rfl)))⟩
    · refine x_bipush (v := -5) (q := 27) dX11_write_25 rfl (by decide) ?_
      refine x_iret dX11_write_27 rfl rfl (Nat.le_refl _) ?_
      rw [if_pos ((mIn2 (k := 255) (by decide) rfl).mp b6), if_neg (show ¬ N < 160 by rw [(nIne (b := 160) (by omega) (by decide)).mp c22]; decide)]
      exact ⟨rfl, rfl⟩
  · refine x_if_ne (t := 15) (q := 12) dX11_write_9 (by decide) rfl (fun c9 => absurd c9 (by decide)) (fun c9 => ?_)
    refine x_bipush (v := -3) (q := 14) dX11_write_12 rfl (by decide) ?_
    refine x_iret dX11_write_14 rfl rfl (Nat.le_refl _) ?_
    rw [if_neg (fun h => b6 ((mIn2 (k := 255) (by decide) rfl).mpr h))]
    exact ⟨rfl, rfl⟩

set_option maxHeartbeats 4000000 in
set_option maxRecDepth 100000 in
theorem c_m_erase {n N : Nat} {M : Nat → xE} {t : Nat → Nat → Int32} {u : Nat → Nat → Int64} (hn : 113 < n) (hN : N ≤ 160) (hM : oX11 99 t u M) (h5 : t 5 0 = nI N) : xMet mX11_erase [.ref 99] n M (fun r M' => some (.int (nI N)) = r ∧ oX11 99 (fun z => if z = 5 then (fun _ => 0) else t z) u M' ∧ xfr 99 114 M M') := by
  have hM0 := hM
  obtain ⟨mp0, mp1, mp2, mp3, mp4, mp5, mp6, mp7, mp8, mp9, mp10, mp11, mp12, mp13, mp14⟩ := hM
  rw [h5] at mp0
  have hiX11 : ∀ w ∈ wsX110, w ∈ wsX11_erase := by decide +kernel
  refine xMet.of _ (by decide) rfl (Nat.le_of_ble_eq_true rfl) ?_
  refine x_aload_n (q := 1) dX11_erase_0 rfl rfl ?_
  refine x_getf (C := RX11) (T := TX11) (N := 29) (k := 5) (q := 4) mp0 (by omega) rfl hiX11 (by decide) (by decide +kernel) rfl dX11_erase_1 rfl ?_
  refine x_istore_n (L' := fun x1_4 => [(1, .int x1_4), (0, .ref 99)]) (q := 5) dX11_erase_4 rfl (by decide) (fun _ => rfl) (fun x1_4 ex1_4 => ?_)
  obtain rfl : x1_4 = nI N := ex1_4
  refine x_aload_n (q := 6) dX11_erase_5 rfl rfl ?_
  refine x_iconst (v := 0) (q := 7) dX11_erase_6 rfl (by decide) ?_
  refine x_put (C := RX11) (T := TX11) (N := 29) (k := 5) (q := 10) (ty := .int) tyX11_ok nmX11 mp0 (by omega) rfl hiX11 (by decide) (by decide +kernel) rfl (by decide +kernel) (fun _ => rfl) (fun _ => rfl) (Nat.le_of_ble_eq_true rfl) dX11_erase_7 rfl (fun M7 w7 o7 => ?_)
  refine x_iload_n (q := 11) dX11_erase_10 rfl rfl ?_
  refine x_iret dX11_erase_11 rfl rfl (Nat.le_refl _) ?_
  have hv1_1_100 := ((o7 (100) (by omega)).trans mp1)
  have hv1_2_101 := ((o7 (101) (by omega)).trans mp2)
  have hv1_3_102 := ((o7 (102) (by omega)).trans mp3)
  have hv1_4_103 := ((o7 (103) (by omega)).trans mp4)
  have hv1_5_104 := ((o7 (104) (by omega)).trans mp5)
  have hv1_6_105 := ((o7 (105) (by omega)).trans mp6)
  have hv1_7_106 := ((o7 (106) (by omega)).trans mp7)
  have hv1_8_107 := ((o7 (107) (by omega)).trans mp8)
  have hv1_9_108 := ((o7 (108) (by omega)).trans mp9)
  have hv1_10_109 := ((o7 (109) (by omega)).trans mp10)
  have hv1_11_110 := ((o7 (110) (by omega)).trans mp11)
  have hv1_12_111 := ((o7 (111) (by omega)).trans mp12)
  have hv1_13_112 := ((o7 (112) (by omega)).trans mp13)
  have hv1_14_113 := ((o7 (113) (by omega)).trans mp14)
  exact ⟨rfl, ⟨w7, hv1_1_100, hv1_2_101, hv1_3_102, hv1_4_103, hv1_5_104, hv1_6_105, hv1_7_106, hv1_8_107, hv1_9_108, hv1_10_109, hv1_11_110, hv1_12_111, hv1_13_112, hv1_14_113⟩, (fun j hj => ((o7 j (by omega)).trans rfl))⟩

