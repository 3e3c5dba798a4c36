def lfM (δ : Nat → Nat → Int32) (m : Int32) : Nat → Int32 := fun p => if 0 ≤ m then m else δ 7 p
def pbV (τ δ : Nat → Nat → Int32) (P W : Nat) (m aw : Int32) (c : Nat) : Int32 := wbR τ δ P aw W c (lfM δ m) 0
/-- the most, and the first row with it, of k rows -/
def pbF (v : Nat → Int32) : Nat → Int32 × Nat
  | 0 => (-1, 0)
  | k + 1 => if (pbF v k).1 < v k then (v k, k) else pbF v k
def pT (t : Nat → Nat → Int32) (l : Nat → Int32) (b : Nat) : Nat → Nat → Int32 := fun z => if z = 12 then l else if z = 13 then (fun _ => nI b) else t z
def fiL (x l : Nat → Int32) (i : Nat) : Nat → Int32 := fun j => if j < i then x j else l j
theorem fiL_0 (x l : Nat → Int32) : fiL x l 0 = l := by funext j; unfold fiL; rw [if_neg (by omega)]
theorem fiL_s (x l : Nat → Int32) (i : Nat) : upd (fiL x l i) i (x i) = fiL x l (i + 1) := by
  funext j
  unfold upd fiL
  by_cases e : j = i
  · rw [if_pos e, if_pos (by omega), e]
  · rw [if_neg e]
    by_cases h : j < i
    · rw [if_pos h, if_pos (by omega)]
    · rw [if_neg h, if_neg (by omega)]
theorem pw_le {P W : Nat} (hP : P ≤ 5) (hW : W ≤ 6) : (P + 1) ^ W ≤ 46656 := by
  have h1 : (P + 1) ^ W ≤ 6 ^ W := Nat.pow_le_pow_left (by omega) W
  have h2 : 6 ^ W ≤ 6 ^ 6 := Nat.pow_le_pow_right (by decide) hW
  omega
set_option maxHeartbeats 4000000 in
set_option maxRecDepth 100000 in
theorem l_m_fiL {n P W G : Nat} {m aw c s : Int32} {l : Nat → Int32} {t τ δ : Nat → Nat → Int32} {u : Nat → Nat → Int64} {Q : Option Value → (Nat → xE) → Prop} {M0 : Nat → xE} (hn : 113 < n) (hw : RT τ P W G (t 0)) (hd : ∀ k, k < 22 → t 1 k = dv δ k) (hk : ∀ M, oX11 99 (fun z => if z = 12 then fiL (lfM δ m) l P else t z) u M → xfr 99 114 M0 M → X mX11_planBy 0 0 77 [(5, .int (nI P)), (4, .int c), (3, .int s), (0, .ref 99), (1, .int m), (2, .int aw)] [] n M Q) : ∀ (k i : Nat) (M : Nat → xE), i + k = P → (oX11 99 (fun z => if z = 12 then fiL (lfM δ m) l i else t z) u M) → (xfr 99 114 M0 M) → X mX11_planBy 0 0 36 [(5, .int (nI i)), (4, .int c), (3, .int s), (0, .ref 99), (1, .int m), (2, .int aw)] [] n M (Q) := by
  have hiX11 : ∀ w ∈ wsX110, w ∈ wsX11_planBy := by decide +kernel
  intro k
  induction k with
  | zero =>
    intro i M hik hM hf
    have hM0 := hM
    obtain ⟨mp0, mp1, mp2, mp3, mp4, mp5, mp6, mp7, mp8, mp9, mp10, mp11, mp12, mp13, mp14⟩ := hM
    have hP5 := rtP hw
    have hW6 := rtW hw
    have mp1 : M (99 + 1) = .inl (0, 122, .inl (t 0)) := mp1
    have mp2 : M (99 + 2) = .inl (0, 242, .inl (t 1)) := mp2
    have mp5 : M (99 + 5) = .inl (0, 5, .inl (fiL (lfM δ m) l i)) := mp5
    refine x_iload (q := 38) dX11_planBy_36 rfl rfl ?_
    refine x_aload_n (q := 39) dX11_planBy_38 rfl rfl ?_
    refine x_getf (C := RX11) (T := TX11) (N := 29) (k := 0) (q := 42) mp0 (by omega) rfl hiX11 (by decide) (by decide +kernel) rfl dX11_planBy_39 rfl ?_
    refine x_iconst (v := 0) (q := 43) dX11_planBy_42 rfl (by decide) ?_
    refine x_iald (q := 44) mp1 (by omega) (ixI (show (0 : Int32) = nI 0 from rfl) (by omega) (by decide)) dX11_planBy_43 rfl ?_
    rw [ixC (show (0 : Int32) = nI 0 from rfl) (by omega)]
    rw [rtn hw]
    refine x_icmp_ge (t := 77) (q := 47) dX11_planBy_44 (by decide) rfl (fun c44 => ?_) (fun c44 => absurd (by rw [show i = P by omega]; exact nI_le (Nat.le_refl _) (by omega)) c44)
    have e9 : i = P := by omega
    subst e9
    exact hk M hM0 hf
  | succ k ih =>
    intro i M hik hM hf
    have hM0 := hM
    obtain ⟨mp0, mp1, mp2, mp3, mp4, mp5, mp6, mp7, mp8, mp9, mp10, mp11, mp12, mp13, mp14⟩ := hM
    have hP5 := rtP hw
    have hW6 := rtW hw
    have mp1 : M (99 + 1) = .inl (0, 122, .inl (t 0)) := mp1
    have mp2 : M (99 + 2) = .inl (0, 242, .inl (t 1)) := mp2
    have mp5 : M (99 + 5) = .inl (0, 5, .inl (fiL (lfM δ m) l i)) := mp5
    refine x_iload (q := 38) dX11_planBy_36 rfl rfl ?_
    refine x_aload_n (q := 39) dX11_planBy_38 rfl rfl ?_
    refine x_getf (C := RX11) (T := TX11) (N := 29) (k := 0) (q := 42) mp0 (by omega) rfl hiX11 (by decide) (by decide +kernel) rfl dX11_planBy_39 rfl ?_
    refine x_iconst (v := 0) (q := 43) dX11_planBy_42 rfl (by decide) ?_
    refine x_iald (q := 44) mp1 (by omega) (ixI (show (0 : Int32) = nI 0 from rfl) (by omega) (by decide)) dX11_planBy_43 rfl ?_
    rw [ixC (show (0 : Int32) = nI 0 from rfl) (by omega)]
    rw [rtn hw]
    refine x_icmp_ge (t := 77) (q := 47) dX11_planBy_44 (by decide) rfl (fun c44 => absurd c44 (nI_ge (a := i) (b := P) (by omega) (by omega))) (fun c44 => ?_)
    refine x_aload_n (q := 48) dX11_planBy_47 rfl rfl ?_
    refine x_getf (C := RX11) (T := TX11) (N := 29) (k := 12) (q := 51) mp0 (by omega) rfl hiX11 (by decide) (by decide +kernel) rfl dX11_planBy_48 rfl ?_
    refine x_iload (q := 53) dX11_planBy_51 rfl rfl ?_
    refine x_iload_n (q := 54) dX11_planBy_53 rfl rfl ?_
    refine x_if_ge (t := 69) (q := 57) dX11_planBy_54 (by decide) rfl (fun c54 => ?_) (fun c54 => ?_)
    · refine x_iload_n (q := 70) dX11_planBy_69 rfl rfl ?_
      refine x_iast (q := 71) mp5 (by omega) (ixI (show (nI i : Int32) = nI i from rfl) (by omega) (by decide)) dX11_planBy_70 rfl (fun M70 w70 o70 => ?_)
      rw [ixC (show (nI i : Int32) = nI i from rfl) (by omega)] at w70
      refine x_iinc (L' := fun x5_71 => [(5, .int x5_71), (4, .int c), (3, .int s), (0, .ref 99), (1, .int m), (2, .int aw)]) (q := 74) dX11_planBy_71 rfl rfl (by decide) (fun _ => rfl) (fun x5_71 ex5_71 => ?_)
      obtain rfl : x5_71 = nI (i + 1) := ex5_71.trans (nI_1 i)
      refine x_goto (q := 36) dX11_planBy_74 (by decide) ?_
      rw [show upd (fiL (lfM δ m) l i) i _ = fiL (lfM δ m) l (i + 1) by rw [← fiL_s]; congr 1; unfold lfM; first | rw [if_pos c54] | rw [if_neg c54]] at w70
      have hv1_1_99 := ((o70 (99) (by omega)).trans mp0)
      have hv1_2_100 := ((o70 (100) (by omega)).trans mp1)
      have hv1_3_101 := ((o70 (101) (by omega)).trans mp2)
      have hv1_4_102 := ((o70 (102) (by omega)).trans mp3)
      have hv1_5_103 := ((o70 (103) (by omega)).trans mp4)
      have hv1_6_105 := ((o70 (105) (by omega)).trans mp6)
      have hv1_7_106 := ((o70 (106) (by omega)).trans mp7)
      have hv1_8_107 := ((o70 (107) (by omega)).trans mp8)
      have hv1_9_108 := ((o70 (108) (by omega)).trans mp9)
      have hv1_10_109 := ((o70 (109) (by omega)).trans mp10)
      have hv1_11_110 := ((o70 (110) (by omega)).trans mp11)
      have hv1_12_111 := ((o70 (111) (by omega)).trans mp12)
      have hv1_13_112 := ((o70 (112) (by omega)).trans mp13)
      have hv1_14_113 := ((o70 (113) (by omega)).trans mp14)
      refine x_pick (L' := [(5, .int (nI (i + 1))), (4, .int c), (3, .int s), (0, .ref 99), (1, .int m), (2, .int aw)]) [0, 1, 2, 3, 4, 5] rfl ?_
      exact ih (i + 1) M70 (by omega) ⟨hv1_1_99, hv1_2_100, hv1_3_101, hv1_4_102, hv1_5_103, w70, hv1_6_105, hv1_7_106, hv1_8_107, hv1_9_108, hv1_10_109, hv1_11_110, hv1_12_111, hv1_13_112, hv1_14_113⟩ (fun j hj => ((o70 j (by omega)).trans (hf j hj)))
    · refine x_aload_n (q := 58) dX11_planBy_57 rfl rfl ?_
      refine x_getf (C := RX11) (T := TX11) (N := 29) (k := 1) (q := 61) mp0 (by omega) rfl hiX11 (by decide) (by decide +kernel) rfl dX11_planBy_58 rfl ?_
      refine x_iconst (v := 0) (q := 62) dX11_planBy_61 rfl (by decide) ?_
      refine x_iload (q := 64) dX11_planBy_62 rfl rfl ?_
      refine x_iadd (q := 65) dX11_planBy_64 rfl ?_
      refine x_iald (q := 66) mp2 (by omega) (ixI (show ((0 + nI i) : Int32) = nI (0 + i) from (nIs rfl rfl)) (by omega) (by decide)) dX11_planBy_65 rfl ?_
      rw [ixC (show ((0 + nI i) : Int32) = nI (0 + i) from (nIs rfl rfl)) (by omega)]
      rw [rdleft hd (show i < 5 by omega)]
      refine x_goto (q := 70) dX11_planBy_66 (by decide) ?_
      refine x_iast (q := 71) mp5 (by omega) (ixI (show (nI i : Int32) = nI i from rfl) (by omega) (by decide)) dX11_planBy_70 rfl (fun M70 w70 o70 => ?_)
      rw [ixC (show (nI i : Int32) = nI i from rfl) (by omega)] at w70
      refine x_iinc (L' := fun x5_71 => [(5, .int x5_71), (4, .int c), (3, .int s), (0, .ref 99), (1, .int m), (2, .int aw)]) (q := 74) dX11_planBy_71 rfl rfl (by decide) (fun _ => rfl) (fun x5_71 ex5_71 => ?_)
      obtain rfl : x5_71 = nI (i + 1) := ex5_71.trans (nI_1 i)
      refine x_goto (q := 36) dX11_planBy_74 (by decide) ?_
      rw [show upd (fiL (lfM δ m) l i) i _ = fiL (lfM δ m) l (i + 1) by rw [← fiL_s]; congr 1; unfold lfM; first | rw [if_pos c54] | rw [if_neg c54]] at w70
      have hv1_1_99 := ((o70 (99) (by omega)).trans mp0)
      have hv1_2_100 := ((o70 (100) (by omega)).trans mp1)
      have hv1_3_101 := ((o70 (101) (by omega)).trans mp2)
      have hv1_4_102 := ((o70 (102) (by omega)).trans mp3)
      have hv1_5_103 := ((o70 (103) (by omega)).trans mp4)
      have hv1_6_105 := ((o70 (105) (by omega)).trans mp6)
      have hv1_7_106 := ((o70 (106) (by omega)).trans mp7)
      have hv1_8_107 := ((o70 (107) (by omega)).trans mp8)
      have hv1_9_108 := ((o70 (108) (by omega)).trans mp9)
      have hv1_10_109 := ((o70 (109) (by omega)).trans mp10)
      have hv1_11_110 := ((o70 (110) (by omega)).trans mp11)
      have hv1_12_111 := ((o70 (111) (by omega)).trans mp12)
      have hv1_13_112 := ((o70 (112) (by omega)).trans mp13)
      have hv1_14_113 := ((o70 (113) (by omega)).trans mp14)
      refine x_pick (L' := [(5, .int (nI (i + 1))), (4, .int c), (3, .int s), (0, .ref 99), (1, .int m), (2, .int aw)]) [0, 1, 2, 3, 4, 5] rfl ?_
      exact ih (i + 1) M70 (by omega) ⟨hv1_1_99, hv1_2_100, hv1_3_101, hv1_4_102, hv1_5_103, w70, hv1_6_105, hv1_7_106, hv1_8_107, hv1_9_108, hv1_10_109, hv1_11_110, hv1_12_111, hv1_13_112, hv1_14_113⟩ (fun j hj => ((o70 j (by omega)).trans (hf j hj)))

set_option maxHeartbeats 4000000 in
set_option maxRecDepth 100000 in
theorem l_m_planBy {n P W G : Nat} {m aw : Int32} {t τ δ : Nat → Nat → Int32} {u : Nat → Nat → Int64} {Q : Option Value → (Nat → xE) → Prop} {M0 : Nat → xE} (hn : 113 < n) (hw : RT τ P W G (t 0)) (hd : ∀ k, k < 22 → t 1 k = dv δ k) : ∀ (k i : Nat) (M : Nat → xE) (l : Nat → Int32), i + k = (P + 1) ^ W → (oX11 99 (pT t l (pbF (pbV τ δ P W m aw) i).2) u M) → (xfr 99 114 M0 M) → (∀ M' l', oX11 99 (pT t l' (pbF (pbV τ δ P W m aw) ((P + 1) ^ W)).2) u M' → xfr 99 114 M0 M' → Q (some (.int (pbF (pbV τ δ P W m aw) ((P + 1) ^ W)).1)) M') → X mX11_planBy 0 0 10 [(4, .int (nI i)), (3, .int (pbF (pbV τ δ P W m aw) i).1), (0, .ref 99), (1, .int m), (2, .int aw)] [] n M (Q) := by
  have hiX11 : ∀ w ∈ wsX110, w ∈ wsX11_planBy := by decide +kernel
  intro k
  induction k with
  | zero =>
    intro i M l hik hM hf hQ
    have hM0 := hM
    obtain ⟨mp0, mp1, mp2, mp3, mp4, mp5, mp6, mp7, mp8, mp9, mp10, mp11, mp12, mp13, mp14⟩ := hM
    have hP5 := rtP hw
    have hW6 := rtW hw
    have hpw := pw_le hP5 hW6
    have mp1 : M (99 + 1) = .inl (0, 122, .inl (t 0)) := mp1
    have mp2 : M (99 + 2) = .inl (0, 242, .inl (t 1)) := mp2
    have mp5 : M (99 + 5) = .inl (0, 5, .inl (l)) := mp5
    refine x_iload (q := 12) dX11_planBy_10 rfl rfl ?_
    refine x_aload_n (q := 13) dX11_planBy_12 rfl rfl ?_
    refine x_getf (C := RX11) (T := TX11) (N := 29) (k := 0) (q := 16) mp0 (by omega) rfl hiX11 (by decide) (by decide +kernel) rfl dX11_planBy_13 rfl ?_
    refine x_iconst (v := 0) (q := 17) dX11_planBy_16 rfl (by decide) ?_
    refine x_iald (q := 18) mp1 (by omega) (ixI (show (0 : Int32) = nI 0 from rfl) (by omega) (by decide)) dX11_planBy_17 rfl ?_
    rw [ixC (show (0 : Int32) = nI 0 from rfl) (by omega)]
    rw [rtn hw]
    refine x_iconst (v := 1) (q := 19) dX11_planBy_18 rfl (by decide) ?_
    refine x_iadd (q := 20) dX11_planBy_19 rfl ?_
    rw [nI_1]
    refine x_aload_n (q := 21) dX11_planBy_20 rfl rfl ?_
    refine x_getf (C := RX11) (T := TX11) (N := 29) (k := 0) (q := 24) mp0 (by omega) rfl hiX11 (by decide) (by decide +kernel) rfl dX11_planBy_21 rfl ?_
    refine x_bipush (v := 11) (q := 26) dX11_planBy_24 rfl (by decide) ?_
    refine x_iald (q := 27) mp1 (by omega) (ixI (show (11 : Int32) = nI 11 from rfl) (by omega) (by decide)) dX11_planBy_26 rfl ?_
    rw [ixC (show (11 : Int32) = nI 11 from rfl) (by omega)]
    rw [rtmany hw]
    refine x_callS (q := 30) (c_m_power (b := P + 1) (e := W) (by omega)) eX11_planBy_227 gX11_planBy_X11_power rfl (Nat.le_of_ble_eq_true rfl) ⟨Nat.le_refl _, Nat.le_refl _⟩ dX11_planBy_27 rfl rfl (fun r27 M27 p27 => ?_)
    obtain ⟨rfl, rfl⟩ := p27
    refine x_icmp_ge (t := 124) (q := 33) dX11_planBy_30 (by decide) rfl (fun c30 => ?_) (fun c30 => absurd (by rw [show i = (P + 1) ^ W by omega]; exact nI_le (Nat.le_refl _) (by omega)) c30)
    refine x_iload_n (q := 125) dX11_planBy_124 rfl rfl ?_
    refine x_iret dX11_planBy_125 rfl rfl (Nat.le_refl _) ?_
    have e9 : i = (P + 1) ^ W := by omega
    subst e9
    exact hQ M l hM0 hf
  | succ k ih =>
    intro i M l hik hM hf hQ
    have hM0 := hM
    obtain ⟨mp0, mp1, mp2, mp3, mp4, mp5, mp6, mp7, mp8, mp9, mp10, mp11, mp12, mp13, mp14⟩ := hM
    have hP5 := rtP hw
    have hW6 := rtW hw
    have hpw := pw_le hP5 hW6
    have mp1 : M (99 + 1) = .inl (0, 122, .inl (t 0)) := mp1
    have mp2 : M (99 + 2) = .inl (0, 242, .inl (t 1)) := mp2
    have mp5 : M (99 + 5) = .inl (0, 5, .inl (l)) := mp5
    refine x_iload (q := 12) dX11_planBy_10 rfl rfl ?_
    refine x_aload_n (q := 13) dX11_planBy_12 rfl rfl ?_
    refine x_getf (C := RX11) (T := TX11) (N := 29) (k := 0) (q := 16) mp0 (by omega) rfl hiX11 (by decide) (by decide +kernel) rfl dX11_planBy_13 rfl ?_
    refine x_iconst (v := 0) (q := 17) dX11_planBy_16 rfl (by decide) ?_
    refine x_iald (q := 18) mp1 (by omega) (ixI (show (0 : Int32) = nI 0 from rfl) (by omega) (by decide)) dX11_planBy_17 rfl ?_
    rw [ixC (show (0 : Int32) = nI 0 from rfl) (by omega)]
    rw [rtn hw]
    refine x_iconst (v := 1) (q := 19) dX11_planBy_18 rfl (by decide) ?_
    refine x_iadd (q := 20) dX11_planBy_19 rfl ?_
    rw [nI_1]
    refine x_aload_n (q := 21) dX11_planBy_20 rfl rfl ?_
    refine x_getf (C := RX11) (T := TX11) (N := 29) (k := 0) (q := 24) mp0 (by omega) rfl hiX11 (by decide) (by decide +kernel) rfl dX11_planBy_21 rfl ?_
    refine x_bipush (v := 11) (q := 26) dX11_planBy_24 rfl (by decide) ?_
    refine x_iald (q := 27) mp1 (by omega) (ixI (show (11 : Int32) = nI 11 from rfl) (by omega) (by decide)) dX11_planBy_26 rfl ?_
    rw [ixC (show (11 : Int32) = nI 11 from rfl) (by omega)]
    rw [rtmany hw]
    refine x_callS (q := 30) (c_m_power (b := P + 1) (e := W) (by omega)) eX11_planBy_227 gX11_planBy_X11_power rfl (Nat.le_of_ble_eq_true rfl) ⟨Nat.le_refl _, Nat.le_refl _⟩ dX11_planBy_27 rfl rfl (fun r27 M27 p27 => ?_)
    obtain ⟨rfl, rfl⟩ := p27
    refine x_icmp_ge (t := 124) (q := 33) dX11_planBy_30 (by decide) rfl (fun c30 => absurd c30 (nI_ge (a := i) (b := (P + 1) ^ W) (by omega) (by omega))) (fun c30 => ?_)
    refine x_iconst (v := 0) (q := 34) dX11_planBy_33 rfl (by decide) ?_
    refine x_istore (L' := fun x5_34 => [(5, .int x5_34), (4, .int (nI i)), (3, .int (pbF (pbV τ δ P W m aw) i).1), (0, .ref 99), (1, .int m), (2, .int aw)]) (q := 36) dX11_planBy_34 rfl (by decide) (fun _ => rfl) (fun x5_34 ex5_34 => ?_)
    subst ex5_34
    refine l_m_fiL (l := l) (t := pT t l (pbF (pbV τ δ P W m aw) i).2) (u := u) (M0 := M) hn hw hd (fun M77 k1 k2 => ?_) P 0 M (by omega) ⟨mp0, mp1, mp2, mp3, mp4, by rw [mp5]; show _ = Sum.inl (0, 5, Sum.inl (fiL (lfM δ m) l 0)); rw [fiL_0], mp6, mp7, mp8, mp9, mp10, mp11, mp12, mp13, mp14⟩ (fun j _ => rfl)
    have k1x := k1
    obtain ⟨kp0, kp1, kp2, kp3, kp4, kp5, kp6, kp7, kp8, kp9, kp10, kp11, kp12, kp13, kp14⟩ := k1
    refine x_aload_n (q := 78) dX11_planBy_77 rfl rfl ?_
    refine x_iload (q := 80) dX11_planBy_78 rfl rfl ?_
    refine x_iload_n (q := 81) dX11_planBy_80 rfl rfl ?_
    refine x_callV (q := 84) (ci := 11) (c_m_worthBy (t := (fun z => if z = 12 then fiL (lfM δ m) l P else pT t l (pbF (pbV τ δ P W m aw) i).2 z)) (u := u) (δ := δ) hn k1x hw hd (c := i) (by omega)) eX11_planBy_230 gX11_planBy_X11_worthBy kp0 (by omega) rfl rfl rfl (Nat.le_of_ble_eq_true rfl) ⟨Nat.le_refl _, Nat.le_refl _⟩ dX11_planBy_81 rfl rfl (fun r81 M81 p81 => ?_)
    obtain ⟨rfl, ⟨l81, hV81⟩, fr81⟩ := p81
    have hU81 := hV81
    obtain ⟨y81_0, y81_1, y81_2, y81_3, y81_4, y81_5, y81_6, y81_7, y81_8, y81_9, y81_10, y81_11, y81_12, y81_13, y81_14⟩ := hV81
    refine x_istore (L' := fun x5_84 => [(5, .int x5_84), (4, .int (nI i)), (3, .int (pbF (pbV τ δ P W m aw) i).1), (0, .ref 99), (1, .int m), (2, .int aw)]) (q := 86) dX11_planBy_84 rfl (by decide) (fun _ => rfl) (fun x5_84 ex5_84 => ?_)
    obtain rfl : x5_84 = pbV τ δ P W m aw i := ex5_84.trans (wbR_cong W i _ _ 0 (fun p hp => (show fiL (lfM δ m) l P p = lfM δ m p from if_pos hp)))
    refine x_aload_n (q := 87) dX11_planBy_86 rfl rfl ?_
    refine x_iload (q := 89) dX11_planBy_87 rfl rfl ?_
    refine x_iload_n (q := 90) dX11_planBy_89 rfl rfl ?_
    refine x_icmp_le (t := 98) (q := 93) dX11_planBy_90 (by decide) rfl (fun c90 => ?_) (fun c90 => ?_)
    · refine x_aload_n (q := 99) dX11_planBy_98 rfl rfl ?_
      refine x_getf (C := RX11) (T := TX11) (N := 29) (k := 13) (q := 102) y81_0 (by omega) rfl hiX11 (by decide) (by decide +kernel) rfl dX11_planBy_99 rfl ?_
      refine x_put (C := RX11) (T := TX11) (N := 29) (k := 13) (q := 105) (ty := .int) tyX11_ok nmX11 y81_0 (by omega) rfl hiX11 (by decide) (by decide +kernel) rfl (by decide +kernel) (fun _ => rfl) (fun _ => rfl) (Nat.le_of_ble_eq_true rfl) dX11_planBy_102 rfl (fun M102 w102 o102 => ?_)
      refine x_iload (q := 107) dX11_planBy_105 rfl rfl ?_
      refine x_iload_n (q := 108) dX11_planBy_107 rfl rfl ?_
      refine x_icmp_le (t := 116) (q := 111) dX11_planBy_108 (by decide) rfl (fun c108 => ?_) (fun c108 => absurd c90 c108)
      refine x_iload_n (q := 117) dX11_planBy_116 rfl rfl ?_
      refine x_istore_n (L' := fun x3_117 => [(3, .int x3_117), (5, .int (pbV τ δ P W m aw i)), (4, .int (nI i)), (0, .ref 99), (1, .int m), (2, .int aw)]) (q := 118) dX11_planBy_117 rfl (by decide) (fun _ => rfl) (fun x3_117 ex3_117 => ?_)
      obtain rfl : x3_117 = (pbF (pbV τ δ P W m aw) (i + 1)).1 := ex3_117.trans (by first | rw [show pbF (pbV τ δ P W m aw) (i + 1) = (pbV τ δ P W m aw i, i) from if_pos (xlt_nle.mp c90)] | rw [show pbF (pbV τ δ P W m aw) (i + 1) = pbF (pbV τ δ P W m aw) i from if_neg (fun h => xlt_nle.mpr h c90)])
      refine x_iinc (L' := fun x4_118 => [(4, .int x4_118), (3, .int ((pbF (pbV τ δ P W m aw) (i + 1)).1)), (5, .int (pbV τ δ P W m aw i)), (0, .ref 99), (1, .int m), (2, .int aw)]) (q := 121) dX11_planBy_118 rfl rfl (by decide) (fun _ => rfl) (fun x4_118 ex4_118 => ?_)
      obtain rfl : x4_118 = nI (i + 1) := ex4_118.trans (nI_1 i)
      refine x_goto (q := 10) dX11_planBy_121 (by decide) ?_
      have hv2_1_100 := ((o102 (100) (by omega)).trans y81_1)
      have hv2_2_101 := ((o102 (101) (by omega)).trans y81_2)
      have hv2_3_102 := ((o102 (102) (by omega)).trans y81_3)
      have hv2_4_103 := ((o102 (103) (by omega)).trans y81_4)
      have hv2_5_104 := ((o102 (104) (by omega)).trans y81_5)
      have hv2_6_105 := ((o102 (105) (by omega)).trans y81_6)
      have hv2_7_106 := ((o102 (106) (by omega)).trans y81_7)
      have hv2_8_107 := ((o102 (107) (by omega)).trans y81_8)
      have hv2_9_108 := ((o102 (108) (by omega)).trans y81_9)
      have hv2_10_109 := ((o102 (109) (by omega)).trans y81_10)
      have hv2_11_110 := ((o102 (110) (by omega)).trans y81_11)
      have hv2_12_111 := ((o102 (111) (by omega)).trans y81_12)
      have hv2_13_112 := ((o102 (112) (by omega)).trans y81_13)
      have hv2_14_113 := ((o102 (113) (by omega)).trans y81_14)
      refine x_pick (L' := [(4, .int (nI (i + 1))), (3, .int (pbF (pbV τ δ P W m aw) (i + 1)).1), (0, .ref 99), (1, .int m), (2, .int aw)]) [0, 1, 3, 4, 5] rfl ?_
      exact ih (i + 1) M102 l81 (by omega) (by rw [show pbF (pbV τ δ P W m aw) (i + 1) = pbF (pbV τ δ P W m aw) i  from  if_neg (fun h => xlt_nle.mpr h c90)]; exact ⟨w102, hv2_1_100, hv2_2_101, hv2_3_102, hv2_4_103, hv2_5_104, hv2_6_105, hv2_7_106, hv2_8_107, hv2_9_108, hv2_10_109, hv2_11_110, hv2_12_111, hv2_13_112, hv2_14_113⟩) (fun j hj => ((o102 j (by omega)).trans ((fr81 j (by omega)).trans ((k2 j hj).trans (hf j hj))))) hQ
    · refine x_iload (q := 95) dX11_planBy_93 rfl rfl ?_
      refine x_goto (q := 102) dX11_planBy_95 (by decide) ?_
      refine x_put (C := RX11) (T := TX11) (N := 29) (k := 13) (q := 105) (ty := .int) tyX11_ok nmX11 y81_0 (by omega) rfl hiX11 (by decide) (by decide +kernel) rfl (by decide +kernel) (fun _ => rfl) (fun _ => rfl) (Nat.le_of_ble_eq_true rfl) dX11_planBy_102 rfl (fun M102 w102 o102 => ?_)
      refine x_iload (q := 107) dX11_planBy_105 rfl rfl ?_
      refine x_iload_n (q := 108) dX11_planBy_107 rfl rfl ?_
      refine x_icmp_le (t := 116) (q := 111) dX11_planBy_108 (by decide) rfl (fun c108 => absurd c108 c90) (fun c108 => ?_)
      refine x_iload (q := 113) dX11_planBy_111 rfl rfl ?_
      refine x_goto (q := 117) dX11_planBy_113 (by decide) ?_
      refine x_istore_n (L' := fun x3_117 => [(3, .int x3_117), (5, .int (pbV τ δ P W m aw i)), (4, .int (nI i)), (0, .ref 99), (1, .int m), (2, .int aw)]) (q := 118) dX11_planBy_117 rfl (by decide) (fun _ => rfl) (fun x3_117 ex3_117 => ?_)
      obtain rfl : x3_117 = (pbF (pbV τ δ P W m aw) (i + 1)).1 := ex3_117.trans (by first | rw [show pbF (pbV τ δ P W m aw) (i + 1) = (pbV τ δ P W m aw i, i) from if_pos (xlt_nle.mp c90)] | rw [show pbF (pbV τ δ P W m aw) (i + 1) = pbF (pbV τ δ P W m aw) i from if_neg (fun h => xlt_nle.mpr h c90)])
      refine x_iinc (L' := fun x4_118 => [(4, .int x4_118), (3, .int ((pbF (pbV τ δ P W m aw) (i + 1)).1)), (5, .int (pbV τ δ P W m aw i)), (0, .ref 99), (1, .int m), (2, .int aw)]) (q := 121) dX11_planBy_118 rfl rfl (by decide) (fun _ => rfl) (fun x4_118 ex4_118 => ?_)
      obtain rfl : x4_118 = nI (i + 1) := ex4_118.trans (nI_1 i)
      refine x_goto (q := 10) dX11_planBy_121 (by decide) ?_
      have hv2_1_100 := ((o102 (100) (by omega)).trans y81_1)
      have hv2_2_101 := ((o102 (101) (by omega)).trans y81_2)
      have hv2_3_102 := ((o102 (102) (by omega)).trans y81_3)
      have hv2_4_103 := ((o102 (103) (by omega)).trans y81_4)
      have hv2_5_104 := ((o102 (104) (by omega)).trans y81_5)
      have hv2_6_105 := ((o102 (105) (by omega)).trans y81_6)
      have hv2_7_106 := ((o102 (106) (by omega)).trans y81_7)
      have hv2_8_107 := ((o102 (107) (by omega)).trans y81_8)
      have hv2_9_108 := ((o102 (108) (by omega)).trans y81_9)
      have hv2_10_109 := ((o102 (109) (by omega)).trans y81_10)
      have hv2_11_110 := ((o102 (110) (by omega)).trans y81_11)
      have hv2_12_111 := ((o102 (111) (by omega)).trans y81_12)
      have hv2_13_112 := ((o102 (112) (by omega)).trans y81_13)
      have hv2_14_113 := ((o102 (113) (by omega)).trans y81_14)
      refine x_pick (L' := [(4, .int (nI (i + 1))), (3, .int (pbF (pbV τ δ P W m aw) (i + 1)).1), (0, .ref 99), (1, .int m), (2, .int aw)]) [0, 1, 3, 4, 5] rfl ?_
      exact ih (i + 1) M102 l81 (by omega) (by rw [show pbF (pbV τ δ P W m aw) (i + 1) = (pbV τ δ P W m aw i, i)  from  if_pos (xlt_nle.mp c90)]; exact ⟨w102, hv2_1_100, hv2_2_101, hv2_3_102, hv2_4_103, hv2_5_104, hv2_6_105, hv2_7_106, hv2_8_107, hv2_9_108, hv2_10_109, hv2_11_110, hv2_12_111, hv2_13_112, hv2_14_113⟩) (fun j hj => ((o102 j (by omega)).trans ((fr81 j (by omega)).trans ((k2 j hj).trans (hf j hj))))) hQ
    

set_option maxHeartbeats 4000000 in
set_option maxRecDepth 100000 in
theorem c_m_planBy {n : Nat} {M : Nat → xE} {t : Nat → Nat → Int32} {u : Nat → Nat → Int64} (hn : 113 < n) (hM : oX11 99 t u M) {τ : Nat → Nat → Int32} {P W G : Nat} (hw : RT τ P W G (t 0)) {δ : Nat → Nat → Int32} (hd : ∀ k, k < 22 → t 1 k = dv δ k) {m aw : Int32} : xMet mX11_planBy [.ref 99, .int m, .int aw] n M (fun r M' => some (.int (pbF (pbV τ δ P W m aw) ((P + 1) ^ W)).1) = r ∧ (∃ l', oX11 99 (pT t l' (pbF (pbV τ δ P W m aw) ((P + 1) ^ W)).2) u M') ∧ xfr 99 114 M M') := by
  have hM0 := hM
  obtain ⟨mp0, mp1, mp2, mp3, mp4, mp5, mp6, mp7, mp8, mp9, mp10, mp11, mp12, mp13, mp14⟩ := hM
  have hP5 := rtP hw
  have hW6 := rtW hw
  have hG5 := rtG hw
  have hiX11 : ∀ w ∈ wsX110, w ∈ wsX11_planBy := by decide +kernel
  refine xMet.of _ (by decide) rfl (Nat.le_of_ble_eq_true rfl) ?_
  refine x_iconst (v := -1) (q := 1) dX11_planBy_0 rfl (by decide) ?_
  refine x_istore_n (L' := fun x3_1 => [(3, .int x3_1), (0, .ref 99), (1, .int m), (2, .int aw)]) (q := 2) dX11_planBy_1 rfl (by decide) (fun _ => rfl) (fun x3_1 ex3_1 => ?_)
  refine x_aload_n (q := 3) dX11_planBy_2 rfl rfl ?_
  refine x_iconst (v := 0) (q := 4) dX11_planBy_3 rfl (by decide) ?_
  refine x_put (C := RX11) (T := TX11) (N := 29) (k := 13) (q := 7) (ty := .int) tyX11_ok nmX11 mp0 (by omega) rfl hiX11 (by decide) (by decide +kernel) rfl (by decide +kernel) (fun _ => rfl) (fun _ => rfl) (Nat.le_of_ble_eq_true rfl) dX11_planBy_4 rfl (fun M4 w4 o4 => ?_)
  refine x_iconst (v := 0) (q := 8) dX11_planBy_7 rfl (by decide) ?_
  refine x_istore (L' := fun x4_8 => [(4, .int x4_8), (3, .int x3_1), (0, .ref 99), (1, .int m), (2, .int aw)]) (q := 10) dX11_planBy_8 rfl (by decide) (fun _ => rfl) (fun x4_8 ex4_8 => ?_)
  have hv1_1_100 := ((o4 (100) (by omega)).trans mp1)
  have hv1_2_101 := ((o4 (101) (by omega)).trans mp2)
  have hv1_3_102 := ((o4 (102) (by omega)).trans mp3)
  have hv1_4_103 := ((o4 (103) (by omega)).trans mp4)
  have hv1_5_104 := ((o4 (104) (by omega)).trans mp5)
  have hv1_6_105 := ((o4 (105) (by omega)).trans mp6)
  have hv1_7_106 := ((o4 (106) (by omega)).trans mp7)
  have hv1_8_107 := ((o4 (107) (by omega)).trans mp8)
  have hv1_9_108 := ((o4 (108) (by omega)).trans mp9)
  have hv1_10_109 := ((o4 (109) (by omega)).trans mp10)
  have hv1_11_110 := ((o4 (110) (by omega)).trans mp11)
  have hv1_12_111 := ((o4 (111) (by omega)).trans mp12)
  have hv1_13_112 := ((o4 (112) (by omega)).trans mp13)
  have hv1_14_113 := ((o4 (113) (by omega)).trans mp14)
  subst ex3_1
  subst ex4_8
  exact l_m_planBy (t := t) (u := u) (M0 := M) hn hw hd ((P + 1) ^ W) 0 M4 (t 12) (by omega) ⟨w4, hv1_1_100, hv1_2_101, hv1_3_102, hv1_4_103, hv1_5_104, hv1_6_105, hv1_7_106, hv1_8_107, hv1_9_108, hv1_10_109, hv1_11_110, hv1_12_111, hv1_13_112, hv1_14_113⟩ (fun j hj => ((o4 j (by omega)).trans rfl)) (fun M' l' h1 h3 => ⟨rfl, ⟨l', h1⟩, h3⟩)

set_option maxHeartbeats 4000000 in
set_option maxRecDepth 100000 in
theorem c_m_plan {n : Nat} {M : Nat → xE} {t : Nat → Nat → Int32} {u : Nat → Nat → Int64} (hn : 113 < n) (hM : oX11 99 t u M) {τ : Nat → Nat → Int32} {P W G : Nat} (hw : RT τ P W G (t 0)) {δ : Nat → Nat → Int32} (hd : ∀ k, k < 22 → t 1 k = dv δ k) : xMet mX11_plan [.ref 99] n M (fun r M' => some (.int (pbF (pbV τ δ P W (-1) (δ 4 0 ^^^ -1)) ((P + 1) ^ W)).1) = r ∧ (∃ l' b', oX11 99 (pT t l' b') u M') ∧ xfr 99 114 M M') := by
  have hM0 := hM
  obtain ⟨mp0, mp1, mp2, mp3, mp4, mp5, mp6, mp7, mp8, mp9, mp10, mp11, mp12, mp13, mp14⟩ := hM
  have hP5 := rtP hw
  have hW6 := rtW hw
  have hG5 := rtG hw
  have hiX11 : ∀ w ∈ wsX110, w ∈ wsX11_plan := by decide +kernel
  refine xMet.of _ (by decide) rfl (Nat.le_of_ble_eq_true rfl) ?_
  refine x_aload_n (q := 1) dX11_plan_0 rfl rfl ?_
  refine x_iconst (v := -1) (q := 2) dX11_plan_1 rfl (by decide) ?_
  refine x_aload_n (q := 3) dX11_plan_2 rfl rfl ?_
  refine x_getf (C := RX11) (T := TX11) (N := 29) (k := 1) (q := 6) mp0 (by omega) rfl hiX11 (by decide) (by decide +kernel) rfl dX11_plan_3 rfl ?_
  refine x_bipush (v := 16) (q := 8) dX11_plan_6 rfl (by decide) ?_
  refine x_iald (q := 9) mp2 (by omega) (ixI (show (16 : Int32) = nI 16 from rfl) (by omega) (by decide)) dX11_plan_8 rfl ?_
  rw [ixC (show (16 : Int32) = nI 16 from rfl) (by omega)]
  rw [rdasleep hd]
  refine x_iconst (v := -1) (q := 10) dX11_plan_9 rfl (by decide) ?_
  refine x_ixor (q := 11) dX11_plan_10 rfl ?_
  refine x_callV (q := 14) (ci := 11) (c_m_planBy hn hM0 hw hd) eX11_plan_233 gX11_plan_X11_planBy mp0 (by omega) rfl rfl rfl (Nat.le_of_ble_eq_true rfl) ⟨Nat.le_refl _, Nat.le_refl _⟩ dX11_plan_11 rfl rfl (fun r11 M11 p11 => ?_)
  obtain ⟨rfl, ⟨l1, h1⟩, fr1⟩ := p11
  refine x_iret dX11_plan_14 rfl rfl (Nat.le_refl _) ?_
  exact ⟨rfl, ⟨_, _, h1⟩, fr1⟩

theorem pbF_lt (v : Nat → Int32) : ∀ n, (pbF v n).2 ≤ n := by
  intro n
  induction n with
  | zero => exact Nat.le_refl _
  | succ n ih =>
    rw [pbF]
    split
    · exact Nat.le_succ n
    · omega
theorem pbF_ge (v : Nat → Int32) : ∀ n, 0 < n → 0 ≤ v 0 → 0 ≤ (pbF v n).1 := by
  intro n
  induction n with
  | zero => intro h; omega
  | succ n ih =>
    intro _ h0
    rw [pbF]
    by_cases h : (pbF v n).1 < v n
    · rw [if_pos h]
      show 0 ≤ v n
      rcases Nat.eq_zero_or_pos n with e | e
      · rw [e]; exact h0
      · have := ih e h0
        rw [fa_lt] at h; rw [fa_le] at this ⊢; omega
    · rw [if_neg h]
      rcases Nat.eq_zero_or_pos n with e | e
      · subst e
        exact absurd (show (-1 : Int32) < v 0 by rw [fa_le] at h0; rw [fa_lt]; show -1 < _; have : (0 : Int32).toInt = 0 := rfl; omega) h
      · exact ih e h0
set_option maxHeartbeats 4000000 in
set_option maxRecDepth 100000 in
theorem c_m_planOf {n : Nat} {M : Nat → xE} {t : Nat → Nat → Int32} {u : Nat → Nat → Int64} (hn : 113 < n) (hM : oX11 99 t u M) {τ : Nat → Nat → Int32} {P W G : Nat} (hw : RT τ P W G (t 0)) {δ : Nat → Nat → Int32} (hd : ∀ k, k < 22 → t 1 k = dv δ k) {a : Int32} : xMet mX11_planOf [.ref 99, .int a] n M (fun r M' => (if inB a W = true then (some (.int (if (pbF (pbV τ δ P W (-1) (δ 4 0 ^^^ -1)) ((P + 1) ^ W)).1 < 0 then -1 else nI ((pbF (pbV τ δ P W (-1) (δ 4 0 ^^^ -1)) ((P + 1) ^ W)).2 / (P + 1) ^ (W - 1 - a.toNatClampNeg) % (P + 1)) - 1)) = r ∧ (∃ l' b', oX11 99 (pT t l' b') u M') ∧ xfr 99 114 M M') else (M = M' ∧ some (.int (-2)) = r))) := by
  have hM0 := hM
  obtain ⟨mp0, mp1, mp2, mp3, mp4, mp5, mp6, mp7, mp8, mp9, mp10, mp11, mp12, mp13, mp14⟩ := hM
  have hP5 := rtP hw
  have hW6 := rtW hw
  have hG5 := rtG hw
  have hpw := pw_le hP5 hW6
  have hiX11 : ∀ w ∈ wsX110, w ∈ wsX11_planOf := by decide +kernel
  refine xMet.of _ (by decide) rfl (Nat.le_of_ble_eq_true rfl) ?_
  refine x_aload_n (q := 1) dX11_planOf_0 rfl rfl ?_
  refine x_iload_n (q := 2) dX11_planOf_1 rfl rfl ?_
  refine x_callV (q := 5) (ci := 11) (c_m_isWork hn hM0 (rtW hw) (rtmany hw)) eX11_planOf_173 gX11_planOf_X11_isWork mp0 (by omega) rfl rfl rfl (Nat.le_of_ble_eq_true rfl) ⟨Nat.le_refl _, Nat.le_refl _⟩ dX11_planOf_2 rfl rfl (fun r2 M2 p2 => ?_)
  obtain ⟨rfl, p2⟩ := p2
  rcases p2 with ⟨b2, rfl⟩ | ⟨b2, rfl⟩
  · obtain ⟨a1, ha1, rfl⟩ := vp_in_of (inB_t.mp b2) (by omega)
    refine x_if_ne (t := 11) (q := 8) dX11_planOf_5 (by decide) rfl (fun c5 => ?_) (fun c5 => absurd c5 (by decide))
    refine x_aload_n (q := 12) dX11_planOf_11 rfl rfl ?_
    refine x_iconst (v := -1) (q := 13) dX11_planOf_12 rfl (by decide) ?_
    refine x_aload_n (q := 14) dX11_planOf_13 rfl rfl ?_
    refine x_getf (C := RX11) (T := TX11) (N := 29) (k := 1) (q := 17) mp0 (by omega) rfl hiX11 (by decide) (by decide +kernel) rfl dX11_planOf_14 rfl ?_
    refine x_bipush (v := 16) (q := 19) dX11_planOf_17 rfl (by decide) ?_
    refine x_iald (q := 20) mp2 (by omega) (ixI (show (16 : Int32) = nI 16 from rfl) (by omega) (by decide)) dX11_planOf_19 rfl ?_
    rw [ixC (show (16 : Int32) = nI 16 from rfl) (by omega)]
    rw [rdasleep hd]
    refine x_iconst (v := -1) (q := 21) dX11_planOf_20 rfl (by decide) ?_
    refine x_ixor (q := 22) dX11_planOf_21 rfl ?_
    refine x_callV (q := 25) (ci := 11) (c_m_planBy hn hM0 hw hd) eX11_planOf_233 gX11_planOf_X11_planBy mp0 (by omega) rfl rfl rfl (Nat.le_of_ble_eq_true rfl) ⟨Nat.le_refl _, Nat.le_refl _⟩ dX11_planOf_22 rfl rfl (fun r22 M22 p22 => ?_)
    obtain ⟨rfl, ⟨l1, hV22⟩, fr22⟩ := p22
    have hU22 := hV22
    obtain ⟨y22_0, y22_1, y22_2, y22_3, y22_4, y22_5, y22_6, y22_7, y22_8, y22_9, y22_10, y22_11, y22_12, y22_13, y22_14⟩ := hV22
    have y22_1 : M22 (99 + 1) = .inl (0, 122, .inl (t 0)) := y22_1
    refine x_istore_n (L' := fun x2_25 => [(2, .int x2_25), (0, .ref 99), (1, .int (nI a1))]) (q := 26) dX11_planOf_25 rfl (by decide) (fun _ => rfl) (fun x2_25 ex2_25 => ?_)
    obtain rfl : x2_25 = (pbF (pbV τ δ P W (-1) (δ 4 0 ^^^ -1)) ((P + 1) ^ W)).1 := ex2_25
    refine x_aload_n (q := 27) dX11_planOf_26 rfl rfl ?_
    refine x_getf (C := RX11) (T := TX11) (N := 29) (k := 13) (q := 30) y22_0 (by omega) rfl hiX11 (by decide) (by decide +kernel) rfl dX11_planOf_27 rfl ?_
    show X mX11_planOf 0 0 _ _ [.int (nI (pbF (pbV τ δ P W (-1) (δ 4 0 ^^^ -1)) ((P + 1) ^ W)).2)] _ _ _
    refine x_aload_n (q := 31) dX11_planOf_30 rfl rfl ?_
    refine x_getf (C := RX11) (T := TX11) (N := 29) (k := 0) (q := 34) y22_0 (by omega) rfl hiX11 (by decide) (by decide +kernel) rfl dX11_planOf_31 rfl ?_
    refine x_iconst (v := 0) (q := 35) dX11_planOf_34 rfl (by decide) ?_
    refine x_iald (q := 36) y22_1 (by omega) (ixI (show (0 : Int32) = nI 0 from rfl) (by omega) (by decide)) dX11_planOf_35 rfl ?_
    rw [ixC (show (0 : Int32) = nI 0 from rfl) (by omega)]
    rw [rtn hw]
    refine x_iconst (v := 1) (q := 37) dX11_planOf_36 rfl (by decide) ?_
    refine x_iadd (q := 38) dX11_planOf_37 rfl ?_
    rw [nI_1]
    refine x_aload_n (q := 39) dX11_planOf_38 rfl rfl ?_
    refine x_getf (C := RX11) (T := TX11) (N := 29) (k := 0) (q := 42) y22_0 (by omega) rfl hiX11 (by decide) (by decide +kernel) rfl dX11_planOf_39 rfl ?_
    refine x_bipush (v := 11) (q := 44) dX11_planOf_42 rfl (by decide) ?_
    refine x_iald (q := 45) y22_1 (by omega) (ixI (show (11 : Int32) = nI 11 from rfl) (by omega) (by decide)) dX11_planOf_44 rfl ?_
    rw [ixC (show (11 : Int32) = nI 11 from rfl) (by omega)]
    rw [rtmany hw]
    refine x_iconst (v := 1) (q := 46) dX11_planOf_45 rfl (by decide) ?_
    refine x_isub (q := 47) dX11_planOf_46 rfl ?_
    rw [show (nI W - 1 : Int32) = nI (W - 1) from pk_sub (b := 1) (by omega)]
    refine x_iload_n (q := 48) dX11_planOf_47 rfl rfl ?_
    refine x_isub (q := 49) dX11_planOf_48 rfl ?_
    rw [pk_sub (show a1 ≤ W - 1 by omega)]
    refine x_callS (q := 52) (c_m_power (b := P + 1) (e := W - 1 - a1) (by omega)) eX11_planOf_227 gX11_planOf_X11_power rfl (Nat.le_of_ble_eq_true rfl) ⟨Nat.le_refl _, Nat.le_refl _⟩ dX11_planOf_49 rfl rfl (fun r49 M49 p49 => ?_)
    obtain ⟨rfl, rfl⟩ := p49
    refine x_idiv (q := 53) dX11_planOf_52 rfl (nIn0 (Nat.pow_pos (by omega)) (by have h9 := pw_le hP5 (show W - 1 - a1 ≤ 6 by omega); omega)) ?_
    rw [pk_div (show (pbF (pbV τ δ P W (-1) (δ 4 0 ^^^ -1)) ((P + 1) ^ W)).2 < 2 ^ 31 by have := pbF_lt (pbV τ δ P W (-1) (δ 4 0 ^^^ -1)) ((P + 1) ^ W); omega) (Nat.pow_pos (by omega)) (by have h9 := pw_le hP5 (show W - 1 - a1 ≤ 6 by omega); omega)]
    refine x_aload_n (q := 54) dX11_planOf_53 rfl rfl ?_
    refine x_getf (C := RX11) (T := TX11) (N := 29) (k := 0) (q := 57) y22_0 (by omega) rfl hiX11 (by decide) (by decide +kernel) rfl dX11_planOf_54 rfl ?_
    refine x_iconst (v := 0) (q := 58) dX11_planOf_57 rfl (by decide) ?_
    refine x_iald (q := 59) y22_1 (by omega) (ixI (show (0 : Int32) = nI 0 from rfl) (by omega) (by decide)) dX11_planOf_58 rfl ?_
    rw [ixC (show (0 : Int32) = nI 0 from rfl) (by omega)]
    rw [rtn hw]
    refine x_iconst (v := 1) (q := 60) dX11_planOf_59 rfl (by decide) ?_
    refine x_iadd (q := 61) dX11_planOf_60 rfl ?_
    rw [nI_1]
    refine x_irem (q := 62) dX11_planOf_61 rfl (nIn0 (k := P + 1) (by omega) (by omega)) ?_
    rw [pk_rem (Nat.lt_of_le_of_lt (Nat.div_le_self _ _) (by have := pbF_lt (pbV τ δ P W (-1) (δ 4 0 ^^^ -1)) ((P + 1) ^ W); omega)) (by omega) (by omega)]
    refine x_iconst (v := 1) (q := 63) dX11_planOf_62 rfl (by decide) ?_
    refine x_isub (q := 64) dX11_planOf_63 rfl ?_
    refine x_istore_n (L' := fun x3_64 => [(3, .int x3_64), (2, .int ((pbF (pbV τ δ P W (-1) (δ 4 0 ^^^ -1)) ((P + 1) ^ W)).1)), (0, .ref 99), (1, .int (nI a1))]) (q := 65) dX11_planOf_64 rfl (by decide) (fun _ => rfl) (fun x3_64 ex3_64 => ?_)
    obtain rfl : x3_64 = nI ((pbF (pbV τ δ P W (-1) (δ 4 0 ^^^ -1)) ((P + 1) ^ W)).2 / (P + 1) ^ (W - 1 - a1) % (P + 1)) - 1 := ex3_64
    refine x_iload_n (q := 66) dX11_planOf_65 rfl rfl ?_
    refine x_if_ge (t := 73) (q := 69) dX11_planOf_66 (by decide) rfl (fun c66 => ?_) (fun c66 => ?_)
    · refine x_iload_n (q := 74) dX11_planOf_73 rfl rfl ?_
      refine x_iret dX11_planOf_74 rfl rfl (Nat.le_refl _) ?_
      rw [if_pos b2, nI_clamp (show a1 < 2 ^ 31 by omega)]
      exact ⟨by rw [if_neg (xle_nlt.mpr c66)], ⟨_, _, hU22⟩, fr22⟩
    · refine x_iconst (v := -1) (q := 70) dX11_planOf_69 rfl (by decide) ?_
      refine x_goto (q := 74) dX11_planOf_70 (by decide) ?_
      refine x_iret dX11_planOf_74 rfl rfl (Nat.le_refl _) ?_
      rw [if_pos b2, nI_clamp (show a1 < 2 ^ 31 by omega)]
      exact ⟨by rw [if_pos (xlt_nle.mp c66)], ⟨_, _, hU22⟩, fr22⟩
  · refine x_if_ne (t := 11) (q := 8) dX11_planOf_5 (by decide) rfl (fun c5 => absurd c5 (by decide)) (fun c5 => ?_)
    refine x_bipush (v := -2) (q := 10) dX11_planOf_8 rfl (by decide) ?_
    refine x_iret dX11_planOf_10 rfl rfl (Nat.le_refl _) ?_
    rw [if_neg b2]
    exact ⟨rfl, rfl⟩

