abbrev lyT : Type := Nat × (Nat → Int32) × (Nat → Int32)
def lyI (E : Nat → Nat → Bool) (a : Nat) : Nat → Nat → lyT → lyT
  | 0, _, s => s
  | k + 1, b, s => lyI E a k (b + 1) (if E a b = true then (s.1 + 1, upd s.2.1 s.1 (nI a), upd s.2.2 s.1 (nI b)) else s)
def lyO (E : Nat → Nat → Bool) (P : Nat) : Nat → Nat → lyT → lyT
  | 0, _, s => s
  | k + 1, a, s => lyO E P k (a + 1) (lyI E a (P - (a + 1)) (a + 1) s)
def tri : Nat → Nat
  | 0 => 0
  | m + 1 => tri m + m
theorem tri_le : ∀ {m : Nat}, m ≤ 5 → tri m ≤ 10 := by
  intro m h
  rcases (show m = 0 ∨ m = 1 ∨ m = 2 ∨ m = 3 ∨ m = 4 ∨ m = 5 by omega) with e | e | e | e | e | e <;> subst e <;> decide
theorem lyI_le (E : Nat → Nat → Bool) (a : Nat) : ∀ (k b : Nat) (s : lyT), (lyI E a k b s).1 ≤ s.1 + k := by
  intro k
  induction k with
  | zero => intro b s; exact Nat.le_refl _
  | succ k ih =>
    intro b s
    rw [lyI]
    have := ih (b + 1) (if E a b = true then (s.1 + 1, upd s.2.1 s.1 (nI a), upd s.2.2 s.1 (nI b)) else s)
    split at this
    · rw [if_pos (by assumption)]; simp only at this; omega
    · rw [if_neg (by assumption)]; omega
theorem lyO_le (E : Nat → Nat → Bool) (P : Nat) : ∀ (k a : Nat) (s : lyT), a + k = P → (lyO E P k a s).1 ≤ s.1 + tri k := by
  intro k
  induction k with
  | zero => intro a s _; exact Nat.le_refl _
  | succ k ih =>
    intro a s h
    rw [lyO, tri]
    have h1 := ih (a + 1) (lyI E a (P - (a + 1)) (a + 1) s) (by omega)
    have h2 := lyI_le E a (P - (a + 1)) (a + 1) s
    omega
def pQ (t : Nat → Nat → Int32) (s : lyT) : Nat → Nat → Int32 := fun z => if z = 24 then s.2.1 else if z = 25 then s.2.2 else if z = 26 then (fun _ => nI s.1) else t z
set_option maxHeartbeats 4000000 in
set_option maxRecDepth 100000 in
theorem l_m_lay1 {n P W G : Nat} {t τ δ : Nat → Nat → Int32} {u : Nat → Nat → Int64} {Q : Option Value → (Nat → xE) → Prop} {M0 : Nat → xE} (hn : 113 < n) (hw : RT τ P W G (t 0)) (hd : ∀ k, k < 22 → t 1 k = dv δ k) {g R : Nat} {f : Int32} (hg : g < P) : ∀ (k i : Nat) (M : Nat → xE) (s : lyT), i + k = P → (g < i) → (s.1 + k ≤ 10) → (oX11 99 (pQ t s) u M) → (xfr 99 114 M0 M) → (∀ M, oX11 99 (pQ t (lyI (eM τ δ) g k i s)) u M → xfr 99 114 M0 M → X mX11_layPairs 0 0 76 [(3, .int (nI P)), (2, .int (nI g)), (0, .ref 99), (1, .int f)] [] n M Q) → X mX11_layPairs 0 0 21 [(3, .int (nI i)), (2, .int (nI g)), (0, .ref 99), (1, .int f)] [] n M (Q) := by
  have hiX11 : ∀ w ∈ wsX110, w ∈ wsX11_layPairs := by decide +kernel
  intro k
  induction k with
  | zero =>
    intro i M s hik hig hlen hM hf hk1
    have hM0 := hM
    obtain ⟨mp0, mp1, mp2, mp3, mp4, mp5, mp6, mp7, mp8, mp9, mp10, mp11, mp12, mp13, mp14⟩ := hM
    have hP5 := rtP hw
    have mp1 : M (99 + 1) = .inl (0, 122, .inl (t 0)) := mp1
    have mp12 : M (99 + 12) = .inl (0, 10, .inl s.2.1) := mp12
    have mp13 : M (99 + 13) = .inl (0, 10, .inl s.2.2) := mp13
    refine x_iload_n (q := 22) dX11_layPairs_21 rfl rfl ?_
    refine x_aload_n (q := 23) dX11_layPairs_22 rfl rfl ?_
    refine x_getf (C := RX11) (T := TX11) (N := 29) (k := 0) (q := 26) mp0 (by omega) rfl hiX11 (by decide) (by decide +kernel) rfl dX11_layPairs_23 rfl ?_
    refine x_iconst (v := 0) (q := 27) dX11_layPairs_26 rfl (by decide) ?_
    refine x_iald (q := 28) mp1 (by omega) (ixI (show (0 : Int32) = nI 0 from rfl) (by omega) (by decide)) dX11_layPairs_27 rfl ?_
    rw [ixC (show (0 : Int32) = nI 0 from rfl) (by omega)]
    rw [rtn hw]
    refine x_icmp_ge (t := 76) (q := 31) dX11_layPairs_28 (by decide) rfl (fun c28 => ?_) (fun c28 => absurd (by rw [show i = P by omega]; exact nI_le (Nat.le_refl _) (by omega)) c28)
    have e9 : i = P := by omega
    subst e9
    exact hk1 M hM0 hf
  | succ k ih =>
    intro i M s hik hig hlen hM hf hk1
    have hM0 := hM
    obtain ⟨mp0, mp1, mp2, mp3, mp4, mp5, mp6, mp7, mp8, mp9, mp10, mp11, mp12, mp13, mp14⟩ := hM
    have hP5 := rtP hw
    have mp1 : M (99 + 1) = .inl (0, 122, .inl (t 0)) := mp1
    have mp12 : M (99 + 12) = .inl (0, 10, .inl s.2.1) := mp12
    have mp13 : M (99 + 13) = .inl (0, 10, .inl s.2.2) := mp13
    refine x_iload_n (q := 22) dX11_layPairs_21 rfl rfl ?_
    refine x_aload_n (q := 23) dX11_layPairs_22 rfl rfl ?_
    refine x_getf (C := RX11) (T := TX11) (N := 29) (k := 0) (q := 26) mp0 (by omega) rfl hiX11 (by decide) (by decide +kernel) rfl dX11_layPairs_23 rfl ?_
    refine x_iconst (v := 0) (q := 27) dX11_layPairs_26 rfl (by decide) ?_
    refine x_iald (q := 28) mp1 (by omega) (ixI (show (0 : Int32) = nI 0 from rfl) (by omega) (by decide)) dX11_layPairs_27 rfl ?_
    rw [ixC (show (0 : Int32) = nI 0 from rfl) (by omega)]
    rw [rtn hw]
    refine x_icmp_ge (t := 76) (q := 31) dX11_layPairs_28 (by decide) rfl (fun c28 => absurd c28 (nI_ge (a := i) (b := P) (by omega) (by omega))) (fun c28 => ?_)
    refine x_aload_n (q := 32) dX11_layPairs_31 rfl rfl ?_
    refine x_iload_n (q := 33) dX11_layPairs_32 rfl rfl ?_
    refine x_iload_n (q := 34) dX11_layPairs_33 rfl rfl ?_
    refine x_callV (q := 37) (ci := 11) (c_m_mayMarry (t := pQ t s) (u := u) hn hM0 hw hd hg (show i < P by omega)) eX11_layPairs_208 gX11_layPairs_X11_mayMarry mp0 (by omega) rfl rfl rfl (Nat.le_of_ble_eq_true rfl) ⟨Nat.le_refl _, Nat.le_refl _⟩ dX11_layPairs_34 rfl rfl (fun r34 M34 p34 => ?_)
    obtain ⟨rfl, p34⟩ := p34
    rcases p34 with ⟨b34, rfl⟩ | ⟨b34, rfl⟩
    · refine x_if_eq (t := 70) (q := 40) dX11_layPairs_37 (by decide) rfl (fun c37 => absurd c37 (by decide)) (fun c37 => ?_)
      refine x_aload_n (q := 41) dX11_layPairs_40 rfl rfl ?_
      refine x_getf (C := RX11) (T := TX11) (N := 29) (k := 24) (q := 44) mp0 (by omega) rfl hiX11 (by decide) (by decide +kernel) rfl dX11_layPairs_41 rfl ?_
      refine x_aload_n (q := 45) dX11_layPairs_44 rfl rfl ?_
      refine x_getf (C := RX11) (T := TX11) (N := 29) (k := 26) (q := 48) mp0 (by omega) rfl hiX11 (by decide) (by decide +kernel) rfl dX11_layPairs_45 rfl ?_
      show X mX11_layPairs 0 0 _ _ (.int (nI s.1) :: _) _ _ _
      refine x_iload_n (q := 49) dX11_layPairs_48 rfl rfl ?_
      refine x_iast (q := 50) mp12 (by omega) (ixI (show (nI s.1 : Int32) = nI s.1 from rfl) (by omega) (by decide)) dX11_layPairs_49 rfl (fun M49 w49 o49 => ?_)
      rw [ixC (show (nI s.1 : Int32) = nI s.1 from rfl) (by omega)] at w49
      refine x_aload_n (q := 51) dX11_layPairs_50 rfl rfl ?_
      have hv1_1_99 := ((o49 (99) (by omega)).trans mp0)
      refine x_getf (C := RX11) (T := TX11) (N := 29) (k := 25) (q := 54) hv1_1_99 (by omega) rfl hiX11 (by decide) (by decide +kernel) rfl dX11_layPairs_51 rfl ?_
      refine x_aload_n (q := 55) dX11_layPairs_54 rfl rfl ?_
      refine x_getf (C := RX11) (T := TX11) (N := 29) (k := 26) (q := 58) hv1_1_99 (by omega) rfl hiX11 (by decide) (by decide +kernel) rfl dX11_layPairs_55 rfl ?_
      show X mX11_layPairs 0 0 _ _ (.int (nI s.1) :: _) _ _ _
      refine x_iload_n (q := 59) dX11_layPairs_58 rfl rfl ?_
      have hv1_2_112 := ((o49 (112) (by omega)).trans mp13)
      refine x_iast (q := 60) hv1_2_112 (by omega) (ixI (show (nI s.1 : Int32) = nI s.1 from rfl) (by omega) (by decide)) dX11_layPairs_59 rfl (fun M59 w59 o59 => ?_)
      rw [ixC (show (nI s.1 : Int32) = nI s.1 from rfl) (by omega)] at w59
      refine x_aload_n (q := 61) dX11_layPairs_60 rfl rfl ?_
      refine x_dup (q := 62) dX11_layPairs_61 rfl rfl ?_
      have hv2_3_99 := ((o59 (99) (by omega)).trans hv1_1_99)
      refine x_getf (C := RX11) (T := TX11) (N := 29) (k := 26) (q := 65) hv2_3_99 (by omega) rfl hiX11 (by decide) (by decide +kernel) rfl dX11_layPairs_62 rfl ?_
      show X mX11_layPairs 0 0 _ _ (.int (nI s.1) :: _) _ _ _
      refine x_iconst (v := 1) (q := 66) dX11_layPairs_65 rfl (by decide) ?_
      refine x_iadd (q := 67) dX11_layPairs_66 rfl ?_
      rw [nI_1]
      refine x_put (C := RX11) (T := TX11) (N := 29) (k := 26) (q := 70) (ty := .int) tyX11_ok nmX11 hv2_3_99 (by omega) rfl hiX11 (by decide) (by decide +kernel) rfl (by decide +kernel) (fun _ => rfl) (fun _ => rfl) (Nat.le_of_ble_eq_true rfl) dX11_layPairs_67 rfl (fun M67 w67 o67 => ?_)
      refine x_iinc (L' := fun x3_70 => [(3, .int x3_70), (2, .int (nI g)), (0, .ref 99), (1, .int f)]) (q := 73) dX11_layPairs_70 rfl rfl (by decide) (fun _ => rfl) (fun x3_70 ex3_70 => ?_)
      obtain rfl : x3_70 = nI (i + 1) := ex3_70.trans (nI_1 i)
      refine x_goto (q := 21) dX11_layPairs_73 (by decide) ?_
      have hv3_4_100 := ((o67 (100) (by omega)).trans ((o59 (100) (by omega)).trans ((o49 (100) (by omega)).trans mp1)))
      have hv3_5_101 := ((o67 (101) (by omega)).trans ((o59 (101) (by omega)).trans ((o49 (101) (by omega)).trans mp2)))
      have hv3_6_102 := ((o67 (102) (by omega)).trans ((o59 (102) (by omega)).trans ((o49 (102) (by omega)).trans mp3)))
      have hv3_7_103 := ((o67 (103) (by omega)).trans ((o59 (103) (by omega)).trans ((o49 (103) (by omega)).trans mp4)))
      have hv3_8_104 := ((o67 (104) (by omega)).trans ((o59 (104) (by omega)).trans ((o49 (104) (by omega)).trans mp5)))
      have hv3_9_105 := ((o67 (105) (by omega)).trans ((o59 (105) (by omega)).trans ((o49 (105) (by omega)).trans mp6)))
      have hv3_10_106 := ((o67 (106) (by omega)).trans ((o59 (106) (by omega)).trans ((o49 (106) (by omega)).trans mp7)))
      have hv3_11_107 := ((o67 (107) (by omega)).trans ((o59 (107) (by omega)).trans ((o49 (107) (by omega)).trans mp8)))
      have hv3_12_108 := ((o67 (108) (by omega)).trans ((o59 (108) (by omega)).trans ((o49 (108) (by omega)).trans mp9)))
      have hv3_13_109 := ((o67 (109) (by omega)).trans ((o59 (109) (by omega)).trans ((o49 (109) (by omega)).trans mp10)))
      have hv3_14_110 := ((o67 (110) (by omega)).trans ((o59 (110) (by omega)).trans ((o49 (110) (by omega)).trans mp11)))
      have hv3_15_111 := ((o67 (111) (by omega)).trans ((o59 (111) (by omega)).trans w49))
      have hv3_16_112 := ((o67 (112) (by omega)).trans w59)
      have hv3_17_113 := ((o67 (113) (by omega)).trans ((o59 (113) (by omega)).trans ((o49 (113) (by omega)).trans mp14)))
      rw [lyI, if_pos b34] at hk1
      refine x_pick (L' := [(3, .int (nI (i + 1))), (2, .int (nI g)), (0, .ref 99), (1, .int f)]) [0, 1, 2, 3] rfl ?_
      exact ih (i + 1) M67 (s.1 + 1, upd s.2.1 s.1 (nI g), upd s.2.2 s.1 (nI i)) (by omega) (by omega) (by show s.1 + 1 + k ≤ 10; omega) ⟨w67, hv3_4_100, hv3_5_101, hv3_6_102, hv3_7_103, hv3_8_104, hv3_9_105, hv3_10_106, hv3_11_107, hv3_12_108, hv3_13_109, hv3_14_110, hv3_15_111, hv3_16_112, hv3_17_113⟩ (fun j hj => ((o67 j (by omega)).trans ((o59 j (by omega)).trans ((o49 j (by omega)).trans (hf j hj))))) hk1
    · refine x_if_eq (t := 70) (q := 40) dX11_layPairs_37 (by decide) rfl (fun c37 => ?_) (fun c37 => absurd c37 (by decide))
      refine x_iinc (L' := fun x3_70 => [(3, .int x3_70), (2, .int (nI g)), (0, .ref 99), (1, .int f)]) (q := 73) dX11_layPairs_70 rfl rfl (by decide) (fun _ => rfl) (fun x3_70 ex3_70 => ?_)
      obtain rfl : x3_70 = nI (i + 1) := ex3_70.trans (nI_1 i)
      refine x_goto (q := 21) dX11_layPairs_73 (by decide) ?_
      rw [lyI, if_neg b34] at hk1
      refine x_pick (L' := [(3, .int (nI (i + 1))), (2, .int (nI g)), (0, .ref 99), (1, .int f)]) [0, 1, 2, 3] rfl ?_
      exact ih (i + 1) M s (by omega) (by omega) (by omega) ⟨mp0, mp1, mp2, mp3, mp4, mp5, mp6, mp7, mp8, mp9, mp10, mp11, mp12, mp13, mp14⟩ (fun j hj => (hf j hj)) hk1

set_option maxHeartbeats 4000000 in
set_option maxRecDepth 100000 in
theorem l_m_lay {n P W G : Nat} {t τ δ : Nat → Nat → Int32} {u : Nat → Nat → Int64} {Q : Option Value → (Nat → xE) → Prop} {M0 : Nat → xE} (hn : 113 < n) (hw : RT τ P W G (t 0)) (hd : ∀ k, k < 22 → t 1 k = dv δ k) {f : Int32} : ∀ (k i : Nat) (M : Nat → xE) (s : lyT), i + k = P → (s.1 + tri k ≤ 10) → (oX11 99 (pQ t s) u M) → (xfr 99 114 M0 M) → (∀ M, oX11 99 (pQ t (lyO (eM τ δ) P k i s)) u M → xfr 99 114 M0 M → Q none M) → X mX11_layPairs 0 0 7 [(2, .int (nI i)), (0, .ref 99), (1, .int f)] [] n M (Q) := by
  have hiX11 : ∀ w ∈ wsX110, w ∈ wsX11_layPairs := by decide +kernel
  intro k
  induction k with
  | zero =>
    intro i M s hik hlen hM hf hQ
    have hM0 := hM
    obtain ⟨mp0, mp1, mp2, mp3, mp4, mp5, mp6, mp7, mp8, mp9, mp10, mp11, mp12, mp13, mp14⟩ := hM
    have hP5 := rtP hw
    have mp1 : M (99 + 1) = .inl (0, 122, .inl (t 0)) := mp1
    refine x_iload_n (q := 8) dX11_layPairs_7 rfl rfl ?_
    refine x_aload_n (q := 9) dX11_layPairs_8 rfl rfl ?_
    refine x_getf (C := RX11) (T := TX11) (N := 29) (k := 0) (q := 12) mp0 (by omega) rfl hiX11 (by decide) (by decide +kernel) rfl dX11_layPairs_9 rfl ?_
    refine x_iconst (v := 0) (q := 13) dX11_layPairs_12 rfl (by decide) ?_
    refine x_iald (q := 14) mp1 (by omega) (ixI (show (0 : Int32) = nI 0 from rfl) (by omega) (by decide)) dX11_layPairs_13 rfl ?_
    rw [ixC (show (0 : Int32) = nI 0 from rfl) (by omega)]
    rw [rtn hw]
    refine x_icmp_ge (t := 82) (q := 17) dX11_layPairs_14 (by decide) rfl (fun c14 => ?_) (fun c14 => absurd (by rw [show i = P by omega]; exact nI_le (Nat.le_refl _) (by omega)) c14)
    refine x_vret dX11_layPairs_82 rfl rfl (Nat.le_refl _) ?_
    exact hQ M hM0 hf
  | succ k ih =>
    intro i M s hik hlen hM hf hQ
    have hM0 := hM
    obtain ⟨mp0, mp1, mp2, mp3, mp4, mp5, mp6, mp7, mp8, mp9, mp10, mp11, mp12, mp13, mp14⟩ := hM
    have hP5 := rtP hw
    have mp1 : M (99 + 1) = .inl (0, 122, .inl (t 0)) := mp1
    refine x_iload_n (q := 8) dX11_layPairs_7 rfl rfl ?_
    refine x_aload_n (q := 9) dX11_layPairs_8 rfl rfl ?_
    refine x_getf (C := RX11) (T := TX11) (N := 29) (k := 0) (q := 12) mp0 (by omega) rfl hiX11 (by decide) (by decide +kernel) rfl dX11_layPairs_9 rfl ?_
    refine x_iconst (v := 0) (q := 13) dX11_layPairs_12 rfl (by decide) ?_
    refine x_iald (q := 14) mp1 (by omega) (ixI (show (0 : Int32) = nI 0 from rfl) (by omega) (by decide)) dX11_layPairs_13 rfl ?_
    rw [ixC (show (0 : Int32) = nI 0 from rfl) (by omega)]
    rw [rtn hw]
    refine x_icmp_ge (t := 82) (q := 17) dX11_layPairs_14 (by decide) rfl (fun c14 => absurd c14 (nI_ge (a := i) (b := P) (by omega) (by omega))) (fun c14 => ?_)
    refine x_iload_n (q := 18) dX11_layPairs_17 rfl rfl ?_
    refine x_iconst (v := 1) (q := 19) dX11_layPairs_18 rfl (by decide) ?_
    refine x_iadd (q := 20) dX11_layPairs_19 rfl ?_
    refine x_istore_n (L' := fun x3_20 => [(3, .int x3_20), (2, .int (nI i)), (0, .ref 99), (1, .int f)]) (q := 21) dX11_layPairs_20 rfl (by decide) (fun _ => rfl) (fun x3_20 ex3_20 => ?_)
    obtain rfl : x3_20 = nI (i + 1) := ex3_20.trans (nI_1 i)
    refine l_m_lay1 (g := i) (R := 0) (t := t) (u := u) (δ := δ) (M0 := M) hn hw hd (show i < P by omega) (P - (i + 1)) (i + 1) M s (by omega) (by omega) (by rw [tri] at hlen; omega) hM0 (fun j _ => rfl) (fun M76 k1 k2 => ?_)
    refine x_iinc (L' := fun x2_76 => [(2, .int x2_76), (3, .int (nI P)), (0, .ref 99), (1, .int f)]) (q := 79) dX11_layPairs_76 rfl rfl (by decide) (fun _ => rfl) (fun x2_76 ex2_76 => ?_)
    obtain rfl : x2_76 = nI (i + 1) := ex2_76.trans (nI_1 i)
    refine x_goto (q := 7) dX11_layPairs_79 (by decide) ?_
    refine x_pick (L' := [(2, .int (nI (i + 1))), (0, .ref 99), (1, .int f)]) [0, 2, 3] rfl ?_
    exact ih (i + 1) M76 (lyI (eM τ δ) i (P - (i + 1)) (i + 1) s) (by omega) (by have := lyI_le (eM τ δ) i (P - (i + 1)) (i + 1) s; rw [tri] at hlen; omega) k1 (fun j hj => (k2 j hj).trans (hf j hj)) (by rw [lyO] at hQ; exact hQ)
    

set_option maxHeartbeats 4000000 in
set_option maxRecDepth 100000 in
theorem c_m_layPairs {n : Nat} {M : Nat → xE} {t : Nat → Nat → Int32} {u : Nat → Nat → Int64} (hn : 113 < n) (hM : oX11 99 t u M) {τ : Nat → Nat → Int32} {P W G : Nat} (hw : RT τ P W G (t 0)) {δ : Nat → Nat → Int32} (hd : ∀ k, k < 22 → t 1 k = dv δ k) {f : Nat} (hf : f ≤ P) : xMet mX11_layPairs [.ref 99, .int (nI f)] n M (fun r M' => none = r ∧ oX11 99 (pQ t (lyO (eM τ δ) P (P - f) f (0, t 24, t 25))) u M' ∧ xfr 99 114 M M') := by
  have hM0 := hM
  obtain ⟨mp0, mp1, mp2, mp3, mp4, mp5, mp6, mp7, mp8, mp9, mp10, mp11, mp12, mp13, mp14⟩ := hM
  have hP5 := rtP hw
  have hiX11 : ∀ w ∈ wsX110, w ∈ wsX11_layPairs := by decide +kernel
  refine xMet.of _ (by decide) rfl (Nat.le_of_ble_eq_true rfl) ?_
  refine x_aload_n (q := 1) dX11_layPairs_0 rfl rfl ?_
  refine x_iconst (v := 0) (q := 2) dX11_layPairs_1 rfl (by decide) ?_
  refine x_put (C := RX11) (T := TX11) (N := 29) (k := 26) (q := 5) (ty := .int) tyX11_ok nmX11 mp0 (by omega) rfl hiX11 (by decide) (by decide +kernel) rfl (by decide +kernel) (fun _ => rfl) (fun _ => rfl) (Nat.le_of_ble_eq_true rfl) dX11_layPairs_2 rfl (fun M2 w2 o2 => ?_)
  refine x_iload_n (q := 6) dX11_layPairs_5 rfl rfl ?_
  refine x_istore_n (L' := fun x2_6 => [(2, .int x2_6), (0, .ref 99), (1, .int (nI f))]) (q := 7) dX11_layPairs_6 rfl (by decide) (fun _ => rfl) (fun x2_6 ex2_6 => ?_)
  obtain rfl : x2_6 = nI f := ex2_6
  have hv1_1_100 := ((o2 (100) (by omega)).trans mp1)
  have hv1_2_101 := ((o2 (101) (by omega)).trans mp2)
  have hv1_3_102 := ((o2 (102) (by omega)).trans mp3)
  have hv1_4_103 := ((o2 (103) (by omega)).trans mp4)
  have hv1_5_104 := ((o2 (104) (by omega)).trans mp5)
  have hv1_6_105 := ((o2 (105) (by omega)).trans mp6)
  have hv1_7_106 := ((o2 (106) (by omega)).trans mp7)
  have hv1_8_107 := ((o2 (107) (by omega)).trans mp8)
  have hv1_9_108 := ((o2 (108) (by omega)).trans mp9)
  have hv1_10_109 := ((o2 (109) (by omega)).trans mp10)
  have hv1_11_110 := ((o2 (110) (by omega)).trans mp11)
  have hv1_12_111 := ((o2 (111) (by omega)).trans mp12)
  have hv1_13_112 := ((o2 (112) (by omega)).trans mp13)
  have hv1_14_113 := ((o2 (113) (by omega)).trans mp14)
  exact l_m_lay (t := t) (u := u) (δ := δ) (M0 := M) hn hw hd (P - f) f M2 (0, t 24, t 25) (by omega) (by have := tri_le (m := P - f) (by omega); simp only; omega) ⟨w2, hv1_1_100, hv1_2_101, hv1_3_102, hv1_4_103, hv1_5_104, hv1_6_105, hv1_7_106, hv1_8_107, hv1_9_108, hv1_10_109, hv1_11_110, hv1_12_111, hv1_13_112, hv1_14_113⟩ (fun j hj => ((o2 j (by omega)).trans rfl)) (fun M h1 h2 => ⟨rfl, h1, h2⟩)

def boI (s : lyT) (k : Nat) : Int32 := (1 <<< (s.2.1 k &&& 31)) ||| (1 <<< (s.2.2 k &&& 31))
/-- whether pairs can be together: a set of them, k are left -/
def mwI (s : lyT) (S : Nat) : Nat → Nat → Int32 → Nat → Option Nat
  | 0, _, _, c => some c
  | k + 1, i, who, c => if S.testBit i = true then (if who &&& boI s i = 0 then mwI s S k (i + 1) (who ||| boI s i) (c + 1) else none) else mwI s S k (i + 1) who c
theorem mwI_le (s : lyT) (S : Nat) : ∀ (k i : Nat) (who : Int32) (c r : Nat), mwI s S k i who c = some r → r ≤ c + k := by
  intro k
  induction k with
  | zero => intro i who c r h; rw [mwI] at h; injection h with h; omega
  | succ k ih =>
    intro i who c r h
    rw [mwI] at h
    split at h
    · split at h
      · have := ih _ _ _ _ h; omega
      · exact absurd h (by simp)
    · have := ih _ _ _ _ h; omega
def mwV (s : lyT) (pv : Int32) (S : Nat) : Option Nat := if pv < 0 ∨ bo (nI S) pv = 1 then mwI s S s.1 0 0 0 else none
def mwM (v : Nat → Option Nat) : Nat → Nat
  | 0 => 0
  | k + 1 => (v k).elim (mwM v k) (fun c => if mwM v k < c then c else mwM v k)
theorem mwM_le (v : Nat → Option Nat) {C : Nat} (h : ∀ k c, v k = some c → c ≤ C) : ∀ k, mwM v k ≤ C := by
  intro k
  induction k with
  | zero => exact Nat.zero_le _
  | succ k ih =>
    rw [mwM]
    cases e : v k with
    | none => exact ih
    | some c =>
      show (if mwM v k < c then c else mwM v k) ≤ C
      have := h k c e
      split <;> omega
theorem mwV_le {s : lyT} {pv : Int32} {S c : Nat} (h : mwV s pv S = some c) : c ≤ s.1 := by
  unfold mwV at h
  split at h
  · have := mwI_le s S s.1 0 0 0 c h; omega
  · exact absurd h (by simp)
set_option maxHeartbeats 4000000 in
set_option maxRecDepth 100000 in
theorem l_m_mw1 {n : Nat} {s : lyT} {pv : Int32} {t : Nat → Nat → Int32} {u : Nat → Nat → Int64} {Q : Option Value → (Nat → xE) → Prop} (hn : 113 < n) (hs : s.1 ≤ 10) {S : Nat} {m : Int32} (hSb : S < 2 ^ 31) : ∀ (k i : Nat) (M : Nat → xE) (who : Int32) (c : Nat), i + k = s.1 → (oX11 99 (pQ t s) u M) → (∀ c', mwI s S k i who c = some c' → X mX11_mostWith 0 0 117 [(6, .int 1), (5, .int (nI c')), (3, .int (nI S)), (2, .int m), (0, .ref 99), (1, .int pv)] [] n M Q) → (mwI s S k i who c = none → ∀ x, X mX11_mostWith 0 0 117 [(6, .int 0), (5, .int x), (3, .int (nI S)), (2, .int m), (0, .ref 99), (1, .int pv)] [] n M Q) → X mX11_mostWith 0 0 42 [(7, .int (nI i)), (6, .int 1), (5, .int (nI c)), (4, .int who), (3, .int (nI S)), (2, .int m), (0, .ref 99), (1, .int pv)] [] n M (Q) := by
  have hiX11 : ∀ w ∈ wsX110, w ∈ wsX11_mostWith := by decide +kernel
  intro k
  induction k with
  | zero =>
    intro i M who c hik hM hS hN
    have hM0 := hM
    obtain ⟨mp0, mp1, mp2, mp3, mp4, mp5, mp6, mp7, mp8, mp9, mp10, mp11, mp12, mp13, mp14⟩ := hM
    have mp12 : M (99 + 12) = .inl (0, 10, .inl s.2.1) := mp12
    have mp13 : M (99 + 13) = .inl (0, 10, .inl s.2.2) := mp13
    refine x_iload (q := 44) dX11_mostWith_42 rfl rfl ?_
    refine x_aload_n (q := 45) dX11_mostWith_44 rfl rfl ?_
    refine x_getf (C := RX11) (T := TX11) (N := 29) (k := 26) (q := 48) mp0 (by omega) rfl hiX11 (by decide) (by decide +kernel) rfl dX11_mostWith_45 rfl ?_
    show X mX11_mostWith 0 0 _ _ (.int (nI s.1) :: _) _ _ _
    refine x_icmp_ge (t := 117) (q := 51) dX11_mostWith_48 (by decide) rfl (fun c48 => ?_) (fun c48 => absurd (nI_le (show s.1 ≤ i by omega) (by omega)) c48)
    refine x_pick (L' := [(6, .int 1), (5, .int (nI c)), (3, .int (nI S)), (2, .int m), (0, .ref 99), (1, .int pv)]) [1, 2, 4, 5, 6, 7] rfl ?_
    exact hS c rfl
  | succ k ih =>
    intro i M who c hik hM hS hN
    have hM0 := hM
    obtain ⟨mp0, mp1, mp2, mp3, mp4, mp5, mp6, mp7, mp8, mp9, mp10, mp11, mp12, mp13, mp14⟩ := hM
    have mp12 : M (99 + 12) = .inl (0, 10, .inl s.2.1) := mp12
    have mp13 : M (99 + 13) = .inl (0, 10, .inl s.2.2) := mp13
    refine x_iload (q := 44) dX11_mostWith_42 rfl rfl ?_
    refine x_aload_n (q := 45) dX11_mostWith_44 rfl rfl ?_
    refine x_getf (C := RX11) (T := TX11) (N := 29) (k := 26) (q := 48) mp0 (by omega) rfl hiX11 (by decide) (by decide +kernel) rfl dX11_mostWith_45 rfl ?_
    show X mX11_mostWith 0 0 _ _ (.int (nI s.1) :: _) _ _ _
    refine x_icmp_ge (t := 117) (q := 51) dX11_mostWith_48 (by decide) rfl (fun c48 => absurd c48 (nI_ge (a := i) (b := s.1) (by omega) (by omega))) (fun c48 => ?_)
    refine x_iload (q := 53) dX11_mostWith_51 rfl rfl ?_
    refine x_if_eq (t := 117) (q := 56) dX11_mostWith_53 (by decide) rfl (fun c53 => absurd c53 (by decide)) (fun c53 => ?_)
    refine x_iload_n (q := 57) dX11_mostWith_56 rfl rfl ?_
    refine x_iload (q := 59) dX11_mostWith_57 rfl rfl ?_
    refine x_callS (q := 62) c_m_has eX11_mostWith_164 gX11_mostWith_X11_has rfl (Nat.le_of_ble_eq_true rfl) ⟨Nat.le_refl _, Nat.le_refl _⟩ dX11_mostWith_59 rfl rfl (fun r59 M59 p59 => ?_)
    obtain ⟨rfl, p59⟩ := p59
    rcases p59 with ⟨b59, rfl⟩ | ⟨b59, rfl⟩
    · refine x_if_eq (t := 111) (q := 65) dX11_mostWith_62 (by decide) rfl (fun c62 => absurd c62 (by decide)) (fun c62 => ?_)
      refine x_iconst (v := 1) (q := 66) dX11_mostWith_65 rfl (by decide) ?_
      refine x_aload_n (q := 67) dX11_mostWith_66 rfl rfl ?_
      refine x_getf (C := RX11) (T := TX11) (N := 29) (k := 24) (q := 70) mp0 (by omega) rfl hiX11 (by decide) (by decide +kernel) rfl dX11_mostWith_67 rfl ?_
      refine x_iload (q := 72) dX11_mostWith_70 rfl rfl ?_
      refine x_iald (q := 73) mp12 (by omega) (ixI (show (nI i : Int32) = nI i from rfl) (by omega) (by decide)) dX11_mostWith_72 rfl ?_
      rw [ixC (show (nI i : Int32) = nI i from rfl) (by omega)]
      refine x_ishl (q := 74) dX11_mostWith_73 rfl ?_
      refine x_iconst (v := 1) (q := 75) dX11_mostWith_74 rfl (by decide) ?_
      refine x_aload_n (q := 76) dX11_mostWith_75 rfl rfl ?_
      refine x_getf (C := RX11) (T := TX11) (N := 29) (k := 25) (q := 79) mp0 (by omega) rfl hiX11 (by decide) (by decide +kernel) rfl dX11_mostWith_76 rfl ?_
      refine x_iload (q := 81) dX11_mostWith_79 rfl rfl ?_
      refine x_iald (q := 82) mp13 (by omega) (ixI (show (nI i : Int32) = nI i from rfl) (by omega) (by decide)) dX11_mostWith_81 rfl ?_
      rw [ixC (show (nI i : Int32) = nI i from rfl) (by omega)]
      refine x_ishl (q := 83) dX11_mostWith_82 rfl ?_
      refine x_ior (q := 84) dX11_mostWith_83 rfl ?_
      refine x_istore (L' := fun x8_84 => [(8, .int x8_84), (7, .int (nI i)), (6, .int 1), (5, .int (nI c)), (4, .int who), (3, .int (nI S)), (2, .int m), (0, .ref 99), (1, .int pv)]) (q := 86) dX11_mostWith_84 rfl (by decide) (fun _ => rfl) (fun x8_84 ex8_84 => ?_)
      obtain rfl : x8_84 = boI s i := ex8_84
      refine x_iload (q := 88) dX11_mostWith_86 rfl rfl ?_
      refine x_iload (q := 90) dX11_mostWith_88 rfl rfl ?_
      refine x_iand (q := 91) dX11_mostWith_90 rfl ?_
      refine x_if_ne (t := 98) (q := 94) dX11_mostWith_91 (by decide) rfl (fun c91 => ?_) (fun c91 => ?_)
      · have hnone : mwI s S (k + 1) i who c = none := by rw [mwI, if_pos ((bo_1 (by omega)).mp b59), if_neg c91]
        refine x_iconst (v := 0) (q := 99) dX11_mostWith_98 rfl (by decide) ?_
        refine x_istore (L' := fun x6_99 => [(6, .int x6_99), (8, .int (boI s i)), (7, .int (nI i)), (5, .int (nI c)), (4, .int who), (3, .int (nI S)), (2, .int m), (0, .ref 99), (1, .int pv)]) (q := 101) dX11_mostWith_99 rfl (by decide) (fun _ => rfl) (fun x6_99 ex6_99 => ?_)
        rw [show x6_99 = 0 from ex6_99]
        refine x_iload (q := 103) dX11_mostWith_101 rfl rfl ?_
        refine x_iload (q := 105) dX11_mostWith_103 rfl rfl ?_
        refine x_ior (q := 106) dX11_mostWith_105 rfl ?_
        refine x_istore (L' := fun x4_106 => [(4, .int x4_106), (6, .int (0)), (8, .int (boI s i)), (7, .int (nI i)), (5, .int (nI c)), (3, .int (nI S)), (2, .int m), (0, .ref 99), (1, .int pv)]) (q := 108) dX11_mostWith_106 rfl (by decide) (fun _ => rfl) (fun x4_106 ex4_106 => ?_)
        obtain rfl : x4_106 = (who ||| boI s i) := ex4_106
        refine x_iinc (L' := fun x5_108 => [(5, .int x5_108), (4, .int ((who ||| boI s i))), (6, .int (0)), (8, .int (boI s i)), (7, .int (nI i)), (3, .int (nI S)), (2, .int m), (0, .ref 99), (1, .int pv)]) (q := 111) dX11_mostWith_108 rfl rfl (by decide) (fun _ => rfl) (fun x5_108 ex5_108 => ?_)
        obtain rfl : x5_108 = nI (c + 1) := ex5_108.trans (nI_1 c)
        refine x_iinc (L' := fun x7_111 => [(7, .int x7_111), (5, .int (nI (c + 1))), (4, .int ((who ||| boI s i))), (6, .int (0)), (8, .int (boI s i)), (3, .int (nI S)), (2, .int m), (0, .ref 99), (1, .int pv)]) (q := 114) dX11_mostWith_111 rfl rfl (by decide) (fun _ => rfl) (fun x7_111 ex7_111 => ?_)
        obtain rfl : x7_111 = nI (i + 1) := ex7_111.trans (nI_1 i)
        refine x_goto (q := 42) dX11_mostWith_114 (by decide) ?_
        refine x_iload (q := 44) dX11_mostWith_42 rfl rfl ?_
        refine x_aload_n (q := 45) dX11_mostWith_44 rfl rfl ?_
        refine x_getf (C := RX11) (T := TX11) (N := 29) (k := 26) (q := 48) mp0 (by omega) rfl hiX11 (by decide) (by decide +kernel) rfl dX11_mostWith_45 rfl ?_
        show X mX11_mostWith 0 0 _ _ (.int (nI s.1) :: _) _ _ _
        refine x_icmp_ge (t := 117) (q := 51) dX11_mostWith_48 (by decide) rfl (fun c48 => ?_) (fun c48 => ?_)
        · refine x_pick (L' := [(6, .int 0), (5, .int (nI (c + 1))), (3, .int (nI S)), (2, .int m), (0, .ref 99), (1, .int pv)]) [3, 1, 5, 6, 7, 8] rfl ?_
          exact hN hnone _
        · refine x_iload (q := 53) dX11_mostWith_51 rfl rfl ?_
          refine x_if_eq (t := 117) (q := 56) dX11_mostWith_53 (by decide) rfl (fun c53 => ?_) (fun c53 => absurd rfl c53)
          refine x_pick (L' := [(6, .int 0), (5, .int (nI (c + 1))), (3, .int (nI S)), (2, .int m), (0, .ref 99), (1, .int pv)]) [3, 1, 5, 6, 7, 8] rfl ?_
          exact hN hnone _
      · refine x_iconst (v := 1) (q := 95) dX11_mostWith_94 rfl (by decide) ?_
        refine x_goto (q := 99) dX11_mostWith_95 (by decide) ?_
        refine x_istore (L' := fun x6_99 => [(6, .int x6_99), (8, .int (boI s i)), (7, .int (nI i)), (5, .int (nI c)), (4, .int who), (3, .int (nI S)), (2, .int m), (0, .ref 99), (1, .int pv)]) (q := 101) dX11_mostWith_99 rfl (by decide) (fun _ => rfl) (fun x6_99 ex6_99 => ?_)
        rw [show x6_99 = 1 from ex6_99]
        refine x_iload (q := 103) dX11_mostWith_101 rfl rfl ?_
        refine x_iload (q := 105) dX11_mostWith_103 rfl rfl ?_
        refine x_ior (q := 106) dX11_mostWith_105 rfl ?_
        refine x_istore (L' := fun x4_106 => [(4, .int x4_106), (6, .int (1)), (8, .int (boI s i)), (7, .int (nI i)), (5, .int (nI c)), (3, .int (nI S)), (2, .int m), (0, .ref 99), (1, .int pv)]) (q := 108) dX11_mostWith_106 rfl (by decide) (fun _ => rfl) (fun x4_106 ex4_106 => ?_)
        obtain rfl : x4_106 = (who ||| boI s i) := ex4_106
        refine x_iinc (L' := fun x5_108 => [(5, .int x5_108), (4, .int ((who ||| boI s i))), (6, .int (1)), (8, .int (boI s i)), (7, .int (nI i)), (3, .int (nI S)), (2, .int m), (0, .ref 99), (1, .int pv)]) (q := 111) dX11_mostWith_108 rfl rfl (by decide) (fun _ => rfl) (fun x5_108 ex5_108 => ?_)
        obtain rfl : x5_108 = nI (c + 1) := ex5_108.trans (nI_1 c)
        refine x_iinc (L' := fun x7_111 => [(7, .int x7_111), (5, .int (nI (c + 1))), (4, .int ((who ||| boI s i))), (6, .int (1)), (8, .int (boI s i)), (3, .int (nI S)), (2, .int m), (0, .ref 99), (1, .int pv)]) (q := 114) dX11_mostWith_111 rfl rfl (by decide) (fun _ => rfl) (fun x7_111 ex7_111 => ?_)
        obtain rfl : x7_111 = nI (i + 1) := ex7_111.trans (nI_1 i)
        refine x_goto (q := 42) dX11_mostWith_114 (by decide) ?_
        refine x_pick (L' := [(7, .int (nI (i + 1))), (6, .int 1), (5, .int (nI (c + 1))), (4, .int (who ||| boI s i)), (3, .int (nI S)), (2, .int m), (0, .ref 99), (1, .int pv)]) [0, 3, 1, 2, 5, 6, 7, 8] rfl ?_
        exact ih (i + 1) M (who ||| boI s i) (c + 1) (by omega) hM0 (by rw [mwI, if_pos ((bo_1 (by omega)).mp b59), if_pos c91] at hS; exact hS) (by rw [mwI, if_pos ((bo_1 (by omega)).mp b59), if_pos c91] at hN; exact hN)
    · refine x_if_eq (t := 111) (q := 65) dX11_mostWith_62 (by decide) rfl (fun c62 => ?_) (fun c62 => absurd c62 (by decide))
      refine x_iinc (L' := fun x7_111 => [(7, .int x7_111), (6, .int 1), (5, .int (nI c)), (4, .int who), (3, .int (nI S)), (2, .int m), (0, .ref 99), (1, .int pv)]) (q := 114) dX11_mostWith_111 rfl rfl (by decide) (fun _ => rfl) (fun x7_111 ex7_111 => ?_)
      obtain rfl : x7_111 = nI (i + 1) := ex7_111.trans (nI_1 i)
      refine x_goto (q := 42) dX11_mostWith_114 (by decide) ?_
      refine x_pick (L' := [(7, .int (nI (i + 1))), (6, .int 1), (5, .int (nI c)), (4, .int who), (3, .int (nI S)), (2, .int m), (0, .ref 99), (1, .int pv)]) [0, 1, 2, 3, 4, 5, 6, 7] rfl ?_
      exact ih (i + 1) M who c (by omega) hM0 (by rw [mwI, if_neg (fun h => b59 ((bo_1 (by omega)).mpr h))] at hS; exact hS) (by rw [mwI, if_neg (fun h => b59 ((bo_1 (by omega)).mpr h))] at hN; exact hN)

theorem pw10 {k : Nat} (h : k ≤ 10) : 2 ^ k ≤ 1024 := Nat.pow_le_pow_right (n := 2) (by decide) h
set_option maxHeartbeats 4000000 in
set_option maxRecDepth 100000 in
theorem l_m_mostWith {n : Nat} {s : lyT} {pv : Int32} {t : Nat → Nat → Int32} {u : Nat → Nat → Int64} {Q : Option Value → (Nat → xE) → Prop} (hn : 113 < n) (hs : s.1 ≤ 10) : ∀ (k i : Nat) (M : Nat → xE), i + k = 2 ^ s.1 → (oX11 99 (pQ t s) u M) → (Q (some (.int (nI (mwM (mwV s pv) (2 ^ s.1))))) M) → X mX11_mostWith 0 0 4 [(3, .int (nI i)), (2, .int (nI (mwM (mwV s pv) i))), (0, .ref 99), (1, .int pv)] [] n M (Q) := by
  have hiX11 : ∀ w ∈ wsX110, w ∈ wsX11_mostWith := by decide +kernel
  intro k
  induction k with
  | zero =>
    intro i M hik hM hQ
    have hM0 := hM
    obtain ⟨mp0, mp1, mp2, mp3, mp4, mp5, mp6, mp7, mp8, mp9, mp10, mp11, mp12, mp13, mp14⟩ := hM
    have mp12 : M (99 + 12) = .inl (0, 10, .inl s.2.1) := mp12
    have mp13 : M (99 + 13) = .inl (0, 10, .inl s.2.2) := mp13
    have hpw := pw10 hs
    refine x_iload_n (q := 5) dX11_mostWith_4 rfl rfl ?_
    refine x_iconst (v := 1) (q := 6) dX11_mostWith_5 rfl (by decide) ?_
    refine x_aload_n (q := 7) dX11_mostWith_6 rfl rfl ?_
    refine x_getf (C := RX11) (T := TX11) (N := 29) (k := 26) (q := 10) mp0 (by omega) rfl hiX11 (by decide) (by decide +kernel) rfl dX11_mostWith_7 rfl ?_
    show X mX11_mostWith 0 0 _ _ (.int (nI s.1) :: _) _ _ _
    refine x_ishl (q := 11) dX11_mostWith_10 rfl ?_
    rw [xshl1 _ (by omega)]
    refine x_icmp_ge (t := 141) (q := 14) dX11_mostWith_11 (by decide) rfl (fun c11 => ?_) (fun c11 => absurd (by rw [show i = 2 ^ s.1 by omega]; exact nI_le (Nat.le_refl _) (by omega)) c11)
    refine x_iload_n (q := 142) dX11_mostWith_141 rfl rfl ?_
    refine x_iret dX11_mostWith_142 rfl rfl (Nat.le_refl _) ?_
    rw [show i = 2 ^ s.1 by omega]
    exact hQ
  | succ k ih =>
    intro i M hik hM hQ
    have hM0 := hM
    obtain ⟨mp0, mp1, mp2, mp3, mp4, mp5, mp6, mp7, mp8, mp9, mp10, mp11, mp12, mp13, mp14⟩ := hM
    have mp12 : M (99 + 12) = .inl (0, 10, .inl s.2.1) := mp12
    have mp13 : M (99 + 13) = .inl (0, 10, .inl s.2.2) := mp13
    have hpw := pw10 hs
    refine x_iload_n (q := 5) dX11_mostWith_4 rfl rfl ?_
    refine x_iconst (v := 1) (q := 6) dX11_mostWith_5 rfl (by decide) ?_
    refine x_aload_n (q := 7) dX11_mostWith_6 rfl rfl ?_
    refine x_getf (C := RX11) (T := TX11) (N := 29) (k := 26) (q := 10) mp0 (by omega) rfl hiX11 (by decide) (by decide +kernel) rfl dX11_mostWith_7 rfl ?_
    show X mX11_mostWith 0 0 _ _ (.int (nI s.1) :: _) _ _ _
    refine x_ishl (q := 11) dX11_mostWith_10 rfl ?_
    rw [xshl1 _ (by omega)]
    refine x_icmp_ge (t := 141) (q := 14) dX11_mostWith_11 (by decide) rfl (fun c11 => absurd c11 (nI_ge (a := i) (b := 2 ^ s.1) (by omega) (by omega))) (fun c11 => ?_)
    refine x_iconst (v := 0) (q := 15) dX11_mostWith_14 rfl (by decide) ?_
    refine x_istore (L' := fun x4_15 => [(4, .int x4_15), (3, .int (nI i)), (2, .int (nI (mwM (mwV s pv) i))), (0, .ref 99), (1, .int pv)]) (q := 17) dX11_mostWith_15 rfl (by decide) (fun _ => rfl) (fun x4_15 ex4_15 => ?_)
    refine x_iconst (v := 0) (q := 18) dX11_mostWith_17 rfl (by decide) ?_
    refine x_istore (L' := fun x5_18 => [(5, .int x5_18), (4, .int x4_15), (3, .int (nI i)), (2, .int (nI (mwM (mwV s pv) i))), (0, .ref 99), (1, .int pv)]) (q := 20) dX11_mostWith_18 rfl (by decide) (fun _ => rfl) (fun x5_18 ex5_18 => ?_)
    refine x_iload_n (q := 21) dX11_mostWith_20 rfl rfl ?_
    refine x_if_lt (t := 32) (q := 24) dX11_mostWith_21 (by decide) rfl (fun c21 => ?_) (fun c21 => ?_)
    · refine x_iconst (v := 1) (q := 33) dX11_mostWith_32 rfl (by decide) ?_
      refine x_goto (q := 37) dX11_mostWith_33 (by decide) ?_
      refine x_istore (L' := fun x6_37 => [(6, .int x6_37), (5, .int x5_18), (4, .int x4_15), (3, .int (nI i)), (2, .int (nI (mwM (mwV s pv) i))), (0, .ref 99), (1, .int pv)]) (q := 39) dX11_mostWith_37 rfl (by decide) (fun _ => rfl) (fun x6_37 ex6_37 => ?_)
      rw [show x6_37 = 1 from ex6_37]
      refine x_iconst (v := 0) (q := 40) dX11_mostWith_39 rfl (by decide) ?_
      refine x_istore (L' := fun x7_40 => [(7, .int x7_40), (6, .int (1)), (5, .int x5_18), (4, .int x4_15), (3, .int (nI i)), (2, .int (nI (mwM (mwV s pv) i))), (0, .ref 99), (1, .int pv)]) (q := 42) dX11_mostWith_40 rfl (by decide) (fun _ => rfl) (fun x7_40 ex7_40 => ?_)
      subst ex4_15
      subst ex5_18
      subst ex7_40
      have hmle : mwM (mwV s pv) i ≤ s.1 := mwM_le _ (fun _ _ h => mwV_le h) i
      have hv : mwV s pv i = mwI s i s.1 0 0 0 := if_pos (by first | exact Or.inl c21 | exact Or.inr b26)
      refine l_m_mw1 (S := i) (m := nI (mwM (mwV s pv) i)) (t := t) (u := u) hn hs (by omega) s.1 0 M 0 0 (by omega) hM0 (fun c hc => ?_) (fun hc x => ?_)
      · rw [← hv] at hc
        have hcl := mwV_le hc
        refine x_iload (q := 119) dX11_mostWith_117 rfl rfl ?_
        refine x_if_eq (t := 133) (q := 122) dX11_mostWith_119 (by decide) rfl (fun c119 => absurd c119 (by decide)) (fun c119 => ?_)
        refine x_iload (q := 124) dX11_mostWith_122 rfl rfl ?_
        refine x_iload_n (q := 125) dX11_mostWith_124 rfl rfl ?_
        refine x_icmp_le (t := 133) (q := 128) dX11_mostWith_125 (by decide) rfl (fun c125 => ?_) (fun c125 => ?_)
        · refine x_iload_n (q := 134) dX11_mostWith_133 rfl rfl ?_
          refine x_istore_n (L' := fun x2_134 => [(2, .int x2_134), (6, .int 1), (5, .int (nI c)), (3, .int (nI i)), (0, .ref 99), (1, .int pv)]) (q := 135) dX11_mostWith_134 rfl (by decide) (fun _ => rfl) (fun x2_134 ex2_134 => ?_)
          obtain rfl : x2_134 = nI (mwM (mwV s pv) (i + 1)) := ex2_134.trans (by rw [mwM, hc]; first | rfl | (show nI c = nI (if mwM (mwV s pv) i < c then c else mwM (mwV s pv) i); rw [if_pos (Nat.lt_of_not_le (fun h => c125 (nI_le h (by omega))))]; done) | (show nI (mwM (mwV s pv) i) = nI (if mwM (mwV s pv) i < c then c else mwM (mwV s pv) i); rw [if_neg (fun h => nI_ge h (by omega) c125)]; done))
          refine x_iinc (L' := fun x3_135 => [(3, .int x3_135), (2, .int (nI (mwM (mwV s pv) (i + 1)))), (6, .int 1), (5, .int (nI c)), (0, .ref 99), (1, .int pv)]) (q := 138) dX11_mostWith_135 rfl rfl (by decide) (fun _ => rfl) (fun x3_135 ex3_135 => ?_)
          obtain rfl : x3_135 = nI (i + 1) := ex3_135.trans (nI_1 i)
          refine x_goto (q := 4) dX11_mostWith_138 (by decide) ?_
          refine x_pick (L' := [(3, .int (nI (i + 1))), (2, .int (nI (mwM (mwV s pv) (i + 1)))), (0, .ref 99), (1, .int pv)]) [0, 1, 4, 5] rfl ?_
          exact ih (i + 1) M (by omega) hM0 hQ
        · refine x_iload (q := 130) dX11_mostWith_128 rfl rfl ?_
          refine x_goto (q := 134) dX11_mostWith_130 (by decide) ?_
          refine x_istore_n (L' := fun x2_134 => [(2, .int x2_134), (6, .int 1), (5, .int (nI c)), (3, .int (nI i)), (0, .ref 99), (1, .int pv)]) (q := 135) dX11_mostWith_134 rfl (by decide) (fun _ => rfl) (fun x2_134 ex2_134 => ?_)
          obtain rfl : x2_134 = nI (mwM (mwV s pv) (i + 1)) := ex2_134.trans (by rw [mwM, hc]; first | rfl | (show nI c = nI (if mwM (mwV s pv) i < c then c else mwM (mwV s pv) i); rw [if_pos (Nat.lt_of_not_le (fun h => c125 (nI_le h (by omega))))]; done) | (show nI (mwM (mwV s pv) i) = nI (if mwM (mwV s pv) i < c then c else mwM (mwV s pv) i); rw [if_neg (fun h => nI_ge h (by omega) c125)]; done))
          refine x_iinc (L' := fun x3_135 => [(3, .int x3_135), (2, .int (nI (mwM (mwV s pv) (i + 1)))), (6, .int 1), (5, .int (nI c)), (0, .ref 99), (1, .int pv)]) (q := 138) dX11_mostWith_135 rfl rfl (by decide) (fun _ => rfl) (fun x3_135 ex3_135 => ?_)
          obtain rfl : x3_135 = nI (i + 1) := ex3_135.trans (nI_1 i)
          refine x_goto (q := 4) dX11_mostWith_138 (by decide) ?_
          refine x_pick (L' := [(3, .int (nI (i + 1))), (2, .int (nI (mwM (mwV s pv) (i + 1)))), (0, .ref 99), (1, .int pv)]) [0, 1, 4, 5] rfl ?_
          exact ih (i + 1) M (by omega) hM0 hQ
      · rw [← hv] at hc
        refine x_iload (q := 119) dX11_mostWith_117 rfl rfl ?_
        refine x_if_eq (t := 133) (q := 122) dX11_mostWith_119 (by decide) rfl (fun c119 => ?_) (fun c119 => absurd rfl c119)
        refine x_iload_n (q := 134) dX11_mostWith_133 rfl rfl ?_
        refine x_istore_n (L' := fun x2_134 => [(2, .int x2_134), (6, .int 0), (5, .int x), (3, .int (nI i)), (0, .ref 99), (1, .int pv)]) (q := 135) dX11_mostWith_134 rfl (by decide) (fun _ => rfl) (fun x2_134 ex2_134 => ?_)
        obtain rfl : x2_134 = nI (mwM (mwV s pv) (i + 1)) := ex2_134.trans (by rw [mwM, hc]; first | rfl | (show nI c = nI (if mwM (mwV s pv) i < c then c else mwM (mwV s pv) i); rw [if_pos (Nat.lt_of_not_le (fun h => c125 (nI_le h (by omega))))]; done) | (show nI (mwM (mwV s pv) i) = nI (if mwM (mwV s pv) i < c then c else mwM (mwV s pv) i); rw [if_neg (fun h => nI_ge h (by omega) c125)]; done))
        refine x_iinc (L' := fun x3_135 => [(3, .int x3_135), (2, .int (nI (mwM (mwV s pv) (i + 1)))), (6, .int 0), (5, .int x), (0, .ref 99), (1, .int pv)]) (q := 138) dX11_mostWith_135 rfl rfl (by decide) (fun _ => rfl) (fun x3_135 ex3_135 => ?_)
        obtain rfl : x3_135 = nI (i + 1) := ex3_135.trans (nI_1 i)
        refine x_goto (q := 4) dX11_mostWith_138 (by decide) ?_
        refine x_pick (L' := [(3, .int (nI (i + 1))), (2, .int (nI (mwM (mwV s pv) (i + 1)))), (0, .ref 99), (1, .int pv)]) [0, 1, 4, 5] rfl ?_
        exact ih (i + 1) M (by omega) hM0 hQ
      
    · refine x_iload_n (q := 25) dX11_mostWith_24 rfl rfl ?_
      refine x_iload_n (q := 26) dX11_mostWith_25 rfl rfl ?_
      refine x_callS (q := 29) c_m_has eX11_mostWith_164 gX11_mostWith_X11_has rfl (Nat.le_of_ble_eq_true rfl) ⟨Nat.le_refl _, Nat.le_refl _⟩ dX11_mostWith_26 rfl rfl (fun r26 M26 p26 => ?_)
      obtain ⟨rfl, p26⟩ := p26
      rcases p26 with ⟨b26, rfl⟩ | ⟨b26, rfl⟩
      · refine x_if_eq (t := 36) (q := 32) dX11_mostWith_29 (by decide) rfl (fun c29 => absurd c29 (by decide)) (fun c29 => ?_)
        refine x_iconst (v := 1) (q := 33) dX11_mostWith_32 rfl (by decide) ?_
        refine x_goto (q := 37) dX11_mostWith_33 (by decide) ?_
        refine x_istore (L' := fun x6_37 => [(6, .int x6_37), (5, .int x5_18), (4, .int x4_15), (3, .int (nI i)), (2, .int (nI (mwM (mwV s pv) i))), (0, .ref 99), (1, .int pv)]) (q := 39) dX11_mostWith_37 rfl (by decide) (fun _ => rfl) (fun x6_37 ex6_37 => ?_)
        rw [show x6_37 = 1 from ex6_37]
        refine x_iconst (v := 0) (q := 40) dX11_mostWith_39 rfl (by decide) ?_
        refine x_istore (L' := fun x7_40 => [(7, .int x7_40), (6, .int (1)), (5, .int x5_18), (4, .int x4_15), (3, .int (nI i)), (2, .int (nI (mwM (mwV s pv) i))), (0, .ref 99), (1, .int pv)]) (q := 42) dX11_mostWith_40 rfl (by decide) (fun _ => rfl) (fun x7_40 ex7_40 => ?_)
        subst ex4_15
        subst ex5_18
        subst ex7_40
        have hmle : mwM (mwV s pv) i ≤ s.1 := mwM_le _ (fun _ _ h => mwV_le h) i
        have hv : mwV s pv i = mwI s i s.1 0 0 0 := if_pos (by first | exact Or.inl c21 | exact Or.inr b26)
        refine l_m_mw1 (S := i) (m := nI (mwM (mwV s pv) i)) (t := t) (u := u) hn hs (by omega) s.1 0 M 0 0 (by omega) hM0 (fun c hc => ?_) (fun hc x => ?_)
        · rw [← hv] at hc
          have hcl := mwV_le hc
          refine x_iload (q := 119) dX11_mostWith_117 rfl rfl ?_
          refine x_if_eq (t := 133) (q := 122) dX11_mostWith_119 (by decide) rfl (fun c119 => absurd c119 (by decide)) (fun c119 => ?_)
          refine x_iload (q := 124) dX11_mostWith_122 rfl rfl ?_
          refine x_iload_n (q := 125) dX11_mostWith_124 rfl rfl ?_
          refine x_icmp_le (t := 133) (q := 128) dX11_mostWith_125 (by decide) rfl (fun c125 => ?_) (fun c125 => ?_)
          · refine x_iload_n (q := 134) dX11_mostWith_133 rfl rfl ?_
            refine x_istore_n (L' := fun x2_134 => [(2, .int x2_134), (6, .int 1), (5, .int (nI c)), (3, .int (nI i)), (0, .ref 99), (1, .int pv)]) (q := 135) dX11_mostWith_134 rfl (by decide) (fun _ => rfl) (fun x2_134 ex2_134 => ?_)
            obtain rfl : x2_134 = nI (mwM (mwV s pv) (i + 1)) := ex2_134.trans (by rw [mwM, hc]; first | rfl | (show nI c = nI (if mwM (mwV s pv) i < c then c else mwM (mwV s pv) i); rw [if_pos (Nat.lt_of_not_le (fun h => c125 (nI_le h (by omega))))]; done) | (show nI (mwM (mwV s pv) i) = nI (if mwM (mwV s pv) i < c then c else mwM (mwV s pv) i); rw [if_neg (fun h => nI_ge h (by omega) c125)]; done))
            refine x_iinc (L' := fun x3_135 => [(3, .int x3_135), (2, .int (nI (mwM (mwV s pv) (i + 1)))), (6, .int 1), (5, .int (nI c)), (0, .ref 99), (1, .int pv)]) (q := 138) dX11_mostWith_135 rfl rfl (by decide) (fun _ => rfl) (fun x3_135 ex3_135 => ?_)
            obtain rfl : x3_135 = nI (i + 1) := ex3_135.trans (nI_1 i)
            refine x_goto (q := 4) dX11_mostWith_138 (by decide) ?_
            refine x_pick (L' := [(3, .int (nI (i + 1))), (2, .int (nI (mwM (mwV s pv) (i + 1)))), (0, .ref 99), (1, .int pv)]) [0, 1, 4, 5] rfl ?_
            exact ih (i + 1) M (by omega) hM0 hQ
          · refine x_iload (q := 130) dX11_mostWith_128 rfl rfl ?_
            refine x_goto (q := 134) dX11_mostWith_130 (by decide) ?_
            refine x_istore_n (L' := fun x2_134 => [(2, .int x2_134), (6, .int 1), (5, .int (nI c)), (3, .int (nI i)), (0, .ref 99), (1, .int pv)]) (q := 135) dX11_mostWith_134 rfl (by decide) (fun _ => rfl) (fun x2_134 ex2_134 => ?_)
            obtain rfl : x2_134 = nI (mwM (mwV s pv) (i + 1)) := ex2_134.trans (by rw [mwM, hc]; first | rfl | (show nI c = nI (if mwM (mwV s pv) i < c then c else mwM (mwV s pv) i); rw [if_pos (Nat.lt_of_not_le (fun h => c125 (nI_le h (by omega))))]; done) | (show nI (mwM (mwV s pv) i) = nI (if mwM (mwV s pv) i < c then c else mwM (mwV s pv) i); rw [if_neg (fun h => nI_ge h (by omega) c125)]; done))
            refine x_iinc (L' := fun x3_135 => [(3, .int x3_135), (2, .int (nI (mwM (mwV s pv) (i + 1)))), (6, .int 1), (5, .int (nI c)), (0, .ref 99), (1, .int pv)]) (q := 138) dX11_mostWith_135 rfl rfl (by decide) (fun _ => rfl) (fun x3_135 ex3_135 => ?_)
            obtain rfl : x3_135 = nI (i + 1) := ex3_135.trans (nI_1 i)
            refine x_goto (q := 4) dX11_mostWith_138 (by decide) ?_
            refine x_pick (L' := [(3, .int (nI (i + 1))), (2, .int (nI (mwM (mwV s pv) (i + 1)))), (0, .ref 99), (1, .int pv)]) [0, 1, 4, 5] rfl ?_
            exact ih (i + 1) M (by omega) hM0 hQ
        · rw [← hv] at hc
          refine x_iload (q := 119) dX11_mostWith_117 rfl rfl ?_
          refine x_if_eq (t := 133) (q := 122) dX11_mostWith_119 (by decide) rfl (fun c119 => ?_) (fun c119 => absurd rfl c119)
          refine x_iload_n (q := 134) dX11_mostWith_133 rfl rfl ?_
          refine x_istore_n (L' := fun x2_134 => [(2, .int x2_134), (6, .int 0), (5, .int x), (3, .int (nI i)), (0, .ref 99), (1, .int pv)]) (q := 135) dX11_mostWith_134 rfl (by decide) (fun _ => rfl) (fun x2_134 ex2_134 => ?_)
          obtain rfl : x2_134 = nI (mwM (mwV s pv) (i + 1)) := ex2_134.trans (by rw [mwM, hc]; first | rfl | (show nI c = nI (if mwM (mwV s pv) i < c then c else mwM (mwV s pv) i); rw [if_pos (Nat.lt_of_not_le (fun h => c125 (nI_le h (by omega))))]; done) | (show nI (mwM (mwV s pv) i) = nI (if mwM (mwV s pv) i < c then c else mwM (mwV s pv) i); rw [if_neg (fun h => nI_ge h (by omega) c125)]; done))
          refine x_iinc (L' := fun x3_135 => [(3, .int x3_135), (2, .int (nI (mwM (mwV s pv) (i + 1)))), (6, .int 0), (5, .int x), (0, .ref 99), (1, .int pv)]) (q := 138) dX11_mostWith_135 rfl rfl (by decide) (fun _ => rfl) (fun x3_135 ex3_135 => ?_)
          obtain rfl : x3_135 = nI (i + 1) := ex3_135.trans (nI_1 i)
          refine x_goto (q := 4) dX11_mostWith_138 (by decide) ?_
          refine x_pick (L' := [(3, .int (nI (i + 1))), (2, .int (nI (mwM (mwV s pv) (i + 1)))), (0, .ref 99), (1, .int pv)]) [0, 1, 4, 5] rfl ?_
          exact ih (i + 1) M (by omega) hM0 hQ
        
      · refine x_if_eq (t := 36) (q := 32) dX11_mostWith_29 (by decide) rfl (fun c29 => ?_) (fun c29 => absurd c29 (by decide))
        refine x_iconst (v := 0) (q := 37) dX11_mostWith_36 rfl (by decide) ?_
        refine x_istore (L' := fun x6_37 => [(6, .int x6_37), (5, .int x5_18), (4, .int x4_15), (3, .int (nI i)), (2, .int (nI (mwM (mwV s pv) i))), (0, .ref 99), (1, .int pv)]) (q := 39) dX11_mostWith_37 rfl (by decide) (fun _ => rfl) (fun x6_37 ex6_37 => ?_)
        rw [show x6_37 = 0 from ex6_37]
        refine x_iconst (v := 0) (q := 40) dX11_mostWith_39 rfl (by decide) ?_
        refine x_istore (L' := fun x7_40 => [(7, .int x7_40), (6, .int (0)), (5, .int x5_18), (4, .int x4_15), (3, .int (nI i)), (2, .int (nI (mwM (mwV s pv) i))), (0, .ref 99), (1, .int pv)]) (q := 42) dX11_mostWith_40 rfl (by decide) (fun _ => rfl) (fun x7_40 ex7_40 => ?_)
        subst ex4_15
        subst ex5_18
        subst ex7_40
        have hmle : mwM (mwV s pv) i ≤ s.1 := mwM_le _ (fun _ _ h => mwV_le h) i
        have hc : mwV s pv i = none := if_neg (fun h => h.elim c21 b26)
        refine x_iload (q := 44) dX11_mostWith_42 rfl rfl ?_
        refine x_aload_n (q := 45) dX11_mostWith_44 rfl rfl ?_
        refine x_getf (C := RX11) (T := TX11) (N := 29) (k := 26) (q := 48) mp0 (by omega) rfl hiX11 (by decide) (by decide +kernel) rfl dX11_mostWith_45 rfl ?_
        show X mX11_mostWith 0 0 _ _ (.int (nI s.1) :: _) _ _ _
        refine x_icmp_ge (t := 117) (q := 51) dX11_mostWith_48 (by decide) rfl (fun c48 => ?_) (fun c48 => ?_)
        · refine x_iload (q := 119) dX11_mostWith_117 rfl rfl ?_
          refine x_if_eq (t := 133) (q := 122) dX11_mostWith_119 (by decide) rfl (fun c119 => ?_) (fun c119 => absurd rfl c119)
          refine x_iload_n (q := 134) dX11_mostWith_133 rfl rfl ?_
          refine x_istore_n (L' := fun x2_134 => [(2, .int x2_134), (7, .int 0), (6, .int (0)), (5, .int 0), (4, .int 0), (3, .int (nI i)), (0, .ref 99), (1, .int pv)]) (q := 135) dX11_mostWith_134 rfl (by decide) (fun _ => rfl) (fun x2_134 ex2_134 => ?_)
          obtain rfl : x2_134 = nI (mwM (mwV s pv) (i + 1)) := ex2_134.trans (by rw [mwM, hc]; first | rfl | (show nI c = nI (if mwM (mwV s pv) i < c then c else mwM (mwV s pv) i); rw [if_pos (Nat.lt_of_not_le (fun h => c125 (nI_le h (by omega))))]; done) | (show nI (mwM (mwV s pv) i) = nI (if mwM (mwV s pv) i < c then c else mwM (mwV s pv) i); rw [if_neg (fun h => nI_ge h (by omega) c125)]; done))
          refine x_iinc (L' := fun x3_135 => [(3, .int x3_135), (2, .int (nI (mwM (mwV s pv) (i + 1)))), (7, .int 0), (6, .int (0)), (5, .int 0), (4, .int 0), (0, .ref 99), (1, .int pv)]) (q := 138) dX11_mostWith_135 rfl rfl (by decide) (fun _ => rfl) (fun x3_135 ex3_135 => ?_)
          obtain rfl : x3_135 = nI (i + 1) := ex3_135.trans (nI_1 i)
          refine x_goto (q := 4) dX11_mostWith_138 (by decide) ?_
          refine x_pick (L' := [(3, .int (nI (i + 1))), (2, .int (nI (mwM (mwV s pv) (i + 1)))), (0, .ref 99), (1, .int pv)]) [0, 1, 6, 7] rfl ?_
          exact ih (i + 1) M (by omega) hM0 hQ
        · refine x_iload (q := 53) dX11_mostWith_51 rfl rfl ?_
          refine x_if_eq (t := 117) (q := 56) dX11_mostWith_53 (by decide) rfl (fun c53 => ?_) (fun c53 => absurd rfl c53)
          refine x_iload (q := 119) dX11_mostWith_117 rfl rfl ?_
          refine x_if_eq (t := 133) (q := 122) dX11_mostWith_119 (by decide) rfl (fun c119 => ?_) (fun c119 => absurd rfl c119)
          refine x_iload_n (q := 134) dX11_mostWith_133 rfl rfl ?_
          refine x_istore_n (L' := fun x2_134 => [(2, .int x2_134), (7, .int 0), (6, .int (0)), (5, .int 0), (4, .int 0), (3, .int (nI i)), (0, .ref 99), (1, .int pv)]) (q := 135) dX11_mostWith_134 rfl (by decide) (fun _ => rfl) (fun x2_134 ex2_134 => ?_)
          obtain rfl : x2_134 = nI (mwM (mwV s pv) (i + 1)) := ex2_134.trans (by rw [mwM, hc]; first | rfl | (show nI c = nI (if mwM (mwV s pv) i < c then c else mwM (mwV s pv) i); rw [if_pos (Nat.lt_of_not_le (fun h => c125 (nI_le h (by omega))))]; done) | (show nI (mwM (mwV s pv) i) = nI (if mwM (mwV s pv) i < c then c else mwM (mwV s pv) i); rw [if_neg (fun h => nI_ge h (by omega) c125)]; done))
          refine x_iinc (L' := fun x3_135 => [(3, .int x3_135), (2, .int (nI (mwM (mwV s pv) (i + 1)))), (7, .int 0), (6, .int (0)), (5, .int 0), (4, .int 0), (0, .ref 99), (1, .int pv)]) (q := 138) dX11_mostWith_135 rfl rfl (by decide) (fun _ => rfl) (fun x3_135 ex3_135 => ?_)
          obtain rfl : x3_135 = nI (i + 1) := ex3_135.trans (nI_1 i)
          refine x_goto (q := 4) dX11_mostWith_138 (by decide) ?_
          refine x_pick (L' := [(3, .int (nI (i + 1))), (2, .int (nI (mwM (mwV s pv) (i + 1)))), (0, .ref 99), (1, .int pv)]) [0, 1, 6, 7] rfl ?_
          exact ih (i + 1) M (by omega) hM0 hQ

set_option maxHeartbeats 4000000 in
set_option maxRecDepth 100000 in
theorem c_m_mostWith {n : Nat} {M : Nat → xE} {t : Nat → Nat → Int32} {u : Nat → Nat → Int64} {s : lyT} (hn : 113 < n) (hs : s.1 ≤ 10) (hM : oX11 99 (pQ t s) u M) {pv : Int32} : xMet mX11_mostWith [.ref 99, .int pv] n M (fun r M' => M = M' ∧ some (.int (nI (mwM (mwV s pv) (2 ^ s.1)))) = r) := by
  have hM0 := hM
  obtain ⟨mp0, mp1, mp2, mp3, mp4, mp5, mp6, mp7, mp8, mp9, mp10, mp11, mp12, mp13, mp14⟩ := hM
  refine xMet.of _ (by decide) rfl (Nat.le_of_ble_eq_true rfl) ?_
  refine x_iconst (v := 0) (q := 1) dX11_mostWith_0 rfl (by decide) ?_
  refine x_istore_n (L' := fun x2_1 => [(2, .int x2_1), (0, .ref 99), (1, .int pv)]) (q := 2) dX11_mostWith_1 rfl (by decide) (fun _ => rfl) (fun x2_1 ex2_1 => ?_)
  refine x_iconst (v := 0) (q := 3) dX11_mostWith_2 rfl (by decide) ?_
  refine x_istore_n (L' := fun x3_3 => [(3, .int x3_3), (2, .int x2_1), (0, .ref 99), (1, .int pv)]) (q := 4) dX11_mostWith_3 rfl (by decide) (fun _ => rfl) (fun x3_3 ex3_3 => ?_)
  subst ex2_1
  subst ex3_3
  exact l_m_mostWith hn hs (2 ^ s.1) 0 M (by omega) hM0 ⟨rfl, rfl⟩

