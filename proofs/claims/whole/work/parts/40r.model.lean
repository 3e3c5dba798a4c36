def prI (s : lyT) (a : Nat) (most : Nat) : Nat → Nat → Option Nat
  | 0, _ => none
  | k + 1, i => if s.2.1 i = nI a then (if mwM (mwV s (nI i)) (2 ^ s.1) = most then some i else prI s a most k (i + 1)) else none
def prO (E : Nat → Nat → Bool) (P most : Nat) : Nat → Nat → lyT → Option (Nat × Int32)
  | 0, _, _ => none
  | k + 1, a, s => (prI (lyO E P (P - a) a (0, s.2)) a most (lyO E P (P - a) a (0, s.2)).1 0).elim (prO E P most k (a + 1) (lyO E P (P - a) a (0, s.2))) (fun i => some (a, (lyO E P (P - a) a (0, s.2)).2.2 i))
def prV (o : Option (Nat × Int32)) (w : Int32) : Int32 := o.elim (-1) (fun x => if w = 1 then nI x.1 else x.2)
def mPairs (E : Nat → Nat → Bool) (P : Nat) (a b : Nat → Int32) (w : Int32) : Int32 := if inB w 3 = true then (if w = 0 then nI (mwM (mwV (lyO E P P 0 (0, a, b)) (-1)) (2 ^ (lyO E P P 0 (0, a, b)).1)) else if mwM (mwV (lyO E P P 0 (0, a, b)) (-1)) (2 ^ (lyO E P P 0 (0, a, b)).1) = 0 then -1 else prV (prO E P (mwM (mwV (lyO E P P 0 (0, a, b)) (-1)) (2 ^ (lyO E P P 0 (0, a, b)).1)) P 0 (lyO E P P 0 (0, a, b))) w) else -3
set_option maxHeartbeats 4000000 in
set_option maxRecDepth 100000 in
theorem l_m_pr1 {n P W G : Nat} {w : Int32} {most : Nat} {t τ δ : Nat → Nat → Int32} {u : Nat → Nat → Int64} {Q : Option Value → (Nat → xE) → Prop} {M0 : Nat → xE} (hn : 113 < n) (hw : RT τ P W G (t 0)) (hm10 : most ≤ 10) {s : lyT} {g : Nat} (hs : s.1 ≤ 10) (hg : g < P) : ∀ (k i : Nat) (M : Nat → xE), i + k = s.1 → (oX11 99 (pQ t s) u M) → (∀ j, prI s g most k i = some j → ∀ x, x = (if w = 1 then nI g else s.2.2 j) → Q (some (.int x)) M) → (prI s g most k i = none → X mX11_pairs 0 0 117 [(3, .int (nI g)), (2, .int (nI most)), (0, .ref 99), (1, .int w)] [] n M Q) → X mX11_pairs 0 0 64 [(4, .int (nI i)), (3, .int (nI g)), (2, .int (nI most)), (0, .ref 99), (1, .int w)] [] n M (Q) := by
  have hiX11 : ∀ w ∈ wsX110, w ∈ wsX11_pairs := by decide +kernel
  intro k
  induction k with
  | zero =>
    intro i M hik hM hS hN
    have hM0 := hM
    obtain ⟨mp0, mp1, mp2, mp3, mp4, mp5, mp6, mp7, mp8, mp9, mp10, mp11, mp12, mp13, mp14⟩ := hM
    have hP5 := rtP hw
    have mp1 : M (99 + 1) = .inl (0, 122, .inl (t 0)) := mp1
    have mp12 : M (99 + 12) = .inl (0, 10, .inl s.2.1) := mp12
    have mp13 : M (99 + 13) = .inl (0, 10, .inl s.2.2) := mp13
    have hpw := pw10 hs
    have hmle : mwM (mwV s (nI i)) (2 ^ s.1) ≤ s.1 := mwM_le _ (fun _ _ h => mwV_le h) _
    refine x_iload (q := 66) dX11_pairs_64 rfl rfl ?_
    refine x_aload_n (q := 67) dX11_pairs_66 rfl rfl ?_
    refine x_getf (C := RX11) (T := TX11) (N := 29) (k := 26) (q := 70) mp0 (by omega) rfl hiX11 (by decide) (by decide +kernel) rfl dX11_pairs_67 rfl ?_
    show X mX11_pairs 0 0 _ _ (.int (nI s.1) :: _) _ _ _
    refine x_icmp_ge (t := 117) (q := 73) dX11_pairs_70 (by decide) rfl (fun c70 => ?_) (fun c70 => absurd (by rw [show i = s.1 by omega]; exact nI_le (Nat.le_refl _) (by omega)) c70)
    refine x_pick (L' := [(3, .int (nI g)), (2, .int (nI most)), (0, .ref 99), (1, .int w)]) [1, 2, 3, 4] rfl ?_
    exact hN rfl
  | succ k ih =>
    intro i M hik hM hS hN
    have hM0 := hM
    obtain ⟨mp0, mp1, mp2, mp3, mp4, mp5, mp6, mp7, mp8, mp9, mp10, mp11, mp12, mp13, mp14⟩ := hM
    have hP5 := rtP hw
    have mp1 : M (99 + 1) = .inl (0, 122, .inl (t 0)) := mp1
    have mp12 : M (99 + 12) = .inl (0, 10, .inl s.2.1) := mp12
    have mp13 : M (99 + 13) = .inl (0, 10, .inl s.2.2) := mp13
    have hpw := pw10 hs
    have hmle : mwM (mwV s (nI i)) (2 ^ s.1) ≤ s.1 := mwM_le _ (fun _ _ h => mwV_le h) _
    refine x_iload (q := 66) dX11_pairs_64 rfl rfl ?_
    refine x_aload_n (q := 67) dX11_pairs_66 rfl rfl ?_
    refine x_getf (C := RX11) (T := TX11) (N := 29) (k := 26) (q := 70) mp0 (by omega) rfl hiX11 (by decide) (by decide +kernel) rfl dX11_pairs_67 rfl ?_
    show X mX11_pairs 0 0 _ _ (.int (nI s.1) :: _) _ _ _
    refine x_icmp_ge (t := 117) (q := 73) dX11_pairs_70 (by decide) rfl (fun c70 => absurd c70 (nI_ge (a := i) (b := s.1) (by omega) (by omega))) (fun c70 => ?_)
    refine x_aload_n (q := 74) dX11_pairs_73 rfl rfl ?_
    refine x_getf (C := RX11) (T := TX11) (N := 29) (k := 24) (q := 77) mp0 (by omega) rfl hiX11 (by decide) (by decide +kernel) rfl dX11_pairs_74 rfl ?_
    refine x_iload (q := 79) dX11_pairs_77 rfl rfl ?_
    refine x_iald (q := 80) mp12 (by omega) (ixI (show (nI i : Int32) = nI i from rfl) (by omega) (by decide)) dX11_pairs_79 rfl ?_
    rw [ixC (show (nI i : Int32) = nI i from rfl) (by omega)]
    refine x_iload_n (q := 81) dX11_pairs_80 rfl rfl ?_
    refine x_icmp_ne (t := 117) (q := 84) dX11_pairs_81 (by decide) rfl (fun c81 => ?_) (fun c81 => ?_)
    · refine x_pick (L' := [(3, .int (nI g)), (2, .int (nI most)), (0, .ref 99), (1, .int w)]) [1, 2, 3, 4] rfl ?_
      exact hN (by rw [prI, if_neg c81])
    · refine x_aload_n (q := 85) dX11_pairs_84 rfl rfl ?_
      refine x_iload (q := 87) dX11_pairs_85 rfl rfl ?_
      refine x_callV (q := 90) (ci := 11) (c_m_mostWith (t := t) (u := u) hn hs hM0) eX11_pairs_280 gX11_pairs_X11_mostWith mp0 (by omega) rfl rfl rfl (Nat.le_of_ble_eq_true rfl) ⟨Nat.le_refl _, Nat.le_refl _⟩ dX11_pairs_87 rfl rfl (fun r87 M87 p87 => ?_)
      obtain ⟨rfl, rfl⟩ := p87
      refine x_iload_n (q := 91) dX11_pairs_90 rfl rfl ?_
      refine x_icmp_ne (t := 111) (q := 94) dX11_pairs_91 (by decide) rfl (fun c91 => ?_) (fun c91 => ?_)
      · refine x_iinc (L' := fun x4_111 => [(4, .int x4_111), (3, .int (nI g)), (2, .int (nI most)), (0, .ref 99), (1, .int w)]) (q := 114) dX11_pairs_111 rfl rfl (by decide) (fun _ => rfl) (fun x4_111 ex4_111 => ?_)
        obtain rfl : x4_111 = nI (i + 1) := ex4_111.trans (nI_1 i)
        refine x_goto (q := 64) dX11_pairs_114 (by decide) ?_
        have hne : ¬ mwM (mwV s (nI i)) (2 ^ s.1) = most := fun h => c91 (by rw [h])
        refine x_pick (L' := [(4, .int (nI (i + 1))), (3, .int (nI g)), (2, .int (nI most)), (0, .ref 99), (1, .int w)]) [0, 1, 2, 3, 4] rfl ?_
        exact ih (i + 1) M (by omega) hM0 (by rw [prI, if_pos c81, if_neg hne] at hS; exact hS) (by rw [prI, if_pos c81, if_neg hne] at hN; exact hN)
      · refine x_iload_n (q := 95) dX11_pairs_94 rfl rfl ?_
        refine x_iconst (v := 1) (q := 96) dX11_pairs_95 rfl (by decide) ?_
        refine x_icmp_ne (t := 103) (q := 99) dX11_pairs_96 (by decide) rfl (fun c96 => ?_) (fun c96 => ?_)
        · refine x_aload_n (q := 104) dX11_pairs_103 rfl rfl ?_
          refine x_getf (C := RX11) (T := TX11) (N := 29) (k := 25) (q := 107) mp0 (by omega) rfl hiX11 (by decide) (by decide +kernel) rfl dX11_pairs_104 rfl ?_
          refine x_iload (q := 109) dX11_pairs_107 rfl rfl ?_
          refine x_iald (q := 110) mp13 (by omega) (ixI (show (nI i : Int32) = nI i from rfl) (by omega) (by decide)) dX11_pairs_109 rfl ?_
          rw [ixC (show (nI i : Int32) = nI i from rfl) (by omega)]
          refine x_iret dX11_pairs_110 rfl rfl (Nat.le_refl _) ?_
          exact hS i (by rw [prI, if_pos c81, if_pos ((nIne (by omega) (by omega)).mp c91)]) _ (by first | (rw [if_pos c96]; done) | (rw [if_neg c96]; done))
        · refine x_iload_n (q := 100) dX11_pairs_99 rfl rfl ?_
          refine x_goto (q := 110) dX11_pairs_100 (by decide) ?_
          refine x_iret dX11_pairs_110 rfl rfl (Nat.le_refl _) ?_
          exact hS i (by rw [prI, if_pos c81, if_pos ((nIne (by omega) (by omega)).mp c91)]) _ (by first | (rw [if_pos c96]; done) | (rw [if_neg c96]; done))

set_option maxHeartbeats 4000000 in
set_option maxRecDepth 100000 in
theorem l_m_pr {n P W G : Nat} {w : Int32} {most : Nat} {t τ δ : Nat → Nat → Int32} {u : Nat → Nat → Int64} {Q : Option Value → (Nat → xE) → Prop} {M0 : Nat → xE} (hn : 113 < n) (hw : RT τ P W G (t 0)) (hm10 : most ≤ 10) (hd : ∀ k, k < 22 → t 1 k = dv δ k) : ∀ (k i : Nat) (M : Nat → xE) (s : lyT), i + k = P → (oX11 99 (pQ t s) u M) → (xfr 99 114 M0 M) → (∀ M' s', oX11 99 (pQ t s') u M' → xfr 99 114 M0 M' → ∀ x, x = prV (prO (eM τ δ) P most k i s) w → Q (some (.int x)) M') → X mX11_pairs 0 0 46 [(3, .int (nI i)), (2, .int (nI most)), (0, .ref 99), (1, .int w)] [] n M (Q) := by
  have hiX11 : ∀ w ∈ wsX110, w ∈ wsX11_pairs := by decide +kernel
  intro k
  induction k with
  | zero =>
    intro i M s hik hM hf hQ
    have hM0 := hM
    obtain ⟨mp0, mp1, mp2, mp3, mp4, mp5, mp6, mp7, mp8, mp9, mp10, mp11, mp12, mp13, mp14⟩ := hM
    have hP5 := rtP hw
    have mp1 : M (99 + 1) = .inl (0, 122, .inl (t 0)) := mp1
    refine x_iload_n (q := 47) dX11_pairs_46 rfl rfl ?_
    refine x_aload_n (q := 48) dX11_pairs_47 rfl rfl ?_
    refine x_getf (C := RX11) (T := TX11) (N := 29) (k := 0) (q := 51) mp0 (by omega) rfl hiX11 (by decide) (by decide +kernel) rfl dX11_pairs_48 rfl ?_
    refine x_iconst (v := 0) (q := 52) dX11_pairs_51 rfl (by decide) ?_
    refine x_iald (q := 53) mp1 (by omega) (ixI (show (0 : Int32) = nI 0 from rfl) (by omega) (by decide)) dX11_pairs_52 rfl ?_
    rw [ixC (show (0 : Int32) = nI 0 from rfl) (by omega)]
    rw [rtn hw]
    refine x_icmp_ge (t := 123) (q := 56) dX11_pairs_53 (by decide) rfl (fun c53 => ?_) (fun c53 => absurd (by rw [show i = P by omega]; exact nI_le (Nat.le_refl _) (by omega)) c53)
    refine x_iconst (v := -1) (q := 124) dX11_pairs_123 rfl (by decide) ?_
    refine x_iret dX11_pairs_124 rfl rfl (Nat.le_refl _) ?_
    exact hQ M s hM0 hf _ rfl
  | succ k ih =>
    intro i M s hik hM hf hQ
    have hM0 := hM
    obtain ⟨mp0, mp1, mp2, mp3, mp4, mp5, mp6, mp7, mp8, mp9, mp10, mp11, mp12, mp13, mp14⟩ := hM
    have hP5 := rtP hw
    have mp1 : M (99 + 1) = .inl (0, 122, .inl (t 0)) := mp1
    refine x_iload_n (q := 47) dX11_pairs_46 rfl rfl ?_
    refine x_aload_n (q := 48) dX11_pairs_47 rfl rfl ?_
    refine x_getf (C := RX11) (T := TX11) (N := 29) (k := 0) (q := 51) mp0 (by omega) rfl hiX11 (by decide) (by decide +kernel) rfl dX11_pairs_48 rfl ?_
    refine x_iconst (v := 0) (q := 52) dX11_pairs_51 rfl (by decide) ?_
    refine x_iald (q := 53) mp1 (by omega) (ixI (show (0 : Int32) = nI 0 from rfl) (by omega) (by decide)) dX11_pairs_52 rfl ?_
    rw [ixC (show (0 : Int32) = nI 0 from rfl) (by omega)]
    rw [rtn hw]
    refine x_icmp_ge (t := 123) (q := 56) dX11_pairs_53 (by decide) rfl (fun c53 => absurd c53 (nI_ge (a := i) (b := P) (by omega) (by omega))) (fun c53 => ?_)
    refine x_aload_n (q := 57) dX11_pairs_56 rfl rfl ?_
    refine x_iload_n (q := 58) dX11_pairs_57 rfl rfl ?_
    refine x_callV (q := 61) (ci := 11) (c_m_layPairs (t := pQ t s) (u := u) (δ := δ) hn hM0 hw hd (show i ≤ P by omega)) eX11_pairs_277 gX11_pairs_X11_layPairs mp0 (by omega) rfl rfl rfl (Nat.le_of_ble_eq_true rfl) ⟨Nat.le_refl _, Nat.le_refl _⟩ dX11_pairs_58 rfl rfl (fun r58 M58 p58 => ?_)
    obtain ⟨rfl, hV58, fr58⟩ := p58
    have hU58 := hV58
    obtain ⟨y58_0, y58_1, y58_2, y58_3, y58_4, y58_5, y58_6, y58_7, y58_8, y58_9, y58_10, y58_11, y58_12, y58_13, y58_14⟩ := hV58
    refine x_iconst (v := 0) (q := 62) dX11_pairs_61 rfl (by decide) ?_
    refine x_istore (L' := fun x4_62 => [(4, .int x4_62), (3, .int (nI i)), (2, .int (nI most)), (0, .ref 99), (1, .int w)]) (q := 64) dX11_pairs_62 rfl (by decide) (fun _ => rfl) (fun x4_62 ex4_62 => ?_)
    subst ex4_62
    have hs2 : (lyO (eM τ δ) P (P - i) i (0, s.2)).1 ≤ 10 := by have h1 := lyO_le (eM τ δ) P (P - i) i (0, s.2) (by omega); have h2 := tri_le (m := P - i) (by omega); simp only at h1; omega
    have hob : oX11 99 (pQ t (lyO (eM τ δ) P (P - i) i (0, s.2))) u M58 := hU58
    refine l_m_pr1 (M0 := M) (δ := δ) (s := (lyO (eM τ δ) P (P - i) i (0, s.2))) (g := i) (t := t) (u := u) hn hw hm10 hs2 (by omega) (lyO (eM τ δ) P (P - i) i (0, s.2)).1 0 M58 (by omega) hob (fun j hj x hx => ?_) (fun hj => ?_)
    · exact hQ M58 _ hob (fun j hj => (fr58 j hj).trans (hf j hj)) _ (by rw [prO, hj, hx]; rfl)
    · refine x_iinc (L' := fun x3_117 => [(3, .int x3_117), (2, .int (nI most)), (0, .ref 99), (1, .int w)]) (q := 120) dX11_pairs_117 rfl rfl (by decide) (fun _ => rfl) (fun x3_117 ex3_117 => ?_)
      obtain rfl : x3_117 = nI (i + 1) := ex3_117.trans (nI_1 i)
      refine x_goto (q := 46) dX11_pairs_120 (by decide) ?_
      refine x_pick (L' := [(3, .int (nI (i + 1))), (2, .int (nI most)), (0, .ref 99), (1, .int w)]) [0, 1, 2, 3] rfl ?_
      exact ih (i + 1) M58 (lyO (eM τ δ) P (P - i) i (0, s.2)) (by omega) hob (fun j hj => (fr58 j hj).trans (hf j hj)) (by rw [prO, hj] at hQ; exact hQ)
    

theorem pQ_ne {t : Nat → Nat → Int32} {s : lyT} : ∀ z, (z < 24 ∨ 26 < z) → pQ t s z = t z := by
  intro z hz
  unfold pQ
  rw [if_neg (by omega), if_neg (by omega), if_neg (by omega)]
set_option maxHeartbeats 4000000 in
set_option maxRecDepth 100000 in
theorem c_m_pairs {n : Nat} {M : Nat → xE} {t : Nat → Nat → Int32} {u : Nat → Nat → Int64} (hn : 113 < n) (hM : oX11 99 t u M) {τ : Nat → Nat → Int32} {P W G : Nat} (hw : RT τ P W G (t 0)) {δ : Nat → Nat → Int32} (hd : ∀ k, k < 22 → t 1 k = dv δ k) {w : Int32} : xMet mX11_pairs [.ref 99, .int w] n M (fun r M' => some (.int (mPairs (eM τ δ) P (t 24) (t 25) w)) = r ∧ (∃ t', oX11 99 t' u M' ∧ ∀ z, (z < 24 ∨ 26 < z) → t' z = t z) ∧ xfr 99 114 M M') := by
  have hM0 := hM
  obtain ⟨mp0, mp1, mp2, mp3, mp4, mp5, mp6, mp7, mp8, mp9, mp10, mp11, mp12, mp13, mp14⟩ := hM
  have hP5 := rtP hw
  refine xMet.of _ (by decide) rfl (Nat.le_of_ble_eq_true rfl) ?_
  refine x_iload_n (q := 1) dX11_pairs_0 rfl rfl ?_
  refine x_i2l (q := 2) dX11_pairs_1 rfl ?_
  refine x_lconst (v := 0) (q := 3) dX11_pairs_2 rfl (by decide) ?_
  refine x_ldc2 (v := 2) (q := 6) (by decide +kernel) dX11_pairs_3 rfl ?_
  refine x_callS (q := 9) c_m_in eX11_pairs_65 gX11_pairs_X11_in rfl (Nat.le_of_ble_eq_true rfl) ⟨Nat.le_refl _, Nat.le_refl _⟩ dX11_pairs_6 rfl rfl (fun r6 M6 p6 => ?_)
  obtain ⟨rfl, p6⟩ := p6
  rcases p6 with ⟨b6, rfl⟩ | ⟨b6, rfl⟩
  · refine x_if_ne (t := 15) (q := 12) dX11_pairs_9 (by decide) rfl (fun c9 => ?_) (fun c9 => absurd c9 (by decide))
    refine x_aload_n (q := 16) dX11_pairs_15 rfl rfl ?_
    refine x_iconst (v := 0) (q := 17) dX11_pairs_16 rfl (by decide) ?_
    refine x_callV (q := 20) (ci := 11) (c_m_layPairs (f := 0) hn hM0 hw hd (Nat.zero_le _)) eX11_pairs_277 gX11_pairs_X11_layPairs mp0 (by omega) rfl rfl rfl (Nat.le_of_ble_eq_true rfl) ⟨Nat.le_refl _, Nat.le_refl _⟩ dX11_pairs_17 rfl rfl (fun r17 M17 p17 => ?_)
    obtain ⟨rfl, hV17, fr17⟩ := p17
    have hU17 := hV17
    obtain ⟨y17_0, y17_1, y17_2, y17_3, y17_4, y17_5, y17_6, y17_7, y17_8, y17_9, y17_10, y17_11, y17_12, y17_13, y17_14⟩ := hV17
    have hob0 : oX11 99 (pQ t (lyO (eM τ δ) P P 0 (0, t 24, t 25))) u M17 := hU17
    have hs0 : (lyO (eM τ δ) P P 0 (0, t 24, t 25)).1 ≤ 10 := by have h1 := lyO_le (eM τ δ) P P 0 (0, t 24, t 25) (by omega); have h2 := tri_le hP5; simp only at h1; omega
    have hmle : (mwM (mwV (lyO (eM τ δ) P P 0 (0, t 24, t 25)) (-1)) (2 ^ (lyO (eM τ δ) P P 0 (0, t 24, t 25)).1)) ≤ (lyO (eM τ δ) P P 0 (0, t 24, t 25)).1 := mwM_le _ (fun _ _ h => mwV_le h) _
    refine x_aload_n (q := 21) dX11_pairs_20 rfl rfl ?_
    refine x_iconst (v := -1) (q := 22) dX11_pairs_21 rfl (by decide) ?_
    refine x_callV (q := 25) (ci := 11) (c_m_mostWith (t := t) (u := u) hn hs0 hob0) eX11_pairs_280 gX11_pairs_X11_mostWith y17_0 (by omega) rfl rfl rfl (Nat.le_of_ble_eq_true rfl) ⟨Nat.le_refl _, Nat.le_refl _⟩ dX11_pairs_22 rfl rfl (fun r22 M22 p22 => ?_)
    obtain ⟨rfl, rfl⟩ := p22
    refine x_istore_n (L' := fun x2_25 => [(2, .int x2_25), (0, .ref 99), (1, .int w)]) (q := 26) dX11_pairs_25 rfl (by decide) (fun _ => rfl) (fun x2_25 ex2_25 => ?_)
    obtain rfl : x2_25 = nI (mwM (mwV (lyO (eM τ δ) P P 0 (0, t 24, t 25)) (-1)) (2 ^ (lyO (eM τ δ) P P 0 (0, t 24, t 25)).1)) := ex2_25
    refine x_iload_n (q := 27) dX11_pairs_26 rfl rfl ?_
    refine x_if_eq (t := 34) (q := 30) dX11_pairs_27 (by decide) rfl (fun c27 => ?_) (fun c27 => ?_)
    · refine x_iload_n (q := 35) dX11_pairs_34 rfl rfl ?_
      refine x_if_ne (t := 42) (q := 38) dX11_pairs_35 (by decide) rfl (fun c35 => ?_) (fun c35 => ?_)
      · refine x_iconst (v := -1) (q := 43) dX11_pairs_42 rfl (by decide) ?_
        refine x_iret dX11_pairs_43 rfl rfl (Nat.le_refl _) ?_
        refine ⟨?_, ⟨_, hob0, pQ_ne⟩, fr17⟩
        unfold mPairs
        rw [if_pos ((mIn2 (k := 2) (by decide) rfl).mp b6)]
        first
          | (rw [if_pos c27]; done)
          | (rw [if_neg c27, if_pos ((nIne (b := 0) (by omega) (by decide)).mp c31)]; done)
          | exact absurd c27 c35
          | exact absurd c35 c27
      · refine x_iload_n (q := 39) dX11_pairs_38 rfl rfl ?_
        refine x_goto (q := 43) dX11_pairs_39 (by decide) ?_
        refine x_iret dX11_pairs_43 rfl rfl (Nat.le_refl _) ?_
        refine ⟨?_, ⟨_, hob0, pQ_ne⟩, fr17⟩
        unfold mPairs
        rw [if_pos ((mIn2 (k := 2) (by decide) rfl).mp b6)]
        first
          | (rw [if_pos c27]; done)
          | (rw [if_neg c27, if_pos ((nIne (b := 0) (by omega) (by decide)).mp c31)]; done)
          | exact absurd c27 c35
          | exact absurd c35 c27
    · refine x_iload_n (q := 31) dX11_pairs_30 rfl rfl ?_
      refine x_if_ne (t := 44) (q := 34) dX11_pairs_31 (by decide) rfl (fun c31 => ?_) (fun c31 => ?_)
      · refine x_iconst (v := 0) (q := 45) dX11_pairs_44 rfl (by decide) ?_
        refine x_istore_n (L' := fun x3_45 => [(3, .int x3_45), (2, .int (nI (mwM (mwV (lyO (eM τ δ) P P 0 (0, t 24, t 25)) (-1)) (2 ^ (lyO (eM τ δ) P P 0 (0, t 24, t 25)).1)))), (0, .ref 99), (1, .int w)]) (q := 46) dX11_pairs_45 rfl (by decide) (fun _ => rfl) (fun x3_45 ex3_45 => ?_)
        subst ex3_45
        exact l_m_pr (t := t) (u := u) (δ := δ) (M0 := M17) hn hw (show (mwM (mwV (lyO (eM τ δ) P P 0 (0, t 24, t 25)) (-1)) (2 ^ (lyO (eM τ δ) P P 0 (0, t 24, t 25)).1)) ≤ 10 by omega) hd P 0 M17 (lyO (eM τ δ) P P 0 (0, t 24, t 25)) (by omega) hob0 (fun j _ => rfl) (fun M' s' h1 h3 x hx => ⟨by unfold mPairs; rw [if_pos ((mIn2 (k := 2) (by decide) rfl).mp b6), if_neg c27, if_neg (fun h => c31 (by rw [h]; rfl)), hx], ⟨_, h1, pQ_ne⟩, fun j hj => (h3 j hj).trans (fr17 j hj)⟩)
      · refine x_iload_n (q := 35) dX11_pairs_34 rfl rfl ?_
        refine x_if_ne (t := 42) (q := 38) dX11_pairs_35 (by decide) rfl (fun c35 => ?_) (fun c35 => ?_)
        · refine x_iconst (v := -1) (q := 43) dX11_pairs_42 rfl (by decide) ?_
          refine x_iret dX11_pairs_43 rfl rfl (Nat.le_refl _) ?_
          refine ⟨?_, ⟨_, hob0, pQ_ne⟩, fr17⟩
          unfold mPairs
          rw [if_pos ((mIn2 (k := 2) (by decide) rfl).mp b6)]
          first
            | (rw [if_pos c27]; done)
            | (rw [if_neg c27, if_pos ((nIne (b := 0) (by omega) (by decide)).mp c31)]; done)
            | exact absurd c27 c35
            | exact absurd c35 c27
        · refine x_iload_n (q := 39) dX11_pairs_38 rfl rfl ?_
          refine x_goto (q := 43) dX11_pairs_39 (by decide) ?_
          refine x_iret dX11_pairs_43 rfl rfl (Nat.le_refl _) ?_
          refine ⟨?_, ⟨_, hob0, pQ_ne⟩, fr17⟩
          unfold mPairs
          rw [if_pos ((mIn2 (k := 2) (by decide) rfl).mp b6)]
          first
            | (rw [if_pos c27]; done)
            | (rw [if_neg c27, if_pos ((nIne (b := 0) (by omega) (by decide)).mp c31)]; done)
            | exact absurd c27 c35
            | exact absurd c35 c27
  · refine x_if_ne (t := 15) (q := 12) dX11_pairs_9 (by decide) rfl (fun c9 => absurd c9 (by decide)) (fun c9 => ?_)
    refine x_bipush (v := -3) (q := 14) dX11_pairs_12 rfl (by decide) ?_
    refine x_iret dX11_pairs_14 rfl rfl (Nat.le_refl _) ?_
    refine ⟨?_, ⟨t, hM0, fun z _ => rfl⟩, fun j hj => rfl⟩
    unfold mPairs
    rw [if_neg (fun h => b6 ((mIn2 (k := 2) (by decide) rfl).mpr h))]

