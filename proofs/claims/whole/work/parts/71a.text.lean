/-! THE TEXT, as the model reads it -/
def oR (t : Nat → Nat → Int32) (u : Nat → Nat → Int64) (lt : Nat → Int32) (N : Nat) (w : Nat → Int32) (a s iw ib v c : Int32) (M : Nat → xE) : Prop := M 99 = .inr (11, [.ref 100, .ref 101, .int (t 2 0), .ref 102, .ref 103, .int (nI N), .int a, .int s, .int iw, .int ib, .int v, .int c, .ref 104, .int (t 13 0), .ref 105, .ref 106, .long (u 16 0), .long (u 17 0), .int (t 18 0), .ref 107, .ref 108, .ref 109, .int (t 22 0), .ref 110, .ref 111, .ref 112, .int (t 26 0), .int (t 27 0), .ref 113]) ∧ M 100 = .inl (0, 122, .inl w) ∧ M 103 = .inl (0, 160, .inl lt)
def lA (lt : Nat → Int32) (N k : Nat) : Int32 := if k < N then lt k else -1
theorem lA_in {lt : Nat → Int32} {N k : Nat} (h : k < N) : lA lt N k = lt k := if_pos h
theorem lA_out {lt : Nat → Int32} {N k : Nat} (h : ¬ k < N) : lA lt N k = -1 := if_neg h
theorem kd_m1 : kd (-1) = 2 := by decide
theorem in_W {x : Int32} : ((97 : Int64) ≤ x.toInt64 ∧ x.toInt64 ≤ 122) ↔ kd x = 0 := by
  rw [show (97 : Int64) = (97 : Int32).toInt64 from by decide, show (122 : Int64) = (122 : Int32).toInt64 from by decide, fa_wide_le, fa_wide_le]
  unfold kd
  constructor
  · intro h; rw [if_pos h]
  · intro h
    split at h
    · assumption
    · split at h <;> omega
theorem in_D {x : Int32} : ((48 : Int64) ≤ x.toInt64 ∧ x.toInt64 ≤ 57) ↔ kd x = 1 := by
  rw [show (48 : Int64) = (48 : Int32).toInt64 from by decide, show (57 : Int64) = (57 : Int32).toInt64 from by decide, fa_wide_le, fa_wide_le]
  unfold kd
  constructor
  · intro h
    rw [if_neg, if_pos h]
    rintro ⟨h1, h2⟩
    have h3 := h.2
    rw [fa_le] at h1 h3
    have e1 : (97 : Int32).toInt = 97 := rfl
    have e2 : (57 : Int32).toInt = 57 := rfl
    omega
  · intro h
    split at h
    · omega
    · split at h
      · assumption
      · omega
def kw (K : Nat) : Int32 := if K = 0 then 1 else 0
def kn (K : Nat) : Int32 := if K = 1 then 1 else 0
theorem kd_lA {lt : Nat → Int32} {N q : Nat} : (kd (lA lt N (tsp lt N q)) = 0 ↔ tkK lt N q = 0) ∧ (kd (lA lt N (tsp lt N q)) = 1 ↔ tkK lt N q = 1) := by
  unfold lA tkK
  by_cases h : tsp lt N q < N
  · rw [if_pos h, if_pos h]; exact ⟨Iff.rfl, Iff.rfl⟩
  · rw [if_neg h, if_neg h, kd_m1]; exact ⟨⟨fun q => by omega, fun q => by omega⟩, ⟨fun q => by omega, fun q => by omega⟩⟩
set_option maxHeartbeats 4000000 in
set_option maxRecDepth 100000 in
theorem c_m_let {n N : Nat} {M : Nat → xE} {t : Nat → Nat → Int32} {u : Nat → Nat → Int64} {lt w : Nat → Int32} {a s iw ib v c : Int32} (hn : 113 < n) (hN : N ≤ 160) (hR : oR t u lt N w a s iw ib v c M) {k : Nat} (hk : k < 2 ^ 30) : xMet mX11_letterAt [.ref 99, .int (nI k)] n M (fun r M' => M = M' ∧ some (.int (lA lt N k)) = r) := by
  have hR0 := hR
  obtain ⟨mp0, mp1, mp4⟩ := hR
  have hiX11 : ∀ w ∈ wsX110, w ∈ wsX11_letterAt := by decide +kernel
  refine xMet.of _ (by decide) rfl (Nat.le_of_ble_eq_true rfl) ?_
  refine x_iload_n (q := 1) dX11_letterAt_0 rfl rfl ?_
  refine x_aload_n (q := 2) dX11_letterAt_1 rfl rfl ?_
  refine x_getf (C := RX11) (T := TX11) (N := 29) (k := 5) (q := 5) mp0 (by omega) rfl hiX11 (by decide) (by decide +kernel) rfl dX11_letterAt_2 rfl ?_
  refine x_icmp_ge (t := 17) (q := 8) dX11_letterAt_5 (by decide) rfl (fun c5 => ?_) (fun c5 => ?_)
  · refine x_iconst (v := -1) (q := 18) dX11_letterAt_17 rfl (by decide) ?_
    refine x_iret dX11_letterAt_18 rfl rfl (Nat.le_refl _) ?_
    refine ⟨rfl, ?_⟩
    rw [lA_out (fun h => absurd c5 (nI_ge h (by omega)))]
  · have h9 : k < N := Nat.lt_of_not_le (fun h => c5 (nI_le h (by omega)))
    refine x_aload_n (q := 9) dX11_letterAt_8 rfl rfl ?_
    refine x_getf (C := RX11) (T := TX11) (N := 29) (k := 4) (q := 12) mp0 (by omega) rfl hiX11 (by decide) (by decide +kernel) rfl dX11_letterAt_9 rfl ?_
    refine x_iload_n (q := 13) dX11_letterAt_12 rfl rfl ?_
    refine x_iald (q := 14) mp4 (by omega) (vp_in_nI (show k < 160 by omega) (by decide)) dX11_letterAt_13 rfl ?_
    rw [nI_clamp (show k < 2 ^ 31 by omega)]
    refine x_goto (q := 18) dX11_letterAt_14 (by decide) ?_
    refine x_iret dX11_letterAt_18 rfl rfl (Nat.le_refl _) ?_
    refine ⟨rfl, ?_⟩
    rw [lA_in h9]

set_option maxHeartbeats 4000000 in
set_option maxRecDepth 100000 in
theorem l_mtok1 {n N : Nat} {t : Nat → Nat → Int32} {u : Nat → Nat → Int64} {lt w : Nat → Int32} {s iw ib v c : Int32} {Q : Option Value → (Nat → xE) → Prop} {M0 : Nat → xE} (hn : 113 < n) (hN : N ≤ 160) : ∀ (k i : Nat) (M : Nat → xE), i + k = N → (oR t u lt N w (nI i) s iw ib v c M) → (∀ j, ¬ j = 99 → M j = M0 j) → (∀ (M' : Nat → xE) (e : Nat), e = tS lt N k i → oR t u lt N w (nI e) s iw ib v c M' → (∀ j, ¬ j = 99 → M' j = M0 j) → X mX11_token 0 0 26 [(0, .ref 99)] [] n M' Q) → X mX11_token 0 0 0 [(0, .ref 99)] [] n M (Q) := by
  have hiX11 : ∀ w ∈ wsX110, w ∈ wsX11_token := by decide +kernel
  intro k
  induction k with
  | zero =>
    intro i M hik hR hf hk
    have hR0 := hR
    obtain ⟨mp0, mp1, mp4⟩ := hR
    refine x_aload_n (q := 1) dX11_token_0 rfl rfl ?_
    refine x_aload_n (q := 2) dX11_token_1 rfl rfl ?_
    refine x_getf (C := RX11) (T := TX11) (N := 29) (k := 6) (q := 5) mp0 (by omega) rfl hiX11 (by decide) (by decide +kernel) rfl dX11_token_2 rfl ?_
    refine x_callV (q := 8) (ci := 11) (c_m_let hn hN ⟨mp0, mp1, mp4⟩ (k := i) (by omega)) eX11_token_95 gX11_token_X11_letterAt mp0 (by omega) rfl rfl rfl (Nat.le_of_ble_eq_true rfl) ⟨Nat.le_refl _, Nat.le_refl _⟩ dX11_token_5 rfl rfl (fun r5 M5 p5 => ?_)
    obtain ⟨rfl, rfl⟩ := p5
    refine x_bipush (v := 32) (q := 10) dX11_token_8 rfl (by decide) ?_
    refine x_icmp_ne (t := 26) (q := 13) dX11_token_10 (by decide) rfl (fun c10 => ?_) (fun c10 => absurd c10 (by rw [lA_out (by omega)]; decide))
    exact hk M i rfl hR0 hf
  | succ k ih =>
    intro i M hik hR hf hk
    have hR0 := hR
    obtain ⟨mp0, mp1, mp4⟩ := hR
    refine x_aload_n (q := 1) dX11_token_0 rfl rfl ?_
    refine x_aload_n (q := 2) dX11_token_1 rfl rfl ?_
    refine x_getf (C := RX11) (T := TX11) (N := 29) (k := 6) (q := 5) mp0 (by omega) rfl hiX11 (by decide) (by decide +kernel) rfl dX11_token_2 rfl ?_
    refine x_callV (q := 8) (ci := 11) (c_m_let hn hN ⟨mp0, mp1, mp4⟩ (k := i) (by omega)) eX11_token_95 gX11_token_X11_letterAt mp0 (by omega) rfl rfl rfl (Nat.le_of_ble_eq_true rfl) ⟨Nat.le_refl _, Nat.le_refl _⟩ dX11_token_5 rfl rfl (fun r5 M5 p5 => ?_)
    obtain ⟨rfl, rfl⟩ := p5
    refine x_bipush (v := 32) (q := 10) dX11_token_8 rfl (by decide) ?_
    refine x_icmp_ne (t := 26) (q := 13) dX11_token_10 (by decide) rfl (fun c10 => ?_) (fun c10 => ?_)
    · exact hk M i (by rw [tS, if_neg (fun h => c10 (by rw [lA_in h.1]; exact h.2))]) hR0 hf
    · refine x_aload_n (q := 14) dX11_token_13 rfl rfl ?_
      refine x_dup (q := 15) dX11_token_14 rfl rfl ?_
      refine x_getf (C := RX11) (T := TX11) (N := 29) (k := 6) (q := 18) mp0 (by omega) rfl hiX11 (by decide) (by decide +kernel) rfl dX11_token_15 rfl ?_
      refine x_iconst (v := 1) (q := 19) dX11_token_18 rfl (by decide) ?_
      refine x_iadd (q := 20) dX11_token_19 rfl ?_
      rw [nI_1]
      refine x_put (C := RX11) (T := TX11) (N := 29) (k := 6) (q := 23) (ty := .int) tyX11_ok nmX11 mp0 (by omega) rfl hiX11 (by decide) (by decide +kernel) rfl (by decide +kernel) (fun _ => rfl) (fun _ => rfl) (Nat.le_of_ble_eq_true rfl) dX11_token_20 rfl (fun M20 w20 o20 => ?_)
      refine x_goto (q := 0) dX11_token_23 (by decide) ?_
      have hv1_1_100 := ((o20 (100) (by omega)).trans mp1)
      have hv1_2_103 := ((o20 (103) (by omega)).trans mp4)
      exact ih (i + 1) M20 (by omega) ⟨w20, hv1_1_100, hv1_2_103⟩ (fun j hj => (o20 j hj).trans (hf j hj)) (fun M' e he h1 h2 => hk M' e (by rw [tS, if_pos ⟨by omega, by rw [← lA_in (lt := lt) (show i < N by omega)]; exact c10⟩]; exact he) h1 h2)

set_option maxHeartbeats 4000000 in
set_option maxRecDepth 100000 in
theorem l_mtokW {n N : Nat} {t : Nat → Nat → Int32} {u : Nat → Nat → Int64} {lt w : Nat → Int32} {s v c : Int32} {Q : Option Value → (Nat → xE) → Prop} {M0 : Nat → xE} (hn : 113 < n) (hN : N ≤ 160) : ∀ (k i : Nat) (M : Nat → xE), i + k = N → (oR t u lt N w (nI (i)) s 1 0 v c M) → (∀ j, ¬ j = 99 → M j = M0 j) → (∀ (M' : Nat → xE), oR t u lt N w (nI (tE lt N 0 k i)) s 1 0 v c M' → (∀ j, ¬ j = 99 → M' j = M0 j) → Q none M') → X mX11_token 0 0 103 [(0, .ref 99)] [] n M (Q) := by
  have hiX11 : ∀ w ∈ wsX110, w ∈ wsX11_token := by decide +kernel
  intro k
  induction k with
  | zero =>
    intro i M hik hR hf hk
    have hR0 := hR
    obtain ⟨mp0, mp1, mp4⟩ := hR
    refine x_aload_n (q := 104) dX11_token_103 rfl rfl ?_
    refine x_getf (C := RX11) (T := TX11) (N := 29) (k := 8) (q := 107) mp0 (by omega) rfl hiX11 (by decide) (by decide +kernel) rfl dX11_token_104 rfl ?_
    refine x_if_eq (t := 131) (q := 110) dX11_token_107 (by decide) rfl (fun c107 => absurd c107 (by decide)) (fun c107 => ?_)
    refine x_aload_n (q := 111) dX11_token_110 rfl rfl ?_
    refine x_aload_n (q := 112) dX11_token_111 rfl rfl ?_
    refine x_getf (C := RX11) (T := TX11) (N := 29) (k := 6) (q := 115) mp0 (by omega) rfl hiX11 (by decide) (by decide +kernel) rfl dX11_token_112 rfl ?_
    refine x_callV (q := 118) (ci := 11) (c_m_let hn hN ⟨mp0, mp1, mp4⟩ (k := i) (by omega)) eX11_token_95 gX11_token_X11_letterAt mp0 (by omega) rfl rfl rfl (Nat.le_of_ble_eq_true rfl) ⟨Nat.le_refl _, Nat.le_refl _⟩ dX11_token_115 rfl rfl (fun r115 M115 p115 => ?_)
    obtain ⟨rfl, rfl⟩ := p115
    refine x_i2l (q := 119) dX11_token_118 rfl ?_
    refine x_ldc2 (v := 97) (q := 122) (by decide +kernel) dX11_token_119 rfl ?_
    refine x_ldc2 (v := 122) (q := 125) (by decide +kernel) dX11_token_122 rfl ?_
    refine x_callS (q := 128) c_m_in eX11_token_65 gX11_token_X11_in rfl (Nat.le_of_ble_eq_true rfl) ⟨Nat.le_refl _, Nat.le_refl _⟩ dX11_token_125 rfl rfl (fun r125 M125 p125 => ?_)
    obtain ⟨rfl, p125⟩ := p125
    rcases p125 with ⟨b125, rfl⟩ | ⟨b125, rfl⟩
    · refine x_if_ne (t := 159) (q := 131) dX11_token_128 (by decide) rfl (fun c128 => ?_) (fun c128 => absurd c128 (by decide))
      exact absurd (in_W.mp b125) (by rw [lA_out (by omega), kd_m1]; decide)
    · refine x_if_ne (t := 159) (q := 131) dX11_token_128 (by decide) rfl (fun c128 => absurd c128 (by decide)) (fun c128 => ?_)
      refine x_aload_n (q := 132) dX11_token_131 rfl rfl ?_
      refine x_getf (C := RX11) (T := TX11) (N := 29) (k := 9) (q := 135) mp0 (by omega) rfl hiX11 (by decide) (by decide +kernel) rfl dX11_token_132 rfl ?_
      refine x_if_eq (t := 172) (q := 138) dX11_token_135 (by decide) rfl (fun c135 => ?_) (fun c135 => absurd rfl c135)
      refine x_vret dX11_token_172 rfl rfl (Nat.le_refl _) ?_
      exact hk M hR0 hf
  | succ k ih =>
    intro i M hik hR hf hk
    have hR0 := hR
    obtain ⟨mp0, mp1, mp4⟩ := hR
    refine x_aload_n (q := 104) dX11_token_103 rfl rfl ?_
    refine x_getf (C := RX11) (T := TX11) (N := 29) (k := 8) (q := 107) mp0 (by omega) rfl hiX11 (by decide) (by decide +kernel) rfl dX11_token_104 rfl ?_
    refine x_if_eq (t := 131) (q := 110) dX11_token_107 (by decide) rfl (fun c107 => absurd c107 (by decide)) (fun c107 => ?_)
    refine x_aload_n (q := 111) dX11_token_110 rfl rfl ?_
    refine x_aload_n (q := 112) dX11_token_111 rfl rfl ?_
    refine x_getf (C := RX11) (T := TX11) (N := 29) (k := 6) (q := 115) mp0 (by omega) rfl hiX11 (by decide) (by decide +kernel) rfl dX11_token_112 rfl ?_
    refine x_callV (q := 118) (ci := 11) (c_m_let hn hN ⟨mp0, mp1, mp4⟩ (k := i) (by omega)) eX11_token_95 gX11_token_X11_letterAt mp0 (by omega) rfl rfl rfl (Nat.le_of_ble_eq_true rfl) ⟨Nat.le_refl _, Nat.le_refl _⟩ dX11_token_115 rfl rfl (fun r115 M115 p115 => ?_)
    obtain ⟨rfl, rfl⟩ := p115
    refine x_i2l (q := 119) dX11_token_118 rfl ?_
    refine x_ldc2 (v := 97) (q := 122) (by decide +kernel) dX11_token_119 rfl ?_
    refine x_ldc2 (v := 122) (q := 125) (by decide +kernel) dX11_token_122 rfl ?_
    refine x_callS (q := 128) c_m_in eX11_token_65 gX11_token_X11_in rfl (Nat.le_of_ble_eq_true rfl) ⟨Nat.le_refl _, Nat.le_refl _⟩ dX11_token_125 rfl rfl (fun r125 M125 p125 => ?_)
    obtain ⟨rfl, p125⟩ := p125
    rcases p125 with ⟨b125, rfl⟩ | ⟨b125, rfl⟩
    · have hkd : kd (lA lt N i) = 0 := in_W.mp b125
      refine x_if_ne (t := 159) (q := 131) dX11_token_128 (by decide) rfl (fun c128 => ?_) (fun c128 => absurd c128 (by decide))
      refine x_aload_n (q := 160) dX11_token_159 rfl rfl ?_
      refine x_dup (q := 161) dX11_token_160 rfl rfl ?_
      refine x_getf (C := RX11) (T := TX11) (N := 29) (k := 6) (q := 164) mp0 (by omega) rfl hiX11 (by decide) (by decide +kernel) rfl dX11_token_161 rfl ?_
      refine x_iconst (v := 1) (q := 165) dX11_token_164 rfl (by decide) ?_
      refine x_iadd (q := 166) dX11_token_165 rfl ?_
      rw [nI_1]
      refine x_put (C := RX11) (T := TX11) (N := 29) (k := 6) (q := 169) (ty := .int) tyX11_ok nmX11 mp0 (by omega) rfl hiX11 (by decide) (by decide +kernel) rfl (by decide +kernel) (fun _ => rfl) (fun _ => rfl) (Nat.le_of_ble_eq_true rfl) dX11_token_166 rfl (fun M166 w166 o166 => ?_)
      refine x_goto (q := 103) dX11_token_169 (by decide) ?_
      have hv1_1_100 := ((o166 (100) (by omega)).trans mp1)
      have hv1_2_103 := ((o166 (103) (by omega)).trans mp4)
      exact ih (i + 1) M166 (by omega) ⟨w166, hv1_1_100, hv1_2_103⟩ (fun j hj => (o166 j hj).trans (hf j hj)) (fun M' h1 h2 => hk M' (by rw [tE, if_pos ⟨by omega, by rw [← lA_in (lt := lt) (show i < N by omega)]; exact hkd⟩]; exact h1) h2)
    · have hkd : ¬ kd (lA lt N i) = 0 := fun h => b125 (in_W.mpr h)
      refine x_if_ne (t := 159) (q := 131) dX11_token_128 (by decide) rfl (fun c128 => absurd c128 (by decide)) (fun c128 => ?_)
      refine x_aload_n (q := 132) dX11_token_131 rfl rfl ?_
      refine x_getf (C := RX11) (T := TX11) (N := 29) (k := 9) (q := 135) mp0 (by omega) rfl hiX11 (by decide) (by decide +kernel) rfl dX11_token_132 rfl ?_
      refine x_if_eq (t := 172) (q := 138) dX11_token_135 (by decide) rfl (fun c135 => ?_) (fun c135 => absurd rfl c135)
      refine x_vret dX11_token_172 rfl rfl (Nat.le_refl _) ?_
      exact hk M (by rw [tE, if_neg (fun h => hkd (by rw [lA_in h.1]; exact h.2))]; exact hR0) hf

set_option maxHeartbeats 4000000 in
set_option maxRecDepth 100000 in
theorem l_mtokN {n N : Nat} {t : Nat → Nat → Int32} {u : Nat → Nat → Int64} {lt w : Nat → Int32} {s v c : Int32} {Q : Option Value → (Nat → xE) → Prop} {M0 : Nat → xE} (hn : 113 < n) (hN : N ≤ 160) : ∀ (k i : Nat) (M : Nat → xE), i + k = N → (oR t u lt N w (nI (i)) s 0 1 v c M) → (∀ j, ¬ j = 99 → M j = M0 j) → (∀ (M' : Nat → xE), oR t u lt N w (nI (tE lt N 1 k i)) s 0 1 v c M' → (∀ j, ¬ j = 99 → M' j = M0 j) → Q none M') → X mX11_token 0 0 103 [(0, .ref 99)] [] n M (Q) := by
  have hiX11 : ∀ w ∈ wsX110, w ∈ wsX11_token := by decide +kernel
  intro k
  induction k with
  | zero =>
    intro i M hik hR hf hk
    have hR0 := hR
    obtain ⟨mp0, mp1, mp4⟩ := hR
    refine x_aload_n (q := 104) dX11_token_103 rfl rfl ?_
    refine x_getf (C := RX11) (T := TX11) (N := 29) (k := 8) (q := 107) mp0 (by omega) rfl hiX11 (by decide) (by decide +kernel) rfl dX11_token_104 rfl ?_
    refine x_if_eq (t := 131) (q := 110) dX11_token_107 (by decide) rfl (fun c107 => ?_) (fun c107 => absurd rfl c107)
    refine x_aload_n (q := 132) dX11_token_131 rfl rfl ?_
    refine x_getf (C := RX11) (T := TX11) (N := 29) (k := 9) (q := 135) mp0 (by omega) rfl hiX11 (by decide) (by decide +kernel) rfl dX11_token_132 rfl ?_
    refine x_if_eq (t := 172) (q := 138) dX11_token_135 (by decide) rfl (fun c135 => absurd c135 (by decide)) (fun c135 => ?_)
    refine x_aload_n (q := 139) dX11_token_138 rfl rfl ?_
    refine x_aload_n (q := 140) dX11_token_139 rfl rfl ?_
    refine x_getf (C := RX11) (T := TX11) (N := 29) (k := 6) (q := 143) mp0 (by omega) rfl hiX11 (by decide) (by decide +kernel) rfl dX11_token_140 rfl ?_
    refine x_callV (q := 146) (ci := 11) (c_m_let hn hN ⟨mp0, mp1, mp4⟩ (k := i) (by omega)) eX11_token_95 gX11_token_X11_letterAt mp0 (by omega) rfl rfl rfl (Nat.le_of_ble_eq_true rfl) ⟨Nat.le_refl _, Nat.le_refl _⟩ dX11_token_143 rfl rfl (fun r143 M143 p143 => ?_)
    obtain ⟨rfl, rfl⟩ := p143
    refine x_i2l (q := 147) dX11_token_146 rfl ?_
    refine x_ldc2 (v := 48) (q := 150) (by decide +kernel) dX11_token_147 rfl ?_
    refine x_ldc2 (v := 57) (q := 153) (by decide +kernel) dX11_token_150 rfl ?_
    refine x_callS (q := 156) c_m_in eX11_token_65 gX11_token_X11_in rfl (Nat.le_of_ble_eq_true rfl) ⟨Nat.le_refl _, Nat.le_refl _⟩ dX11_token_153 rfl rfl (fun r153 M153 p153 => ?_)
    obtain ⟨rfl, p153⟩ := p153
    rcases p153 with ⟨b153, rfl⟩ | ⟨b153, rfl⟩
    · refine x_if_eq (t := 172) (q := 159) dX11_token_156 (by decide) rfl (fun c156 => absurd c156 (by decide)) (fun c156 => ?_)
      exact absurd (in_D.mp b153) (by rw [lA_out (by omega), kd_m1]; decide)
    · refine x_if_eq (t := 172) (q := 159) dX11_token_156 (by decide) rfl (fun c156 => ?_) (fun c156 => absurd c156 (by decide))
      refine x_vret dX11_token_172 rfl rfl (Nat.le_refl _) ?_
      exact hk M hR0 hf
  | succ k ih =>
    intro i M hik hR hf hk
    have hR0 := hR
    obtain ⟨mp0, mp1, mp4⟩ := hR
    refine x_aload_n (q := 104) dX11_token_103 rfl rfl ?_
    refine x_getf (C := RX11) (T := TX11) (N := 29) (k := 8) (q := 107) mp0 (by omega) rfl hiX11 (by decide) (by decide +kernel) rfl dX11_token_104 rfl ?_
    refine x_if_eq (t := 131) (q := 110) dX11_token_107 (by decide) rfl (fun c107 => ?_) (fun c107 => absurd rfl c107)
    refine x_aload_n (q := 132) dX11_token_131 rfl rfl ?_
    refine x_getf (C := RX11) (T := TX11) (N := 29) (k := 9) (q := 135) mp0 (by omega) rfl hiX11 (by decide) (by decide +kernel) rfl dX11_token_132 rfl ?_
    refine x_if_eq (t := 172) (q := 138) dX11_token_135 (by decide) rfl (fun c135 => absurd c135 (by decide)) (fun c135 => ?_)
    refine x_aload_n (q := 139) dX11_token_138 rfl rfl ?_
    refine x_aload_n (q := 140) dX11_token_139 rfl rfl ?_
    refine x_getf (C := RX11) (T := TX11) (N := 29) (k := 6) (q := 143) mp0 (by omega) rfl hiX11 (by decide) (by decide +kernel) rfl dX11_token_140 rfl ?_
    refine x_callV (q := 146) (ci := 11) (c_m_let hn hN ⟨mp0, mp1, mp4⟩ (k := i) (by omega)) eX11_token_95 gX11_token_X11_letterAt mp0 (by omega) rfl rfl rfl (Nat.le_of_ble_eq_true rfl) ⟨Nat.le_refl _, Nat.le_refl _⟩ dX11_token_143 rfl rfl (fun r143 M143 p143 => ?_)
    obtain ⟨rfl, rfl⟩ := p143
    refine x_i2l (q := 147) dX11_token_146 rfl ?_
    refine x_ldc2 (v := 48) (q := 150) (by decide +kernel) dX11_token_147 rfl ?_
    refine x_ldc2 (v := 57) (q := 153) (by decide +kernel) dX11_token_150 rfl ?_
    refine x_callS (q := 156) c_m_in eX11_token_65 gX11_token_X11_in rfl (Nat.le_of_ble_eq_true rfl) ⟨Nat.le_refl _, Nat.le_refl _⟩ dX11_token_153 rfl rfl (fun r153 M153 p153 => ?_)
    obtain ⟨rfl, p153⟩ := p153
    rcases p153 with ⟨b153, rfl⟩ | ⟨b153, rfl⟩
    · have hkd : kd (lA lt N i) = 1 := in_D.mp b153
      refine x_if_eq (t := 172) (q := 159) dX11_token_156 (by decide) rfl (fun c156 => absurd c156 (by decide)) (fun c156 => ?_)
      refine x_aload_n (q := 160) dX11_token_159 rfl rfl ?_
      refine x_dup (q := 161) dX11_token_160 rfl rfl ?_
      refine x_getf (C := RX11) (T := TX11) (N := 29) (k := 6) (q := 164) mp0 (by omega) rfl hiX11 (by decide) (by decide +kernel) rfl dX11_token_161 rfl ?_
      refine x_iconst (v := 1) (q := 165) dX11_token_164 rfl (by decide) ?_
      refine x_iadd (q := 166) dX11_token_165 rfl ?_
      rw [nI_1]
      refine x_put (C := RX11) (T := TX11) (N := 29) (k := 6) (q := 169) (ty := .int) tyX11_ok nmX11 mp0 (by omega) rfl hiX11 (by decide) (by decide +kernel) rfl (by decide +kernel) (fun _ => rfl) (fun _ => rfl) (Nat.le_of_ble_eq_true rfl) dX11_token_166 rfl (fun M166 w166 o166 => ?_)
      refine x_goto (q := 103) dX11_token_169 (by decide) ?_
      have hv1_1_100 := ((o166 (100) (by omega)).trans mp1)
      have hv1_2_103 := ((o166 (103) (by omega)).trans mp4)
      exact ih (i + 1) M166 (by omega) ⟨w166, hv1_1_100, hv1_2_103⟩ (fun j hj => (o166 j hj).trans (hf j hj)) (fun M' h1 h2 => hk M' (by rw [tE, if_pos ⟨by omega, by rw [← lA_in (lt := lt) (show i < N by omega)]; exact hkd⟩]; exact h1) h2)
    · have hkd : ¬ kd (lA lt N i) = 1 := fun h => b153 (in_D.mpr h)
      refine x_if_eq (t := 172) (q := 159) dX11_token_156 (by decide) rfl (fun c156 => ?_) (fun c156 => absurd c156 (by decide))
      refine x_vret dX11_token_172 rfl rfl (Nat.le_refl _) ?_
      exact hk M (by rw [tE, if_neg (fun h => hkd (by rw [lA_in h.1]; exact h.2))]; exact hR0) hf

set_option maxHeartbeats 4000000 in
set_option maxRecDepth 100000 in
theorem c_m_token {n N : Nat} {M : Nat → xE} {t : Nat → Nat → Int32} {u : Nat → Nat → Int64} {lt w : Nat → Int32} {s iw ib v c : Int32} {q : Nat} (hn : 113 < n) (hN : N ≤ 160) (hq : q ≤ N) (hR : oR t u lt N w (nI q) s iw ib v c M) : xMet mX11_token [.ref 99] n M (fun r M' => none = r ∧ oR t u lt N w (nI (tkE lt N q)) (nI (tsp lt N q)) (kw (tkK lt N q)) (kn (tkK lt N q)) v c M' ∧ ∀ j, ¬ j = 99 → M' j = M j) := by
  have hiX11 : ∀ w ∈ wsX110, w ∈ wsX11_token := by decide +kernel
  refine xMet.of _ (by decide) rfl (Nat.le_of_ble_eq_true rfl) ?_
  refine l_mtok1 (M0 := M) hn hN (N - q) q M (by omega) hR (fun j _ => rfl) (fun M1 e he hR1 hf1 => ?_)
  have hS : tsp lt N q = e := he.symm
  have hb := tsp_b lt hq
  rw [hS] at hb
  obtain ⟨mp0, mp1, mp4⟩ := hR1
  refine x_aload_n (q := 27) dX11_token_26 rfl rfl ?_
  refine x_aload_n (q := 28) dX11_token_27 rfl rfl ?_
  refine x_getf (C := RX11) (T := TX11) (N := 29) (k := 6) (q := 31) mp0 (by omega) rfl hiX11 (by decide) (by decide +kernel) rfl dX11_token_28 rfl ?_
  refine x_put (C := RX11) (T := TX11) (N := 29) (k := 7) (q := 34) (ty := .int) tyX11_ok nmX11 mp0 (by omega) rfl hiX11 (by decide) (by decide +kernel) rfl (by decide +kernel) (fun _ => rfl) (fun _ => rfl) (Nat.le_of_ble_eq_true rfl) dX11_token_31 rfl (fun M31 w31 o31 => ?_)
  refine x_aload_n (q := 35) dX11_token_34 rfl rfl ?_
  refine x_aload_n (q := 36) dX11_token_35 rfl rfl ?_
  refine x_aload_n (q := 37) dX11_token_36 rfl rfl ?_
  refine x_getf (C := RX11) (T := TX11) (N := 29) (k := 6) (q := 40) w31 (by omega) rfl hiX11 (by decide) (by decide +kernel) rfl dX11_token_37 rfl ?_
  have hv1_1_100 := ((o31 (100) (by omega)).trans mp1)
  have hv1_2_103 := ((o31 (103) (by omega)).trans mp4)
  refine x_callV (q := 43) (ci := 11) (c_m_let hn hN ⟨w31, hv1_1_100, hv1_2_103⟩ (k := e) (by omega)) eX11_token_95 gX11_token_X11_letterAt w31 (by omega) rfl rfl rfl (Nat.le_of_ble_eq_true rfl) ⟨Nat.le_refl _, Nat.le_refl _⟩ dX11_token_40 rfl rfl (fun r40 M40 p40 => ?_)
  obtain ⟨rfl, rfl⟩ := p40
  refine x_i2l (q := 44) dX11_token_43 rfl ?_
  refine x_ldc2 (v := 97) (q := 47) (by decide +kernel) dX11_token_44 rfl ?_
  refine x_ldc2 (v := 122) (q := 50) (by decide +kernel) dX11_token_47 rfl ?_
  refine x_callS (q := 53) c_m_in eX11_token_65 gX11_token_X11_in rfl (Nat.le_of_ble_eq_true rfl) ⟨Nat.le_refl _, Nat.le_refl _⟩ dX11_token_50 rfl rfl (fun r50 M50 p50 => ?_)
  obtain ⟨rfl, p50⟩ := p50
  rcases p50 with ⟨b50, rfl⟩ | ⟨b50, rfl⟩
  · refine x_put (C := RX11) (T := TX11) (N := 29) (k := 8) (q := 56) (ty := .boolean) tyX11_ok nmX11 w31 (by omega) rfl hiX11 (by decide) (by decide +kernel) rfl (by decide +kernel) (fun _ => rfl) (fun _ => rfl) (Nat.le_of_ble_eq_true rfl) dX11_token_53 rfl (fun M53 w53 o53 => ?_)
    refine x_aload_n (q := 57) dX11_token_56 rfl rfl ?_
    refine x_aload_n (q := 58) dX11_token_57 rfl rfl ?_
    refine x_aload_n (q := 59) dX11_token_58 rfl rfl ?_
    refine x_getf (C := RX11) (T := TX11) (N := 29) (k := 6) (q := 62) w53 (by omega) rfl hiX11 (by decide) (by decide +kernel) rfl dX11_token_59 rfl ?_
    have hv2_3_100 := ((o53 (100) (by omega)).trans hv1_1_100)
    have hv2_4_103 := ((o53 (103) (by omega)).trans hv1_2_103)
    refine x_callV (q := 65) (ci := 11) (c_m_let hn hN ⟨w53, hv2_3_100, hv2_4_103⟩ (k := e) (by omega)) eX11_token_95 gX11_token_X11_letterAt w53 (by omega) rfl rfl rfl (Nat.le_of_ble_eq_true rfl) ⟨Nat.le_refl _, Nat.le_refl _⟩ dX11_token_62 rfl rfl (fun r62 M62 p62 => ?_)
    obtain ⟨rfl, rfl⟩ := p62
    refine x_i2l (q := 66) dX11_token_65 rfl ?_
    refine x_ldc2 (v := 48) (q := 69) (by decide +kernel) dX11_token_66 rfl ?_
    refine x_ldc2 (v := 57) (q := 72) (by decide +kernel) dX11_token_69 rfl ?_
    refine x_callS (q := 75) c_m_in eX11_token_65 gX11_token_X11_in rfl (Nat.le_of_ble_eq_true rfl) ⟨Nat.le_refl _, Nat.le_refl _⟩ dX11_token_72 rfl rfl (fun r72 M72 p72 => ?_)
    obtain ⟨rfl, p72⟩ := p72
    rcases p72 with ⟨b72, rfl⟩ | ⟨b72, rfl⟩
    · refine x_put (C := RX11) (T := TX11) (N := 29) (k := 9) (q := 78) (ty := .boolean) tyX11_ok nmX11 w53 (by omega) rfl hiX11 (by decide) (by decide +kernel) rfl (by decide +kernel) (fun _ => rfl) (fun _ => rfl) (Nat.le_of_ble_eq_true rfl) dX11_token_75 rfl (fun M75 w75 o75 => ?_)
      refine x_aload_n (q := 79) dX11_token_78 rfl rfl ?_
      refine x_dup (q := 80) dX11_token_79 rfl rfl ?_
      refine x_getf (C := RX11) (T := TX11) (N := 29) (k := 6) (q := 83) w75 (by omega) rfl hiX11 (by decide) (by decide +kernel) rfl dX11_token_80 rfl ?_
      refine x_aload_n (q := 84) dX11_token_83 rfl rfl ?_
      refine x_getf (C := RX11) (T := TX11) (N := 29) (k := 6) (q := 87) w75 (by omega) rfl hiX11 (by decide) (by decide +kernel) rfl dX11_token_84 rfl ?_
      refine x_aload_n (q := 88) dX11_token_87 rfl rfl ?_
      refine x_getf (C := RX11) (T := TX11) (N := 29) (k := 5) (q := 91) w75 (by omega) rfl hiX11 (by decide) (by decide +kernel) rfl dX11_token_88 rfl ?_
      refine x_icmp_ge (t := 98) (q := 94) dX11_token_91 (by decide) rfl (fun c91 => ?_) (fun c91 => ?_)
      · have hlt : ¬ e < N := fun h => absurd c91 (nI_ge h (by omega))
        refine x_iconst (v := 0) (q := 99) dX11_token_98 rfl (by decide) ?_
        refine x_iadd (q := 100) dX11_token_99 rfl ?_
        rw [Int32.add_zero]
        refine x_put (C := RX11) (T := TX11) (N := 29) (k := 6) (q := 103) (ty := .int) tyX11_ok nmX11 w75 (by omega) rfl hiX11 (by decide) (by decide +kernel) rfl (by decide +kernel) (fun _ => rfl) (fun _ => rfl) (Nat.le_of_ble_eq_true rfl) dX11_token_100 rfl (fun M100 w100 o100 => ?_)
        have hv4_5_100 := ((o100 (100) (by omega)).trans ((o75 (100) (by omega)).trans hv2_3_100))
        have hv4_6_103 := ((o100 (103) (by omega)).trans ((o75 (103) (by omega)).trans hv2_4_103))
        exact absurd ((in_W.mp b50).symm.trans (in_D.mp b72)) (by decide)
      · have hlt : e < N := Nat.lt_of_not_le (fun h => c91 (nI_le h (by omega)))
        refine x_iconst (v := 1) (q := 95) dX11_token_94 rfl (by decide) ?_
        refine x_goto (q := 99) dX11_token_95 (by decide) ?_
        refine x_iadd (q := 100) dX11_token_99 rfl ?_
        rw [nI_1]
        refine x_put (C := RX11) (T := TX11) (N := 29) (k := 6) (q := 103) (ty := .int) tyX11_ok nmX11 w75 (by omega) rfl hiX11 (by decide) (by decide +kernel) rfl (by decide +kernel) (fun _ => rfl) (fun _ => rfl) (Nat.le_of_ble_eq_true rfl) dX11_token_100 rfl (fun M100 w100 o100 => ?_)
        have hv4_5_100 := ((o100 (100) (by omega)).trans ((o75 (100) (by omega)).trans hv2_3_100))
        have hv4_6_103 := ((o100 (103) (by omega)).trans ((o75 (103) (by omega)).trans hv2_4_103))
        exact absurd ((in_W.mp b50).symm.trans (in_D.mp b72)) (by decide)
    · refine x_put (C := RX11) (T := TX11) (N := 29) (k := 9) (q := 78) (ty := .boolean) tyX11_ok nmX11 w53 (by omega) rfl hiX11 (by decide) (by decide +kernel) rfl (by decide +kernel) (fun _ => rfl) (fun _ => rfl) (Nat.le_of_ble_eq_true rfl) dX11_token_75 rfl (fun M75 w75 o75 => ?_)
      refine x_aload_n (q := 79) dX11_token_78 rfl rfl ?_
      refine x_dup (q := 80) dX11_token_79 rfl rfl ?_
      refine x_getf (C := RX11) (T := TX11) (N := 29) (k := 6) (q := 83) w75 (by omega) rfl hiX11 (by decide) (by decide +kernel) rfl dX11_token_80 rfl ?_
      refine x_aload_n (q := 84) dX11_token_83 rfl rfl ?_
      refine x_getf (C := RX11) (T := TX11) (N := 29) (k := 6) (q := 87) w75 (by omega) rfl hiX11 (by decide) (by decide +kernel) rfl dX11_token_84 rfl ?_
      refine x_aload_n (q := 88) dX11_token_87 rfl rfl ?_
      refine x_getf (C := RX11) (T := TX11) (N := 29) (k := 5) (q := 91) w75 (by omega) rfl hiX11 (by decide) (by decide +kernel) rfl dX11_token_88 rfl ?_
      refine x_icmp_ge (t := 98) (q := 94) dX11_token_91 (by decide) rfl (fun c91 => ?_) (fun c91 => ?_)
      · have hlt : ¬ e < N := fun h => absurd c91 (nI_ge h (by omega))
        refine x_iconst (v := 0) (q := 99) dX11_token_98 rfl (by decide) ?_
        refine x_iadd (q := 100) dX11_token_99 rfl ?_
        rw [Int32.add_zero]
        refine x_put (C := RX11) (T := TX11) (N := 29) (k := 6) (q := 103) (ty := .int) tyX11_ok nmX11 w75 (by omega) rfl hiX11 (by decide) (by decide +kernel) rfl (by decide +kernel) (fun _ => rfl) (fun _ => rfl) (Nat.le_of_ble_eq_true rfl) dX11_token_100 rfl (fun M100 w100 o100 => ?_)
        have hv4_5_100 := ((o100 (100) (by omega)).trans ((o75 (100) (by omega)).trans hv2_3_100))
        have hv4_6_103 := ((o100 (103) (by omega)).trans ((o75 (103) (by omega)).trans hv2_4_103))
        exact absurd (in_W.mp b50) (by rw [lA_out (by omega), kd_m1]; decide)
      · have hlt : e < N := Nat.lt_of_not_le (fun h => c91 (nI_le h (by omega)))
        refine x_iconst (v := 1) (q := 95) dX11_token_94 rfl (by decide) ?_
        refine x_goto (q := 99) dX11_token_95 (by decide) ?_
        refine x_iadd (q := 100) dX11_token_99 rfl ?_
        rw [nI_1]
        refine x_put (C := RX11) (T := TX11) (N := 29) (k := 6) (q := 103) (ty := .int) tyX11_ok nmX11 w75 (by omega) rfl hiX11 (by decide) (by decide +kernel) rfl (by decide +kernel) (fun _ => rfl) (fun _ => rfl) (Nat.le_of_ble_eq_true rfl) dX11_token_100 rfl (fun M100 w100 o100 => ?_)
        have hv4_5_100 := ((o100 (100) (by omega)).trans ((o75 (100) (by omega)).trans hv2_3_100))
        have hv4_6_103 := ((o100 (103) (by omega)).trans ((o75 (103) (by omega)).trans hv2_4_103))
        have hK : tkK lt N q = 0 := kd_lA.1.mp (by rw [hS]; exact in_W.mp b50)
        have hK2 : kd (lt (tsp lt N q)) = 0 := by have h9 := hK; unfold tkK at h9; rw [if_pos (by omega)] at h9; exact h9
        have hE : tkE lt N q = tE lt N 0 (N - (e + 1)) (e + 1) := by unfold tkE; rw [if_pos (by omega), hK2, if_neg (by decide), hS]
        exact l_mtokW (M0 := M) hn hN (N - (e + 1)) (e + 1) M100 (by omega) ⟨w100, hv4_5_100, hv4_6_103⟩ (fun j hj => ((o100 j hj).trans ((o75 j hj).trans ((o53 j hj).trans ((o31 j hj).trans (hf1 j hj)))))) (fun M' h1 h2 => ⟨rfl, by rw [hE, hS, hK]; exact h1, h2⟩)
  · refine x_put (C := RX11) (T := TX11) (N := 29) (k := 8) (q := 56) (ty := .boolean) tyX11_ok nmX11 w31 (by omega) rfl hiX11 (by decide) (by decide +kernel) rfl (by decide +kernel) (fun _ => rfl) (fun _ => rfl) (Nat.le_of_ble_eq_true rfl) dX11_token_53 rfl (fun M53 w53 o53 => ?_)
    refine x_aload_n (q := 57) dX11_token_56 rfl rfl ?_
    refine x_aload_n (q := 58) dX11_token_57 rfl rfl ?_
    refine x_aload_n (q := 59) dX11_token_58 rfl rfl ?_
    refine x_getf (C := RX11) (T := TX11) (N := 29) (k := 6) (q := 62) w53 (by omega) rfl hiX11 (by decide) (by decide +kernel) rfl dX11_token_59 rfl ?_
    have hv2_3_100 := ((o53 (100) (by omega)).trans hv1_1_100)
    have hv2_4_103 := ((o53 (103) (by omega)).trans hv1_2_103)
    refine x_callV (q := 65) (ci := 11) (c_m_let hn hN ⟨w53, hv2_3_100, hv2_4_103⟩ (k := e) (by omega)) eX11_token_95 gX11_token_X11_letterAt w53 (by omega) rfl rfl rfl (Nat.le_of_ble_eq_true rfl) ⟨Nat.le_refl _, Nat.le_refl _⟩ dX11_token_62 rfl rfl (fun r62 M62 p62 => ?_)
    obtain ⟨rfl, rfl⟩ := p62
    refine x_i2l (q := 66) dX11_token_65 rfl ?_
    refine x_ldc2 (v := 48) (q := 69) (by decide +kernel) dX11_token_66 rfl ?_
    refine x_ldc2 (v := 57) (q := 72) (by decide +kernel) dX11_token_69 rfl ?_
    refine x_callS (q := 75) c_m_in eX11_token_65 gX11_token_X11_in rfl (Nat.le_of_ble_eq_true rfl) ⟨Nat.le_refl _, Nat.le_refl _⟩ dX11_token_72 rfl rfl (fun r72 M72 p72 => ?_)
    obtain ⟨rfl, p72⟩ := p72
    rcases p72 with ⟨b72, rfl⟩ | ⟨b72, rfl⟩
    · refine x_put (C := RX11) (T := TX11) (N := 29) (k := 9) (q := 78) (ty := .boolean) tyX11_ok nmX11 w53 (by omega) rfl hiX11 (by decide) (by decide +kernel) rfl (by decide +kernel) (fun _ => rfl) (fun _ => rfl) (Nat.le_of_ble_eq_true rfl) dX11_token_75 rfl (fun M75 w75 o75 => ?_)
      refine x_aload_n (q := 79) dX11_token_78 rfl rfl ?_
      refine x_dup (q := 80) dX11_token_79 rfl rfl ?_
      refine x_getf (C := RX11) (T := TX11) (N := 29) (k := 6) (q := 83) w75 (by omega) rfl hiX11 (by decide) (by decide +kernel) rfl dX11_token_80 rfl ?_
      refine x_aload_n (q := 84) dX11_token_83 rfl rfl ?_
      refine x_getf (C := RX11) (T := TX11) (N := 29) (k := 6) (q := 87) w75 (by omega) rfl hiX11 (by decide) (by decide +kernel) rfl dX11_token_84 rfl ?_
      refine x_aload_n (q := 88) dX11_token_87 rfl rfl ?_
      refine x_getf (C := RX11) (T := TX11) (N := 29) (k := 5) (q := 91) w75 (by omega) rfl hiX11 (by decide) (by decide +kernel) rfl dX11_token_88 rfl ?_
      refine x_icmp_ge (t := 98) (q := 94) dX11_token_91 (by decide) rfl (fun c91 => ?_) (fun c91 => ?_)
      · have hlt : ¬ e < N := fun h => absurd c91 (nI_ge h (by omega))
        refine x_iconst (v := 0) (q := 99) dX11_token_98 rfl (by decide) ?_
        refine x_iadd (q := 100) dX11_token_99 rfl ?_
        rw [Int32.add_zero]
        refine x_put (C := RX11) (T := TX11) (N := 29) (k := 6) (q := 103) (ty := .int) tyX11_ok nmX11 w75 (by omega) rfl hiX11 (by decide) (by decide +kernel) rfl (by decide +kernel) (fun _ => rfl) (fun _ => rfl) (Nat.le_of_ble_eq_true rfl) dX11_token_100 rfl (fun M100 w100 o100 => ?_)
        have hv4_5_100 := ((o100 (100) (by omega)).trans ((o75 (100) (by omega)).trans hv2_3_100))
        have hv4_6_103 := ((o100 (103) (by omega)).trans ((o75 (103) (by omega)).trans hv2_4_103))
        exact absurd (in_D.mp b72) (by rw [lA_out (by omega), kd_m1]; decide)
      · have hlt : e < N := Nat.lt_of_not_le (fun h => c91 (nI_le h (by omega)))
        refine x_iconst (v := 1) (q := 95) dX11_token_94 rfl (by decide) ?_
        refine x_goto (q := 99) dX11_token_95 (by decide) ?_
        refine x_iadd (q := 100) dX11_token_99 rfl ?_
        rw [nI_1]
        refine x_put (C := RX11) (T := TX11) (N := 29) (k := 6) (q := 103) (ty := .int) tyX11_ok nmX11 w75 (by omega) rfl hiX11 (by decide) (by decide +kernel) rfl (by decide +kernel) (fun _ => rfl) (fun _ => rfl) (Nat.le_of_ble_eq_true rfl) dX11_token_100 rfl (fun M100 w100 o100 => ?_)
        have hv4_5_100 := ((o100 (100) (by omega)).trans ((o75 (100) (by omega)).trans hv2_3_100))
        have hv4_6_103 := ((o100 (103) (by omega)).trans ((o75 (103) (by omega)).trans hv2_4_103))
        have hK : tkK lt N q = 1 := kd_lA.2.mp (by rw [hS]; exact in_D.mp b72)
        have hK2 : kd (lt (tsp lt N q)) = 1 := by have h9 := hK; unfold tkK at h9; rw [if_pos (by omega)] at h9; exact h9
        have hE : tkE lt N q = tE lt N 1 (N - (e + 1)) (e + 1) := by unfold tkE; rw [if_pos (by omega), hK2, if_neg (by decide), hS]
        exact l_mtokN (M0 := M) hn hN (N - (e + 1)) (e + 1) M100 (by omega) ⟨w100, hv4_5_100, hv4_6_103⟩ (fun j hj => ((o100 j hj).trans ((o75 j hj).trans ((o53 j hj).trans ((o31 j hj).trans (hf1 j hj)))))) (fun M' h1 h2 => ⟨rfl, by rw [hE, hS, hK]; exact h1, h2⟩)
    · refine x_put (C := RX11) (T := TX11) (N := 29) (k := 9) (q := 78) (ty := .boolean) tyX11_ok nmX11 w53 (by omega) rfl hiX11 (by decide) (by decide +kernel) rfl (by decide +kernel) (fun _ => rfl) (fun _ => rfl) (Nat.le_of_ble_eq_true rfl) dX11_token_75 rfl (fun M75 w75 o75 => ?_)
      refine x_aload_n (q := 79) dX11_token_78 rfl rfl ?_
      refine x_dup (q := 80) dX11_token_79 rfl rfl ?_
      refine x_getf (C := RX11) (T := TX11) (N := 29) (k := 6) (q := 83) w75 (by omega) rfl hiX11 (by decide) (by decide +kernel) rfl dX11_token_80 rfl ?_
      refine x_aload_n (q := 84) dX11_token_83 rfl rfl ?_
      refine x_getf (C := RX11) (T := TX11) (N := 29) (k := 6) (q := 87) w75 (by omega) rfl hiX11 (by decide) (by decide +kernel) rfl dX11_token_84 rfl ?_
      refine x_aload_n (q := 88) dX11_token_87 rfl rfl ?_
      refine x_getf (C := RX11) (T := TX11) (N := 29) (k := 5) (q := 91) w75 (by omega) rfl hiX11 (by decide) (by decide +kernel) rfl dX11_token_88 rfl ?_
      refine x_icmp_ge (t := 98) (q := 94) dX11_token_91 (by decide) rfl (fun c91 => ?_) (fun c91 => ?_)
      · have hlt : ¬ e < N := fun h => absurd c91 (nI_ge h (by omega))
        refine x_iconst (v := 0) (q := 99) dX11_token_98 rfl (by decide) ?_
        refine x_iadd (q := 100) dX11_token_99 rfl ?_
        rw [Int32.add_zero]
        refine x_put (C := RX11) (T := TX11) (N := 29) (k := 6) (q := 103) (ty := .int) tyX11_ok nmX11 w75 (by omega) rfl hiX11 (by decide) (by decide +kernel) rfl (by decide +kernel) (fun _ => rfl) (fun _ => rfl) (Nat.le_of_ble_eq_true rfl) dX11_token_100 rfl (fun M100 w100 o100 => ?_)
        have hv4_5_100 := ((o100 (100) (by omega)).trans ((o75 (100) (by omega)).trans hv2_3_100))
        have hv4_6_103 := ((o100 (103) (by omega)).trans ((o75 (103) (by omega)).trans hv2_4_103))
        have hK : tkK lt N q = 3 := by unfold tkK; rw [if_neg (by omega)]
        have hE : tkE lt N q = e := by unfold tkE; rw [if_neg (by omega), hS]
        refine x_aload_n (q := 104) dX11_token_103 rfl rfl ?_
        refine x_getf (C := RX11) (T := TX11) (N := 29) (k := 8) (q := 107) w100 (by omega) rfl hiX11 (by decide) (by decide +kernel) rfl dX11_token_104 rfl ?_
        refine x_if_eq (t := 131) (q := 110) dX11_token_107 (by decide) rfl (fun c107 => ?_) (fun c107 => absurd rfl c107)
        refine x_aload_n (q := 132) dX11_token_131 rfl rfl ?_
        refine x_getf (C := RX11) (T := TX11) (N := 29) (k := 9) (q := 135) w100 (by omega) rfl hiX11 (by decide) (by decide +kernel) rfl dX11_token_132 rfl ?_
        refine x_if_eq (t := 172) (q := 138) dX11_token_135 (by decide) rfl (fun c135 => ?_) (fun c135 => absurd rfl c135)
        refine x_vret dX11_token_172 rfl rfl (Nat.le_refl _) ?_
        exact ⟨rfl, by rw [hE, hS, hK]; exact ⟨w100, hv4_5_100, hv4_6_103⟩, (fun j hj => ((o100 j hj).trans ((o75 j hj).trans ((o53 j hj).trans ((o31 j hj).trans (hf1 j hj))))))⟩
      · have hlt : e < N := Nat.lt_of_not_le (fun h => c91 (nI_le h (by omega)))
        refine x_iconst (v := 1) (q := 95) dX11_token_94 rfl (by decide) ?_
        refine x_goto (q := 99) dX11_token_95 (by decide) ?_
        refine x_iadd (q := 100) dX11_token_99 rfl ?_
        rw [nI_1]
        refine x_put (C := RX11) (T := TX11) (N := 29) (k := 6) (q := 103) (ty := .int) tyX11_ok nmX11 w75 (by omega) rfl hiX11 (by decide) (by decide +kernel) rfl (by decide +kernel) (fun _ => rfl) (fun _ => rfl) (Nat.le_of_ble_eq_true rfl) dX11_token_100 rfl (fun M100 w100 o100 => ?_)
        have hv4_5_100 := ((o100 (100) (by omega)).trans ((o75 (100) (by omega)).trans hv2_3_100))
        have hv4_6_103 := ((o100 (103) (by omega)).trans ((o75 (103) (by omega)).trans hv2_4_103))
        have hk0 : ¬ tkK lt N q = 0 := fun h => b50 (in_W.mpr (by rw [← hS]; exact kd_lA.1.mpr h))
        have hk1 : ¬ tkK lt N q = 1 := fun h => b72 (in_D.mpr (by rw [← hS]; exact kd_lA.2.mpr h))
        have hK : tkK lt N q = 2 := by have h9 := kd_lt (lt (tsp lt N q)); unfold tkK at hk0 hk1 ⊢; rw [if_pos (by omega)] at hk0 hk1 ⊢; omega
        have hE : tkE lt N q = e + 1 := by have h9 := hK; unfold tkK at h9; rw [if_pos (by omega)] at h9; unfold tkE; rw [if_pos (by omega), if_pos h9, hS]
        refine x_aload_n (q := 104) dX11_token_103 rfl rfl ?_
        refine x_getf (C := RX11) (T := TX11) (N := 29) (k := 8) (q := 107) w100 (by omega) rfl hiX11 (by decide) (by decide +kernel) rfl dX11_token_104 rfl ?_
        refine x_if_eq (t := 131) (q := 110) dX11_token_107 (by decide) rfl (fun c107 => ?_) (fun c107 => absurd rfl c107)
        refine x_aload_n (q := 132) dX11_token_131 rfl rfl ?_
        refine x_getf (C := RX11) (T := TX11) (N := 29) (k := 9) (q := 135) w100 (by omega) rfl hiX11 (by decide) (by decide +kernel) rfl dX11_token_132 rfl ?_
        refine x_if_eq (t := 172) (q := 138) dX11_token_135 (by decide) rfl (fun c135 => ?_) (fun c135 => absurd rfl c135)
        refine x_vret dX11_token_172 rfl rfl (Nat.le_refl _) ?_
        exact ⟨rfl, by rw [hE, hS, hK]; exact ⟨w100, hv4_5_100, hv4_6_103⟩, (fun j hj => ((o100 j hj).trans ((o75 j hj).trans ((o53 j hj).trans ((o31 j hj).trans (hf1 j hj))))))⟩

