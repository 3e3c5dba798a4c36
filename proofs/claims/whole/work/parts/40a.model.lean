theorem nIs {a b : Int32} {m k : Nat} (ha : a = nI m) (hb : b = nI k) : a + b = nI (m + k) := by rw [ha, hb, nI_add]
theorem nIm {a b : Int32} {m k : Nat} (ha : a = nI m) (hb : b = nI k) : a * b = nI (m * k) := by rw [ha, hb]; exact (Int32.ofNat_mul m k).symm
theorem ixI {x : Int32} {k N : Nat} (h : x = nI k) (hk : k < N) (hN : N < 2 ^ 31) : vp_in x N := by rw [h]; exact vp_in_nI hk hN
theorem ixC {x : Int32} {k : Nat} (h : x = nI k) (hk : k < 2 ^ 31) : x.toNatClampNeg = k := by rw [h]; exact nI_clamp hk
theorem lcmp_gt {x y : Int64} : 0 < lg_cmp x y ↔ y < x := by
  unfold lg_cmp
  by_cases h : x > y
  · rw [if_pos h]; exact ⟨fun _ => h, fun _ => by decide⟩
  · rw [if_neg h]
    refine ⟨fun h2 => ?_, fun h2 => absurd h2 h⟩
    split at h2 <;> exact absurd h2 (by decide)
theorem lcmp_lt {x y : Int64} : lg_cmp x y < 0 ↔ x < y := by
  unfold lg_cmp
  by_cases h : x > y
  · rw [if_pos h]
    refine ⟨fun h2 => absurd h2 (by decide), fun h2 => ?_⟩
    have h3 : y < x := h
    rw [fa_lt64] at h2 h3; omega
  · rw [if_neg h]
    by_cases e : x = y
    · rw [if_pos e]
      refine ⟨fun h2 => absurd h2 (by decide), fun h2 => ?_⟩
      rw [e, fa_lt64] at h2; omega
    · rw [if_neg e]
      refine ⟨fun _ => ?_, fun _ => by decide⟩
      have h3 : ¬ y < x := h
      rw [fa_lt64] at h3 ⊢
      rw [fa_eq64] at e
      omega
theorem nlt64 {x y : Int64} (h : ¬ x < y) : y ≤ x := by rw [fa_lt64] at h; rw [fa_le64]; omega
set_option maxHeartbeats 4000000 in
set_option maxRecDepth 100000 in
theorem c_m_in {n : Nat} {M : Nat → xE} {a b c : Int64} : xMet mX11_in [.long a, .long b, .long c] n M (fun r M' => M = M' ∧ xB (b ≤ a ∧ a ≤ c) r) := by
  refine xMet.of _ (by decide) rfl (Nat.le_of_ble_eq_true rfl) ?_
  refine x_lload_n (q := 1) dX11_in_0 rfl rfl ?_
  refine x_lload_n (q := 2) dX11_in_1 rfl rfl ?_
  refine x_lcmp (q := 3) dX11_in_2 rfl ?_
  refine x_if_lt (t := 17) (q := 6) dX11_in_3 (by decide) rfl (fun c3 => ?_) (fun c3 => ?_)
  · refine x_iconst (v := 0) (q := 18) dX11_in_17 rfl (by decide) ?_
    refine x_zret dX11_in_18 rfl rfl rfl (Nat.le_refl _) ?_
    refine ⟨rfl, ?_⟩
    first
      | exact Or.inr ⟨fun h => by have h1 := lcmp_lt.mp c3; rw [fa_lt64] at h1; rw [fa_le64] at h; omega, rfl⟩
      | exact Or.inr ⟨fun h => by have h1 := lcmp_gt.mp c10; have h2 := h.2; rw [fa_lt64] at h1; rw [fa_le64] at h2; omega, rfl⟩
      | exact Or.inl ⟨⟨nlt64 (fun h => c3 (lcmp_lt.mpr h)), nlt64 (fun h => c10 (lcmp_gt.mpr h))⟩, rfl⟩
  · refine x_lload_n (q := 7) dX11_in_6 rfl rfl ?_
    refine x_lload (q := 9) dX11_in_7 rfl rfl ?_
    refine x_lcmp (q := 10) dX11_in_9 rfl ?_
    refine x_if_gt (t := 17) (q := 13) dX11_in_10 (by decide) rfl (fun c10 => ?_) (fun c10 => ?_)
    · refine x_iconst (v := 0) (q := 18) dX11_in_17 rfl (by decide) ?_
      refine x_zret dX11_in_18 rfl rfl rfl (Nat.le_refl _) ?_
      refine ⟨rfl, ?_⟩
      first
        | exact Or.inr ⟨fun h => by have h1 := lcmp_lt.mp c3; rw [fa_lt64] at h1; rw [fa_le64] at h; omega, rfl⟩
        | exact Or.inr ⟨fun h => by have h1 := lcmp_gt.mp c10; have h2 := h.2; rw [fa_lt64] at h1; rw [fa_le64] at h2; omega, rfl⟩
        | exact Or.inl ⟨⟨nlt64 (fun h => c3 (lcmp_lt.mpr h)), nlt64 (fun h => c10 (lcmp_gt.mpr h))⟩, rfl⟩
    · refine x_iconst (v := 1) (q := 14) dX11_in_13 rfl (by decide) ?_
      refine x_goto (q := 18) dX11_in_14 (by decide) ?_
      refine x_zret dX11_in_18 rfl rfl rfl (Nat.le_refl _) ?_
      refine ⟨rfl, ?_⟩
      first
        | exact Or.inr ⟨fun h => by have h1 := lcmp_lt.mp c3; rw [fa_lt64] at h1; rw [fa_le64] at h; omega, rfl⟩
        | exact Or.inr ⟨fun h => by have h1 := lcmp_gt.mp c10; have h2 := h.2; rw [fa_lt64] at h1; rw [fa_le64] at h2; omega, rfl⟩
        | exact Or.inl ⟨⟨nlt64 (fun h => c3 (lcmp_lt.mpr h)), nlt64 (fun h => c10 (lcmp_gt.mpr h))⟩, rfl⟩

set_option maxHeartbeats 4000000 in
set_option maxRecDepth 100000 in
theorem c_m_has {n : Nat} {M : Nat → xE} {a b : Int32} : xMet mX11_has [.int a, .int b] n M (fun r M' => M = M' ∧ xB (bo a b = 1) r) := by
  refine xMet.of _ (by decide) rfl (Nat.le_of_ble_eq_true rfl) ?_
  refine x_iload_n (q := 1) dX11_has_0 rfl rfl ?_
  refine x_iload_n (q := 2) dX11_has_1 rfl rfl ?_
  refine x_ishr (q := 3) dX11_has_2 rfl ?_
  refine x_iconst (v := 1) (q := 4) dX11_has_3 rfl (by decide) ?_
  refine x_iand (q := 5) dX11_has_4 rfl ?_
  refine x_iconst (v := 1) (q := 6) dX11_has_5 rfl (by decide) ?_
  refine x_icmp_ne (t := 13) (q := 9) dX11_has_6 (by decide) rfl (fun c6 => ?_) (fun c6 => ?_)
  · refine x_iconst (v := 0) (q := 14) dX11_has_13 rfl (by decide) ?_
    refine x_zret dX11_has_14 rfl rfl rfl (Nat.le_refl _) ?_
    first
      | exact ⟨rfl, Or.inl ⟨c6, rfl⟩⟩
      | exact ⟨rfl, Or.inr ⟨c6, rfl⟩⟩
  · refine x_iconst (v := 1) (q := 10) dX11_has_9 rfl (by decide) ?_
    refine x_goto (q := 14) dX11_has_10 (by decide) ?_
    refine x_zret dX11_has_14 rfl rfl rfl (Nat.le_refl _) ?_
    first
      | exact ⟨rfl, Or.inl ⟨c6, rfl⟩⟩
      | exact ⟨rfl, Or.inr ⟨c6, rfl⟩⟩

def onR (s : Int32) : Nat → Int32
  | 0 => 0
  | k + 1 => onR s k + bo s (nI k)
theorem w32 (x y : Int32) : x.toInt64 ≤ y.toInt64 ↔ x.toInt ≤ y.toInt := by rw [fa_wide_le, fa_le]
theorem mIn {p : Int32} {P : Nat} (hP : P < 2 ^ 30) : ((0 : Int64) ≤ p.toInt64 ∧ p.toInt64 ≤ (nI P - 1).toInt64) ↔ inB p P = true := by
  rw [show (0 : Int64) = (0 : Int32).toInt64 from rfl, w32, w32, inB_t, vp_in_iff, show (0 : Int32).toInt = 0 from rfl]
  have : (nI P - 1).toInt = (P : Int) - 1 := pk_sub_toInt (b := 1) hP (by decide)
  rw [this]
  omega
theorem mIn2 {p : Int32} {k : Nat} (hk : k < 2 ^ 30) {c : Int64} (hc : c = (nI k).toInt64) : ((0 : Int64) ≤ p.toInt64 ∧ p.toInt64 ≤ c) ↔ inB p (k + 1) = true := by
  rw [hc, show (0 : Int64) = (0 : Int32).toInt64 from rfl, w32, w32, inB_t, vp_in_iff, show (0 : Int32).toInt = 0 from rfl, nI_toInt (by omega)]
  omega
set_option maxHeartbeats 4000000 in
set_option maxRecDepth 100000 in
theorem l_m_ones {n : Nat} {s : Int32} {Q : Option Value → (Nat → xE) → Prop} : ∀ (k i : Nat) (M : Nat → xE), i + k = 9 → (Q (some (.int (onR s 9))) M) → X mX11_ones 0 0 4 [(2, .int (nI i)), (1, .int (onR s i)), (0, .int s)] [] n M (Q) := by
  intro k
  induction k with
  | zero =>
    intro i M hik hQ
    refine x_iload_n (q := 5) dX11_ones_4 rfl rfl ?_
    refine x_bipush (v := 9) (q := 7) dX11_ones_5 rfl (by decide) ?_
    refine x_icmp_ge (t := 24) (q := 10) dX11_ones_7 (by decide) rfl (fun c7 => ?_) (fun c7 => absurd (by rw [show i = 9 by omega]; exact nI_le (Nat.le_refl _) (by omega)) c7)
    refine x_iload_n (q := 25) dX11_ones_24 rfl rfl ?_
    refine x_iret dX11_ones_25 rfl rfl (Nat.le_refl _) ?_
    rw [show i = 9 by omega]
    exact hQ
  | succ k ih =>
    intro i M hik hQ
    refine x_iload_n (q := 5) dX11_ones_4 rfl rfl ?_
    refine x_bipush (v := 9) (q := 7) dX11_ones_5 rfl (by decide) ?_
    refine x_icmp_ge (t := 24) (q := 10) dX11_ones_7 (by decide) rfl (fun c7 => absurd c7 (nI_ge (a := i) (b := 9) (by omega) (by omega))) (fun c7 => ?_)
    refine x_iload_n (q := 11) dX11_ones_10 rfl rfl ?_
    refine x_iload_n (q := 12) dX11_ones_11 rfl rfl ?_
    refine x_iload_n (q := 13) dX11_ones_12 rfl rfl ?_
    refine x_ishr (q := 14) dX11_ones_13 rfl ?_
    refine x_iconst (v := 1) (q := 15) dX11_ones_14 rfl (by decide) ?_
    refine x_iand (q := 16) dX11_ones_15 rfl ?_
    refine x_iadd (q := 17) dX11_ones_16 rfl ?_
    refine x_istore_n (L' := fun x1_17 => [(1, .int x1_17), (2, .int (nI i)), (0, .int s)]) (q := 18) dX11_ones_17 rfl (by decide) (fun _ => rfl) (fun x1_17 ex1_17 => ?_)
    obtain rfl : x1_17 = onR s (i + 1) := ex1_17
    refine x_iinc (L' := fun x2_18 => [(2, .int x2_18), (1, .int (onR s (i + 1))), (0, .int s)]) (q := 21) dX11_ones_18 rfl rfl (by decide) (fun _ => rfl) (fun x2_18 ex2_18 => ?_)
    obtain rfl : x2_18 = nI (i + 1) := ex2_18.trans (nI_1 i)
    refine x_goto (q := 4) dX11_ones_21 (by decide) ?_
    refine x_pick (L' := [(2, .int (nI (i + 1))), (1, .int (onR s (i + 1))), (0, .int s)]) [0, 1, 2] rfl ?_
    exact ih (i + 1) M (by omega) hQ

set_option maxHeartbeats 4000000 in
set_option maxRecDepth 100000 in
theorem c_m_ones {n : Nat} {M : Nat → xE} {s : Int32} : xMet mX11_ones [.int s] n M (fun r M' => M = M' ∧ some (.int (onR s 9)) = r) := by
  refine xMet.of _ (by decide) rfl (Nat.le_of_ble_eq_true rfl) ?_
  refine x_iconst (v := 0) (q := 1) dX11_ones_0 rfl (by decide) ?_
  refine x_istore_n (L' := fun x1_1 => [(1, .int x1_1), (0, .int s)]) (q := 2) dX11_ones_1 rfl (by decide) (fun _ => rfl) (fun x1_1 ex1_1 => ?_)
  refine x_iconst (v := 0) (q := 3) dX11_ones_2 rfl (by decide) ?_
  refine x_istore_n (L' := fun x2_3 => [(2, .int x2_3), (1, .int x1_1), (0, .int s)]) (q := 4) dX11_ones_3 rfl (by decide) (fun _ => rfl) (fun x2_3 ex2_3 => ?_)
  subst ex1_1
  subst ex2_3
  exact l_m_ones 9 0 M (by omega) ⟨rfl, rfl⟩

set_option maxHeartbeats 4000000 in
set_option maxRecDepth 100000 in
theorem c_m_isOne {n : Nat} {M : Nat → xE} {t : Nat → Nat → Int32} {u : Nat → Nat → Int64} (hn : 113 < n) (hM : oX11 99 t u M) {P : Nat} (hP : P ≤ 5) (h0 : t 0 0 = nI P) {a : Int32} : xMet mX11_isOne [.ref 99, .int a] n M (fun r M' => M = M' ∧ xB (inB a P = true) r) := by
  have hM0 := hM
  obtain ⟨mp0, mp1, mp2, mp3, mp4, mp5, mp6, mp7, mp8, mp9, mp10, mp11, mp12, mp13, mp14⟩ := hM
  have hiX11 : ∀ w ∈ wsX110, w ∈ wsX11_isOne := by decide +kernel
  refine xMet.of _ (by decide) rfl (Nat.le_of_ble_eq_true rfl) ?_
  refine x_iload_n (q := 1) dX11_isOne_0 rfl rfl ?_
  refine x_i2l (q := 2) dX11_isOne_1 rfl ?_
  refine x_lconst (v := 0) (q := 3) dX11_isOne_2 rfl (by decide) ?_
  refine x_aload_n (q := 4) dX11_isOne_3 rfl rfl ?_
  refine x_getf (C := RX11) (T := TX11) (N := 29) (k := 0) (q := 7) mp0 (by omega) rfl hiX11 (by decide) (by decide +kernel) rfl dX11_isOne_4 rfl ?_
  refine x_iconst (v := 0) (q := 8) dX11_isOne_7 rfl (by decide) ?_
  refine x_iald (q := 9) mp1 (by omega) (ixI (show (0 : Int32) = nI 0 from rfl) (by omega) (by decide)) dX11_isOne_8 rfl ?_
  rw [ixC (show (0 : Int32) = nI 0 from rfl) (by omega)]
  refine x_iconst (v := 1) (q := 10) dX11_isOne_9 rfl (by decide) ?_
  refine x_isub (q := 11) dX11_isOne_10 rfl ?_
  refine x_i2l (q := 12) dX11_isOne_11 rfl ?_
  refine x_callS (q := 15) c_m_in eX11_isOne_65 gX11_isOne_X11_in rfl (Nat.le_of_ble_eq_true rfl) ⟨Nat.le_refl _, Nat.le_refl _⟩ dX11_isOne_12 rfl rfl (fun r12 M12 p12 => ?_)
  obtain ⟨rfl, p12⟩ := p12
  rcases p12 with ⟨b12, rfl⟩ | ⟨b12, rfl⟩
  · refine x_zret dX11_isOne_15 rfl rfl rfl (Nat.le_refl _) ?_
    rw [h0] at b12
    refine ⟨rfl, ?_⟩
    first
      | exact Or.inl ⟨(mIn (by omega)).mp b12, rfl⟩
      | exact Or.inr ⟨fun h => b12 ((mIn (by omega)).mpr h), rfl⟩
  · refine x_zret dX11_isOne_15 rfl rfl rfl (Nat.le_refl _) ?_
    rw [h0] at b12
    refine ⟨rfl, ?_⟩
    first
      | exact Or.inl ⟨(mIn (by omega)).mp b12, rfl⟩
      | exact Or.inr ⟨fun h => b12 ((mIn (by omega)).mpr h), rfl⟩

set_option maxHeartbeats 4000000 in
set_option maxRecDepth 100000 in
theorem c_m_isWork {n : Nat} {M : Nat → xE} {t : Nat → Nat → Int32} {u : Nat → Nat → Int64} (hn : 113 < n) (hM : oX11 99 t u M) {P : Nat} (hP : P ≤ 6) (h0 : t 0 11 = nI P) {a : Int32} : xMet mX11_isWork [.ref 99, .int a] n M (fun r M' => M = M' ∧ xB (inB a P = true) r) := by
  have hM0 := hM
  obtain ⟨mp0, mp1, mp2, mp3, mp4, mp5, mp6, mp7, mp8, mp9, mp10, mp11, mp12, mp13, mp14⟩ := hM
  have hiX11 : ∀ w ∈ wsX110, w ∈ wsX11_isWork := by decide +kernel
  refine xMet.of _ (by decide) rfl (Nat.le_of_ble_eq_true rfl) ?_
  refine x_iload_n (q := 1) dX11_isWork_0 rfl rfl ?_
  refine x_i2l (q := 2) dX11_isWork_1 rfl ?_
  refine x_lconst (v := 0) (q := 3) dX11_isWork_2 rfl (by decide) ?_
  refine x_aload_n (q := 4) dX11_isWork_3 rfl rfl ?_
  refine x_getf (C := RX11) (T := TX11) (N := 29) (k := 0) (q := 7) mp0 (by omega) rfl hiX11 (by decide) (by decide +kernel) rfl dX11_isWork_4 rfl ?_
  refine x_bipush (v := 11) (q := 9) dX11_isWork_7 rfl (by decide) ?_
  refine x_iald (q := 10) mp1 (by omega) (ixI (show (11 : Int32) = nI 11 from rfl) (by omega) (by decide)) dX11_isWork_9 rfl ?_
  rw [ixC (show (11 : Int32) = nI 11 from rfl) (by omega)]
  refine x_iconst (v := 1) (q := 11) dX11_isWork_10 rfl (by decide) ?_
  refine x_isub (q := 12) dX11_isWork_11 rfl ?_
  refine x_i2l (q := 13) dX11_isWork_12 rfl ?_
  refine x_callS (q := 16) c_m_in eX11_isWork_65 gX11_isWork_X11_in rfl (Nat.le_of_ble_eq_true rfl) ⟨Nat.le_refl _, Nat.le_refl _⟩ dX11_isWork_13 rfl rfl (fun r13 M13 p13 => ?_)
  obtain ⟨rfl, p13⟩ := p13
  rcases p13 with ⟨b13, rfl⟩ | ⟨b13, rfl⟩
  · refine x_zret dX11_isWork_16 rfl rfl rfl (Nat.le_refl _) ?_
    rw [h0] at b13
    refine ⟨rfl, ?_⟩
    first
      | exact Or.inl ⟨(mIn (by omega)).mp b13, rfl⟩
      | exact Or.inr ⟨fun h => b13 ((mIn (by omega)).mpr h), rfl⟩
  · refine x_zret dX11_isWork_16 rfl rfl rfl (Nat.le_refl _) ?_
    rw [h0] at b13
    refine ⟨rfl, ?_⟩
    first
      | exact Or.inl ⟨(mIn (by omega)).mp b13, rfl⟩
      | exact Or.inr ⟨fun h => b13 ((mIn (by omega)).mpr h), rfl⟩

set_option maxHeartbeats 4000000 in
set_option maxRecDepth 100000 in
theorem c_m_isGood {n : Nat} {M : Nat → xE} {t : Nat → Nat → Int32} {u : Nat → Nat → Int64} (hn : 113 < n) (hM : oX11 99 t u M) {P : Nat} (hP : P ≤ 5) (h0 : t 0 37 = nI P) {a : Int32} : xMet mX11_isGood [.ref 99, .int a] n M (fun r M' => M = M' ∧ xB (inB a P = true) r) := by
  have hM0 := hM
  obtain ⟨mp0, mp1, mp2, mp3, mp4, mp5, mp6, mp7, mp8, mp9, mp10, mp11, mp12, mp13, mp14⟩ := hM
  have hiX11 : ∀ w ∈ wsX110, w ∈ wsX11_isGood := by decide +kernel
  refine xMet.of _ (by decide) rfl (Nat.le_of_ble_eq_true rfl) ?_
  refine x_iload_n (q := 1) dX11_isGood_0 rfl rfl ?_
  refine x_i2l (q := 2) dX11_isGood_1 rfl ?_
  refine x_lconst (v := 0) (q := 3) dX11_isGood_2 rfl (by decide) ?_
  refine x_aload_n (q := 4) dX11_isGood_3 rfl rfl ?_
  refine x_getf (C := RX11) (T := TX11) (N := 29) (k := 0) (q := 7) mp0 (by omega) rfl hiX11 (by decide) (by decide +kernel) rfl dX11_isGood_4 rfl ?_
  refine x_bipush (v := 37) (q := 9) dX11_isGood_7 rfl (by decide) ?_
  refine x_iald (q := 10) mp1 (by omega) (ixI (show (37 : Int32) = nI 37 from rfl) (by omega) (by decide)) dX11_isGood_9 rfl ?_
  rw [ixC (show (37 : Int32) = nI 37 from rfl) (by omega)]
  refine x_iconst (v := 1) (q := 11) dX11_isGood_10 rfl (by decide) ?_
  refine x_isub (q := 12) dX11_isGood_11 rfl ?_
  refine x_i2l (q := 13) dX11_isGood_12 rfl ?_
  refine x_callS (q := 16) c_m_in eX11_isGood_65 gX11_isGood_X11_in rfl (Nat.le_of_ble_eq_true rfl) ⟨Nat.le_refl _, Nat.le_refl _⟩ dX11_isGood_13 rfl rfl (fun r13 M13 p13 => ?_)
  obtain ⟨rfl, p13⟩ := p13
  rcases p13 with ⟨b13, rfl⟩ | ⟨b13, rfl⟩
  · refine x_zret dX11_isGood_16 rfl rfl rfl (Nat.le_refl _) ?_
    rw [h0] at b13
    refine ⟨rfl, ?_⟩
    first
      | exact Or.inl ⟨(mIn (by omega)).mp b13, rfl⟩
      | exact Or.inr ⟨fun h => b13 ((mIn (by omega)).mpr h), rfl⟩
  · refine x_zret dX11_isGood_16 rfl rfl rfl (Nat.le_refl _) ?_
    rw [h0] at b13
    refine ⟨rfl, ?_⟩
    first
      | exact Or.inl ⟨(mIn (by omega)).mp b13, rfl⟩
      | exact Or.inr ⟨fun h => b13 ((mIn (by omega)).mpr h), rfl⟩

set_option maxHeartbeats 4000000 in
set_option maxRecDepth 100000 in
theorem c_m_isWorld {n : Nat} {M : Nat → xE} {a : Int32} : xMet mX11_isWorld [.int a] n M (fun r M' => M = M' ∧ xB (inB a 4 = true) r) := by
  refine xMet.of _ (by decide) rfl (Nat.le_of_ble_eq_true rfl) ?_
  refine x_iload_n (q := 1) dX11_isWorld_0 rfl rfl ?_
  refine x_i2l (q := 2) dX11_isWorld_1 rfl ?_
  refine x_lconst (v := 0) (q := 3) dX11_isWorld_2 rfl (by decide) ?_
  refine x_ldc2 (v := 3) (q := 6) (by decide +kernel) dX11_isWorld_3 rfl ?_
  refine x_callS (q := 9) c_m_in eX11_isWorld_65 gX11_isWorld_X11_in rfl (Nat.le_of_ble_eq_true rfl) ⟨Nat.le_refl _, Nat.le_refl _⟩ dX11_isWorld_6 rfl rfl (fun r6 M6 p6 => ?_)
  obtain ⟨rfl, p6⟩ := p6
  rcases p6 with ⟨b6, rfl⟩ | ⟨b6, rfl⟩
  · refine x_zret dX11_isWorld_9 rfl rfl rfl (Nat.le_refl _) ?_
    refine ⟨rfl, ?_⟩
    first
      | exact Or.inl ⟨(mIn2 (k := 3) (by decide) rfl).mp b6, rfl⟩
      | exact Or.inr ⟨fun h => b6 ((mIn2 (k := 3) (by decide) rfl).mpr h), rfl⟩
  · refine x_zret dX11_isWorld_9 rfl rfl rfl (Nat.le_refl _) ?_
    refine ⟨rfl, ?_⟩
    first
      | exact Or.inl ⟨(mIn2 (k := 3) (by decide) rfl).mp b6, rfl⟩
      | exact Or.inr ⟨fun h => b6 ((mIn2 (k := 3) (by decide) rfl).mpr h), rfl⟩

set_option maxHeartbeats 4000000 in
set_option maxRecDepth 100000 in
theorem c_m_isFlag {n : Nat} {M : Nat → xE} {a : Int32} : xMet mX11_isFlag [.int a] n M (fun r M' => M = M' ∧ xB (inB a 2 = true) r) := by
  refine xMet.of _ (by decide) rfl (Nat.le_of_ble_eq_true rfl) ?_
  refine x_iload_n (q := 1) dX11_isFlag_0 rfl rfl ?_
  refine x_i2l (q := 2) dX11_isFlag_1 rfl ?_
  refine x_lconst (v := 0) (q := 3) dX11_isFlag_2 rfl (by decide) ?_
  refine x_lconst (v := 1) (q := 4) dX11_isFlag_3 rfl (by decide) ?_
  refine x_callS (q := 7) c_m_in eX11_isFlag_65 gX11_isFlag_X11_in rfl (Nat.le_of_ble_eq_true rfl) ⟨Nat.le_refl _, Nat.le_refl _⟩ dX11_isFlag_4 rfl rfl (fun r4 M4 p4 => ?_)
  obtain ⟨rfl, p4⟩ := p4
  rcases p4 with ⟨b4, rfl⟩ | ⟨b4, rfl⟩
  · refine x_zret dX11_isFlag_7 rfl rfl rfl (Nat.le_refl _) ?_
    refine ⟨rfl, ?_⟩
    first
      | exact Or.inl ⟨(mIn2 (k := 1) (by decide) rfl).mp b4, rfl⟩
      | exact Or.inr ⟨fun h => b4 ((mIn2 (k := 1) (by decide) rfl).mpr h), rfl⟩
  · refine x_zret dX11_isFlag_7 rfl rfl rfl (Nat.le_refl _) ?_
    refine ⟨rfl, ?_⟩
    first
      | exact Or.inl ⟨(mIn2 (k := 1) (by decide) rfl).mp b4, rfl⟩
      | exact Or.inr ⟨fun h => b4 ((mIn2 (k := 1) (by decide) rfl).mpr h), rfl⟩

def stW (w : Nat → Int32) (R k : Nat) : Nat → Int32 := fun j => if R + 53 ≤ j ∧ j < R + 53 + k then nI (j - (R + 53)) else if R + 57 ≤ j ∧ j < R + 57 + k then 0 else w j
theorem stW_0 (w : Nat → Int32) (R : Nat) : stW w R 0 = w := by
  funext j; unfold stW; rw [if_neg (by omega), if_neg (by omega)]
theorem stW_s (w : Nat → Int32) (R : Nat) {k : Nat} (hk : k < 4) : upd (upd (stW w R k) (R + 53 + k) (nI k)) (R + 57 + k) 0 = stW w R (k + 1) := by
  funext j
  unfold upd stW
  by_cases e1 : j = R + 57 + k
  · rw [if_pos e1, if_neg (by omega), if_pos (by omega)]
  · rw [if_neg e1]
    by_cases e2 : j = R + 53 + k
    · rw [if_pos e2, if_pos (by omega), show j - (R + 53) = k by omega]
    · rw [if_neg e2]
      by_cases h1 : R + 53 ≤ j ∧ j < R + 53 + k
      · rw [if_pos h1, if_pos (by omega)]
      · rw [if_neg h1, if_neg (show ¬ (R + 53 ≤ j ∧ j < R + 53 + (k + 1)) by omega)]
        by_cases h2 : R + 57 ≤ j ∧ j < R + 57 + k
        · rw [if_pos h2, if_pos (by omega)]
        · rw [if_neg h2, if_neg (by omega)]
def zeroW (w : Nat → Int32) (R k : Nat) : Nat → Int32 := fun j => if R ≤ j ∧ j < R + k then 0 else w j
theorem zeroW_0 (w : Nat → Int32) (R : Nat) : zeroW w R 0 = w := by funext j; unfold zeroW; rw [if_neg (by omega)]
theorem zeroW_s (w : Nat → Int32) (R k : Nat) : upd (zeroW w R k) (R + k) 0 = zeroW w R (k + 1) := by
  funext j
  unfold upd zeroW
  by_cases e : j = R + k
  · rw [if_pos e, if_pos (by omega)]
  · rw [if_neg e]
    by_cases h : R ≤ j ∧ j < R + k
    · rw [if_pos h, if_pos (by omega)]
    · rw [if_neg h, if_neg (by omega)]
def begW (w : Nat → Int32) (R : Nat) : Nat → Int32 := stW (upd (zeroW w R 61) (R + 36) 60) R 4
theorem nIc3 {R a i : Nat} {c : Int32} (hc : c = nI a) : nI R + c + nI i = nI (R + a + i) := by rw [hc, nI_add, nI_add]
theorem nIc2 {R a : Nat} {c : Int32} (hc : c = nI a) : nI R + c = nI (R + a) := by rw [hc, nI_add]
theorem nIl2 {a i : Nat} {c : Int32} (hc : c = nI a) : c + nI i = nI (a + i) := by rw [hc, nI_add]
set_option maxHeartbeats 4000000 in
set_option maxRecDepth 100000 in
theorem l_m_stills {n R : Nat} {t : Nat → Nat → Int32} {u : Nat → Nat → Int64} {Q : Option Value → (Nat → xE) → Prop} {M0 : Nat → xE} (hn : 113 < n) (hR : R ≤ 61) (hQ : ∀ M, oX11 99 (fun z => if z = 0 then stW (t 0) R 4 else t z) u M → xfr 99 114 M0 M → Q none M) : ∀ (k i : Nat) (M : Nat → xE), i + k = 4 → (oX11 99 (fun z => if z = 0 then stW (t 0) R i else t z) u M) → (xfr 99 114 M0 M) → X mX11_stills 0 0 2 [(2, .int (nI i)), (0, .ref 99), (1, .int (nI R))] [] n M (Q) := by
  have hiX11 : ∀ w ∈ wsX110, w ∈ wsX11_stills := by decide +kernel
  intro k
  induction k with
  | zero =>
    intro i M hik hM hf
    have hM0 := hM
    obtain ⟨mp0, mp1, mp2, mp3, mp4, mp5, mp6, mp7, mp8, mp9, mp10, mp11, mp12, mp13, mp14⟩ := hM
    refine x_iload_n (q := 3) dX11_stills_2 rfl rfl ?_
    refine x_iconst (v := 4) (q := 4) dX11_stills_3 rfl (by decide) ?_
    refine x_icmp_ge (t := 37) (q := 7) dX11_stills_4 (by decide) rfl (fun c4 => ?_) (fun c4 => absurd (by rw [show i = 4 by omega]; exact nI_le (Nat.le_refl _) (by omega)) c4)
    refine x_vret dX11_stills_37 rfl rfl (Nat.le_refl _) ?_
    have e9 : i = 4 := by omega
    subst e9
    exact hQ M hM0 hf
  | succ k ih =>
    intro i M hik hM hf
    have hM0 := hM
    obtain ⟨mp0, mp1, mp2, mp3, mp4, mp5, mp6, mp7, mp8, mp9, mp10, mp11, mp12, mp13, mp14⟩ := hM
    refine x_iload_n (q := 3) dX11_stills_2 rfl rfl ?_
    refine x_iconst (v := 4) (q := 4) dX11_stills_3 rfl (by decide) ?_
    refine x_icmp_ge (t := 37) (q := 7) dX11_stills_4 (by decide) rfl (fun c4 => absurd c4 (nI_ge (a := i) (b := 4) (by omega) (by omega))) (fun c4 => ?_)
    refine x_aload_n (q := 8) dX11_stills_7 rfl rfl ?_
    refine x_getf (C := RX11) (T := TX11) (N := 29) (k := 0) (q := 11) mp0 (by omega) rfl hiX11 (by decide) (by decide +kernel) rfl dX11_stills_8 rfl ?_
    refine x_iload_n (q := 12) dX11_stills_11 rfl rfl ?_
    refine x_bipush (v := 53) (q := 14) dX11_stills_12 rfl (by decide) ?_
    refine x_iadd (q := 15) dX11_stills_14 rfl ?_
    refine x_iload_n (q := 16) dX11_stills_15 rfl rfl ?_
    refine x_iadd (q := 17) dX11_stills_16 rfl ?_
    refine x_iload_n (q := 18) dX11_stills_17 rfl rfl ?_
    refine x_iast (q := 19) mp1 (by omega) (ixI (show (((nI R + 53) + nI i) : Int32) = nI ((R + 53) + i) from (nIs (nIs rfl rfl) rfl)) (by omega) (by decide)) dX11_stills_18 rfl (fun M18 w18 o18 => ?_)
    rw [ixC (show (((nI R + 53) + nI i) : Int32) = nI ((R + 53) + i) from (nIs (nIs rfl rfl) rfl)) (by omega)] at w18
    refine x_aload_n (q := 20) dX11_stills_19 rfl rfl ?_
    have hv1_1_99 := ((o18 (99) (by omega)).trans mp0)
    refine x_getf (C := RX11) (T := TX11) (N := 29) (k := 0) (q := 23) hv1_1_99 (by omega) rfl hiX11 (by decide) (by decide +kernel) rfl dX11_stills_20 rfl ?_
    refine x_iload_n (q := 24) dX11_stills_23 rfl rfl ?_
    refine x_bipush (v := 57) (q := 26) dX11_stills_24 rfl (by decide) ?_
    refine x_iadd (q := 27) dX11_stills_26 rfl ?_
    refine x_iload_n (q := 28) dX11_stills_27 rfl rfl ?_
    refine x_iadd (q := 29) dX11_stills_28 rfl ?_
    refine x_iconst (v := 0) (q := 30) dX11_stills_29 rfl (by decide) ?_
    refine x_iast (q := 31) w18 (by omega) (ixI (show (((nI R + 57) + nI i) : Int32) = nI ((R + 57) + i) from (nIs (nIs rfl rfl) rfl)) (by omega) (by decide)) dX11_stills_30 rfl (fun M30 w30 o30 => ?_)
    rw [ixC (show (((nI R + 57) + nI i) : Int32) = nI ((R + 57) + i) from (nIs (nIs rfl rfl) rfl)) (by omega)] at w30
    refine x_iinc (L' := fun x2_31 => [(2, .int x2_31), (0, .ref 99), (1, .int (nI R))]) (q := 34) dX11_stills_31 rfl rfl (by decide) (fun _ => rfl) (fun x2_31 ex2_31 => ?_)
    obtain rfl : x2_31 = nI (i + 1) := ex2_31.trans (nI_1 i)
    refine x_goto (q := 2) dX11_stills_34 (by decide) ?_
    have w31 : M30 (99 + 1) = .inl (0, 122, .inl (stW (t 0) R (i + 1))) := by rw [w30, ← stW_s (t 0) R (show i < 4 by omega)]; rfl
    have hv2_2_99 := ((o30 (99) (by omega)).trans hv1_1_99)
    have hv2_3_101 := ((o30 (101) (by omega)).trans ((o18 (101) (by omega)).trans mp2))
    have hv2_4_102 := ((o30 (102) (by omega)).trans ((o18 (102) (by omega)).trans mp3))
    have hv2_5_103 := ((o30 (103) (by omega)).trans ((o18 (103) (by omega)).trans mp4))
    have hv2_6_104 := ((o30 (104) (by omega)).trans ((o18 (104) (by omega)).trans mp5))
    have hv2_7_105 := ((o30 (105) (by omega)).trans ((o18 (105) (by omega)).trans mp6))
    have hv2_8_106 := ((o30 (106) (by omega)).trans ((o18 (106) (by omega)).trans mp7))
    have hv2_9_107 := ((o30 (107) (by omega)).trans ((o18 (107) (by omega)).trans mp8))
    have hv2_10_108 := ((o30 (108) (by omega)).trans ((o18 (108) (by omega)).trans mp9))
    have hv2_11_109 := ((o30 (109) (by omega)).trans ((o18 (109) (by omega)).trans mp10))
    have hv2_12_110 := ((o30 (110) (by omega)).trans ((o18 (110) (by omega)).trans mp11))
    have hv2_13_111 := ((o30 (111) (by omega)).trans ((o18 (111) (by omega)).trans mp12))
    have hv2_14_112 := ((o30 (112) (by omega)).trans ((o18 (112) (by omega)).trans mp13))
    have hv2_15_113 := ((o30 (113) (by omega)).trans ((o18 (113) (by omega)).trans mp14))
    refine x_pick (L' := [(2, .int (nI (i + 1))), (0, .ref 99), (1, .int (nI R))]) [0, 1, 2] rfl ?_
    exact ih (i + 1) M30 (by omega) ⟨hv2_2_99, w31, hv2_3_101, hv2_4_102, hv2_5_103, hv2_6_104, hv2_7_105, hv2_8_106, hv2_9_107, hv2_10_108, hv2_11_109, hv2_12_110, hv2_13_111, hv2_14_112, hv2_15_113⟩ (fun j hj => ((o30 j (by omega)).trans ((o18 j (by omega)).trans (hf j hj))))

set_option maxHeartbeats 4000000 in
set_option maxRecDepth 100000 in
theorem c_m_stills {n : Nat} {M : Nat → xE} {t : Nat → Nat → Int32} {u : Nat → Nat → Int64} (hn : 113 < n) (hM : oX11 99 t u M) {R : Nat} (hR : R ≤ 61) : xMet mX11_stills [.ref 99, .int (nI R)] n M (fun r M' => none = r ∧ oX11 99 (fun z => if z = 0 then stW (t 0) R 4 else t z) u M' ∧ xfr 99 114 M M') := by
  have hM0 := hM
  obtain ⟨mp0, mp1, mp2, mp3, mp4, mp5, mp6, mp7, mp8, mp9, mp10, mp11, mp12, mp13, mp14⟩ := hM
  refine xMet.of _ (by decide) rfl (Nat.le_of_ble_eq_true rfl) ?_
  refine x_iconst (v := 0) (q := 1) dX11_stills_0 rfl (by decide) ?_
  refine x_istore_n (L' := fun x2_1 => [(2, .int x2_1), (0, .ref 99), (1, .int (nI R))]) (q := 2) dX11_stills_1 rfl (by decide) (fun _ => rfl) (fun x2_1 ex2_1 => ?_)
  subst ex2_1
  exact l_m_stills (M0 := M) hn hR (fun M h1 h2 => ⟨rfl, h1, h2⟩) 4 0 M (by omega) ⟨mp0, by rw [mp1]; show _ = Sum.inl (0, 122, Sum.inl (stW (t 0) R 0)); rw [stW_0], mp2, mp3, mp4, mp5, mp6, mp7, mp8, mp9, mp10, mp11, mp12, mp13, mp14⟩ (fun j _ => rfl)

set_option maxHeartbeats 4000000 in
set_option maxRecDepth 100000 in
theorem l_m_begins {n R : Nat} {t : Nat → Nat → Int32} {u : Nat → Nat → Int64} {Q : Option Value → (Nat → xE) → Prop} {M0 : Nat → xE} (hn : 113 < n) (hR : R ≤ 61) (hk : ∀ M, oX11 99 (fun z => if z = 0 then zeroW (t 0) R 61 else t z) u M → xfr 99 114 M0 M → X mX11_begins 0 0 23 [(2, .int (nI 61)), (0, .ref 99), (1, .int (nI R))] [] n M Q) : ∀ (k i : Nat) (M : Nat → xE), i + k = 61 → (oX11 99 (fun z => if z = 0 then zeroW (t 0) R i else t z) u M) → (xfr 99 114 M0 M) → X mX11_begins 0 0 2 [(2, .int (nI i)), (0, .ref 99), (1, .int (nI R))] [] n M (Q) := by
  have hiX11 : ∀ w ∈ wsX110, w ∈ wsX11_begins := by decide +kernel
  intro k
  induction k with
  | zero =>
    intro i M hik hM hf
    have hM0 := hM
    obtain ⟨mp0, mp1, mp2, mp3, mp4, mp5, mp6, mp7, mp8, mp9, mp10, mp11, mp12, mp13, mp14⟩ := hM
    refine x_iload_n (q := 3) dX11_begins_2 rfl rfl ?_
    refine x_bipush (v := 61) (q := 5) dX11_begins_3 rfl (by decide) ?_
    refine x_icmp_ge (t := 23) (q := 8) dX11_begins_5 (by decide) rfl (fun c5 => ?_) (fun c5 => absurd (by rw [show i = 61 by omega]; exact nI_le (Nat.le_refl _) (by omega)) c5)
    have e9 : i = 61 := by omega
    subst e9
    exact hk M hM0 hf
  | succ k ih =>
    intro i M hik hM hf
    have hM0 := hM
    obtain ⟨mp0, mp1, mp2, mp3, mp4, mp5, mp6, mp7, mp8, mp9, mp10, mp11, mp12, mp13, mp14⟩ := hM
    refine x_iload_n (q := 3) dX11_begins_2 rfl rfl ?_
    refine x_bipush (v := 61) (q := 5) dX11_begins_3 rfl (by decide) ?_
    refine x_icmp_ge (t := 23) (q := 8) dX11_begins_5 (by decide) rfl (fun c5 => absurd c5 (nI_ge (a := i) (b := 61) (by omega) (by omega))) (fun c5 => ?_)
    refine x_aload_n (q := 9) dX11_begins_8 rfl rfl ?_
    refine x_getf (C := RX11) (T := TX11) (N := 29) (k := 0) (q := 12) mp0 (by omega) rfl hiX11 (by decide) (by decide +kernel) rfl dX11_begins_9 rfl ?_
    refine x_iload_n (q := 13) dX11_begins_12 rfl rfl ?_
    refine x_iload_n (q := 14) dX11_begins_13 rfl rfl ?_
    refine x_iadd (q := 15) dX11_begins_14 rfl ?_
    refine x_iconst (v := 0) (q := 16) dX11_begins_15 rfl (by decide) ?_
    refine x_iast (q := 17) mp1 (by omega) (ixI (show ((nI R + nI i) : Int32) = nI (R + i) from (nIs rfl rfl)) (by omega) (by decide)) dX11_begins_16 rfl (fun M16 w16 o16 => ?_)
    rw [ixC (show ((nI R + nI i) : Int32) = nI (R + i) from (nIs rfl rfl)) (by omega)] at w16
    refine x_iinc (L' := fun x2_17 => [(2, .int x2_17), (0, .ref 99), (1, .int (nI R))]) (q := 20) dX11_begins_17 rfl rfl (by decide) (fun _ => rfl) (fun x2_17 ex2_17 => ?_)
    obtain rfl : x2_17 = nI (i + 1) := ex2_17.trans (nI_1 i)
    refine x_goto (q := 2) dX11_begins_20 (by decide) ?_
    have w17 : M16 (99 + 1) = .inl (0, 122, .inl (zeroW (t 0) R (i + 1))) := by rw [w16, ← zeroW_s]; rfl
    have hv1_1_99 := ((o16 (99) (by omega)).trans mp0)
    have hv1_2_101 := ((o16 (101) (by omega)).trans mp2)
    have hv1_3_102 := ((o16 (102) (by omega)).trans mp3)
    have hv1_4_103 := ((o16 (103) (by omega)).trans mp4)
    have hv1_5_104 := ((o16 (104) (by omega)).trans mp5)
    have hv1_6_105 := ((o16 (105) (by omega)).trans mp6)
    have hv1_7_106 := ((o16 (106) (by omega)).trans mp7)
    have hv1_8_107 := ((o16 (107) (by omega)).trans mp8)
    have hv1_9_108 := ((o16 (108) (by omega)).trans mp9)
    have hv1_10_109 := ((o16 (109) (by omega)).trans mp10)
    have hv1_11_110 := ((o16 (110) (by omega)).trans mp11)
    have hv1_12_111 := ((o16 (111) (by omega)).trans mp12)
    have hv1_13_112 := ((o16 (112) (by omega)).trans mp13)
    have hv1_14_113 := ((o16 (113) (by omega)).trans mp14)
    refine x_pick (L' := [(2, .int (nI (i + 1))), (0, .ref 99), (1, .int (nI R))]) [0, 1, 2] rfl ?_
    exact ih (i + 1) M16 (by omega) ⟨hv1_1_99, w17, hv1_2_101, hv1_3_102, hv1_4_103, hv1_5_104, hv1_6_105, hv1_7_106, hv1_8_107, hv1_9_108, hv1_10_109, hv1_11_110, hv1_12_111, hv1_13_112, hv1_14_113⟩ (fun j hj => ((o16 j (by omega)).trans (hf j hj)))

set_option maxHeartbeats 4000000 in
set_option maxRecDepth 100000 in
theorem c_m_begins {n : Nat} {M : Nat → xE} {t : Nat → Nat → Int32} {u : Nat → Nat → Int64} (hn : 113 < n) (hM : oX11 99 t u M) {R : Nat} (hR : R ≤ 61) : xMet mX11_begins [.ref 99, .int (nI R)] n M (fun r M' => none = r ∧ oX11 99 (fun z => if z = 0 then begW (t 0) R else t z) u M' ∧ xfr 99 114 M M') := by
  have hM0 := hM
  obtain ⟨mp0, mp1, mp2, mp3, mp4, mp5, mp6, mp7, mp8, mp9, mp10, mp11, mp12, mp13, mp14⟩ := hM
  have hiX11 : ∀ w ∈ wsX110, w ∈ wsX11_begins := by decide +kernel
  refine xMet.of _ (by decide) rfl (Nat.le_of_ble_eq_true rfl) ?_
  refine x_iconst (v := 0) (q := 1) dX11_begins_0 rfl (by decide) ?_
  refine x_istore_n (L' := fun x2_1 => [(2, .int x2_1), (0, .ref 99), (1, .int (nI R))]) (q := 2) dX11_begins_1 rfl (by decide) (fun _ => rfl) (fun x2_1 ex2_1 => ?_)
  subst ex2_1
  refine l_m_begins (M0 := M) hn hR (fun M23 k1 k2 => ?_) 61 0 M (by omega) ⟨mp0, by rw [mp1]; show _ = Sum.inl (0, 122, Sum.inl (zeroW (t 0) R 0)); rw [zeroW_0], mp2, mp3, mp4, mp5, mp6, mp7, mp8, mp9, mp10, mp11, mp12, mp13, mp14⟩ (fun j _ => rfl)
  obtain ⟨kp0, kp1, kp2, kp3, kp4, kp5, kp6, kp7, kp8, kp9, kp10, kp11, kp12, kp13, kp14⟩ := k1
  refine x_aload_n (q := 24) dX11_begins_23 rfl rfl ?_
  refine x_getf (C := RX11) (T := TX11) (N := 29) (k := 0) (q := 27) kp0 (by omega) rfl hiX11 (by decide) (by decide +kernel) rfl dX11_begins_24 rfl ?_
  refine x_iload_n (q := 28) dX11_begins_27 rfl rfl ?_
  refine x_bipush (v := 36) (q := 30) dX11_begins_28 rfl (by decide) ?_
  refine x_iadd (q := 31) dX11_begins_30 rfl ?_
  refine x_bipush (v := 60) (q := 33) dX11_begins_31 rfl (by decide) ?_
  refine x_iast (q := 34) kp1 (by omega) (ixI (show ((nI R + 36) : Int32) = nI (R + 36) from (nIs rfl rfl)) (by omega) (by decide)) dX11_begins_33 rfl (fun M33 w33 o33 => ?_)
  rw [ixC (show ((nI R + 36) : Int32) = nI (R + 36) from (nIs rfl rfl)) (by omega)] at w33
  refine x_aload_n (q := 35) dX11_begins_34 rfl rfl ?_
  refine x_iload_n (q := 36) dX11_begins_35 rfl rfl ?_
  have hv1_1_99 := ((o33 (99) (by omega)).trans kp0)
  have hv1_2_101 := ((o33 (101) (by omega)).trans kp2)
  have hv1_3_102 := ((o33 (102) (by omega)).trans kp3)
  have hv1_4_103 := ((o33 (103) (by omega)).trans kp4)
  have hv1_5_104 := ((o33 (104) (by omega)).trans kp5)
  have hv1_6_105 := ((o33 (105) (by omega)).trans kp6)
  have hv1_7_106 := ((o33 (106) (by omega)).trans kp7)
  have hv1_8_107 := ((o33 (107) (by omega)).trans kp8)
  have hv1_9_108 := ((o33 (108) (by omega)).trans kp9)
  have hv1_10_109 := ((o33 (109) (by omega)).trans kp10)
  have hv1_11_110 := ((o33 (110) (by omega)).trans kp11)
  have hv1_12_111 := ((o33 (111) (by omega)).trans kp12)
  have hv1_13_112 := ((o33 (112) (by omega)).trans kp13)
  have hv1_14_113 := ((o33 (113) (by omega)).trans kp14)
  refine x_callV (q := 39) (ci := 11) (c_m_stills (t := (fun z => if z = 0 then upd (zeroW (t 0) R 61) (R + 36) 60 else t z)) hn ⟨hv1_1_99, w33, hv1_2_101, hv1_3_102, hv1_4_103, hv1_5_104, hv1_6_105, hv1_7_106, hv1_8_107, hv1_9_108, hv1_10_109, hv1_11_110, hv1_12_111, hv1_13_112, hv1_14_113⟩ hR) eX11_begins_71 gX11_begins_X11_stills hv1_1_99 (by omega) rfl rfl rfl (Nat.le_of_ble_eq_true rfl) ⟨Nat.le_refl _, Nat.le_refl _⟩ dX11_begins_36 rfl rfl (fun r36 M36 p36 => ?_)
  obtain ⟨rfl, hV36, fr36⟩ := p36
  have hU36 := hV36
  obtain ⟨y36_0, y36_1, y36_2, y36_3, y36_4, y36_5, y36_6, y36_7, y36_8, y36_9, y36_10, y36_11, y36_12, y36_13, y36_14⟩ := hV36
  refine x_vret dX11_begins_39 rfl rfl (Nat.le_refl _) ?_
  exact ⟨rfl, hU36, fun j hj => (fr36 j hj).trans ((o33 j (by omega)).trans (k2 j hj))⟩
  

