set_option maxHeartbeats 4000000 in
set_option maxRecDepth 100000 in
theorem l_Pl_tk2 {n p q d A W : Nat} {t τ δ : Nat → Nat → Int32} {Q : Option Value → (Nat → xE) → Prop} {M0 : Nat → xE} (hpq : p + 8 ≤ q ∨ q + 11 ≤ p) (hpd : p + 8 ≤ d ∨ d + 4 ≤ p) (hp : p + 7 < n) (hq : q + 10 < n) (hd : d + 3 < n) (hA : A ≤ 5) (hW : W ≤ 6) {f3 f4 : Nat → Int32} (hk : ∀ (M : Nat → xE) (x0 : Int32) (f5 : Nat → Int32), oX6 p (fun z => if z = 0 then (fun _ => x0) else if z = 1 then (fun _ => nI A) else if z = 2 then (fun _ => nI W) else if z = 3 then f3 else if z = 4 then f4 else if z = 5 then f5 else t z) M → oX8 q τ M → oX3 d δ M → (x0 = hdX τ δ W ∧ ∀ k, k < W → f5 k = gnX τ δ k) → xfr p (p + 8) M0 M → X mX6_takeUp 0 0 153 [(3, .int (nI W)), (0, .ref p), (1, .ref q), (2, .ref d)] [] n M Q) : ∀ (k i : Nat) (M : Nat → xE) (x0 : Int32) (f5 : Nat → Int32), i + k = W → (oX6 p (fun z => if z = 0 then (fun _ => x0) else if z = 1 then (fun _ => nI A) else if z = 2 then (fun _ => nI W) else if z = 3 then f3 else if z = 4 then f4 else if z = 5 then f5 else t z) M) → (oX8 q τ M) → (oX3 d δ M) → ((x0 = hdX τ δ i ∧ ∀ k, k < i → f5 k = gnX τ δ k)) → (xfr p (p + 8) M0 M) → X mX6_takeUp 0 0 78 [(3, .int (nI i)), (0, .ref p), (1, .ref q), (2, .ref d)] [] n M (Q) := by
  have hiX3 : ∀ w ∈ wsX30, w ∈ wsX6_takeUp := by decide +kernel
  have hiX6 : ∀ w ∈ wsX60, w ∈ wsX6_takeUp := by decide +kernel
  have hiX8 : ∀ w ∈ wsX80, w ∈ wsX6_takeUp := by decide +kernel
  intro k
  induction k with
  | zero =>
    intro i M x0 f5 hik hT hS hD hc hf
    have hT0 := hT
    have hS0 := hS
    have hD0 := hD
    obtain ⟨tp0, tp1, tp2, tp3, tp4, tp5, tp6, tp7⟩ := hT
    obtain ⟨dp0, dp1, dp2, dp3⟩ := hD
    obtain ⟨sp0, sp1, sp2, sp3, sp4, sp5, sp6, sp7, sp8, sp9, sp10⟩ := hS
    refine x_iload_n (q := 79) dX6_takeUp_78 rfl rfl ?_
    refine x_aload_n (q := 80) dX6_takeUp_79 rfl rfl ?_
    refine x_getf (C := RX6) (T := TX6) (N := 10) (k := 2) (q := 83) tp0 (by omega) rfl hiX6 (by decide) (by decide +kernel) rfl dX6_takeUp_80 rfl ?_
    refine x_icmp_ge (t := 153) (q := 86) dX6_takeUp_83 (by decide) rfl (fun c83 => ?_) (fun c83 => absurd (by rw [show i = W by omega]; exact nI_le (Nat.le_refl _) (by omega)) c83)
    have e9 : i = W := by omega
    subst e9
    exact hk M x0 f5 hT0 hS0 hD0 hc hf
  | succ k ih =>
    intro i M x0 f5 hik hT hS hD hc hf
    have hT0 := hT
    have hS0 := hS
    have hD0 := hD
    obtain ⟨tp0, tp1, tp2, tp3, tp4, tp5, tp6, tp7⟩ := hT
    obtain ⟨dp0, dp1, dp2, dp3⟩ := hD
    obtain ⟨sp0, sp1, sp2, sp3, sp4, sp5, sp6, sp7, sp8, sp9, sp10⟩ := hS
    refine x_iload_n (q := 79) dX6_takeUp_78 rfl rfl ?_
    refine x_aload_n (q := 80) dX6_takeUp_79 rfl rfl ?_
    refine x_getf (C := RX6) (T := TX6) (N := 10) (k := 2) (q := 83) tp0 (by omega) rfl hiX6 (by decide) (by decide +kernel) rfl dX6_takeUp_80 rfl ?_
    refine x_icmp_ge (t := 153) (q := 86) dX6_takeUp_83 (by decide) rfl (fun c83 => absurd c83 (nI_ge (a := i) (b := W) (by omega) (by omega))) (fun c83 => ?_)
    refine x_aload_n (q := 87) dX6_takeUp_86 rfl rfl ?_
    refine x_getf (C := RX3) (T := TX3) (N := 10) (k := 9) (q := 90) dp0 (by omega) rfl hiX3 (by decide) (by decide +kernel) rfl dX6_takeUp_87 rfl ?_
    refine x_iload_n (q := 91) dX6_takeUp_90 rfl rfl ?_
    refine x_iald (q := 92) dp3 (by omega) (vp_in_nI (show i < 6 by omega) (by decide)) dX6_takeUp_91 rfl ?_
    refine x_if_le (t := 99) (q := 95) dX6_takeUp_92 (by decide) rfl (fun c92 => ?_) (fun c92 => ?_)
    · refine x_iconst (v := 0) (q := 100) dX6_takeUp_99 rfl (by decide) ?_
      refine x_istore (L' := fun x4_100 => [(4, .int x4_100), (3, .int (nI i)), (0, .ref p), (1, .ref q), (2, .ref d)]) (q := 102) dX6_takeUp_100 rfl (by decide) (fun _ => rfl) (fun x4_100 ex4_100 => ?_)
      rw [show x4_100 = 0 from ex4_100]
      refine x_aload_n (q := 103) dX6_takeUp_102 rfl rfl ?_
      refine x_getf (C := RX6) (T := TX6) (N := 10) (k := 5) (q := 106) tp0 (by omega) rfl hiX6 (by decide) (by decide +kernel) rfl dX6_takeUp_103 rfl ?_
      refine x_iload_n (q := 107) dX6_takeUp_106 rfl rfl ?_
      refine x_iload (q := 109) dX6_takeUp_107 rfl rfl ?_
      refine x_if_eq (t := 116) (q := 112) dX6_takeUp_109 (by decide) rfl (fun c109 => ?_) (fun c109 => absurd c109 (by decide))
      refine x_aload_n (q := 117) dX6_takeUp_116 rfl rfl ?_
      refine x_getf (C := RX8) (T := TX8) (N := 15) (k := 7) (q := 120) sp0 (by omega) rfl hiX8 (by decide) (by decide +kernel) rfl dX6_takeUp_117 rfl ?_
      refine x_iload_n (q := 121) dX6_takeUp_120 rfl rfl ?_
      refine x_iald (q := 122) sp6 (by omega) (vp_in_nI (show i < 6 by omega) (by decide)) dX6_takeUp_121 rfl ?_
      refine x_iast (q := 123) tp3 (by omega) (vp_in_nI (show i < 6 by omega) (by decide)) dX6_takeUp_122 rfl (fun M122 w122 o122 => ?_)
      refine x_aload_n (q := 124) dX6_takeUp_123 rfl rfl ?_
      refine x_dup (q := 125) dX6_takeUp_124 rfl rfl ?_
      have hv1_1_p := ((o122 (p) (by omega)).trans tp0)
      refine x_getf (C := RX6) (T := TX6) (N := 10) (k := 0) (q := 128) hv1_1_p (by omega) rfl hiX6 (by decide) (by decide +kernel) rfl dX6_takeUp_125 rfl ?_
      refine x_iload (q := 130) dX6_takeUp_128 rfl rfl ?_
      refine x_if_eq (t := 142) (q := 133) dX6_takeUp_130 (by decide) rfl (fun c130 => ?_) (fun c130 => absurd c130 (by decide))
      refine x_iconst (v := 0) (q := 143) dX6_takeUp_142 rfl (by decide) ?_
      refine x_iadd (q := 144) dX6_takeUp_143 rfl ?_
      refine x_put (C := RX6) (T := TX6) (N := 10) (k := 0) (q := 147) (ty := .int) tyX6_ok nmX6 hv1_1_p (by omega) rfl hiX6 (by decide) (by decide +kernel) rfl (by decide +kernel) (fun _ => rfl) (fun _ => rfl) (Nat.le_of_ble_eq_true rfl) dX6_takeUp_144 rfl (fun M144 w144 o144 => ?_)
      refine x_iinc (L' := fun x3_147 => [(3, .int x3_147), (4, .int (0)), (0, .ref p), (1, .ref q), (2, .ref d)]) (q := 150) dX6_takeUp_147 rfl rfl (by decide) (fun _ => rfl) (fun x3_147 ex3_147 => ?_)
      obtain rfl : x3_147 = nI (i + 1) := ex3_147.trans (nI_1 i)
      refine x_goto (q := 78) dX6_takeUp_150 (by decide) ?_
      rw [nIc (show i < 6 by omega) (by decide)] at w122
      have c93 := c92
      rw [nIc (show i < 6 by omega) (by decide)] at c93
      have hv5 : (τ 7 i) = gnX τ δ i := by unfold gnX; rw [if_neg (xle_nlt.mpr c93)]
      have hv0 : x0 + 0 = hdX τ δ (i + 1) := by rw [hdX, if_neg (xle_nlt.mpr c93), hc.1]
      rw [hv5] at w122
      have w145 : M144 p = .inr (6, [.int (hdX τ δ (i + 1)), .int (nI A), .int (nI W), .ref (p + 1), .ref (p + 2), .ref (p + 3), .ref (p + 4), .ref (p + 5), .ref (p + 6), .ref (p + 7)]) := w144.trans (by rw [← hv0]; rfl)
      have hv2_2_p1 := ((o144 (p + 1) (by omega)).trans ((o122 (p + 1) (by omega)).trans tp1))
      have hv2_3_p2 := ((o144 (p + 2) (by omega)).trans ((o122 (p + 2) (by omega)).trans tp2))
      have hv2_4_p3 := ((o144 (p + 3) (by omega)).trans w122)
      have hv2_5_p4 := ((o144 (p + 4) (by omega)).trans ((o122 (p + 4) (by omega)).trans tp4))
      have hv2_6_p5 := ((o144 (p + 5) (by omega)).trans ((o122 (p + 5) (by omega)).trans tp5))
      have hv2_7_p6 := ((o144 (p + 6) (by omega)).trans ((o122 (p + 6) (by omega)).trans tp6))
      have hv2_8_p7 := ((o144 (p + 7) (by omega)).trans ((o122 (p + 7) (by omega)).trans tp7))
      refine x_pick (L' := [(3, .int (nI (i + 1))), (0, .ref p), (1, .ref q), (2, .ref d)]) [0, 2, 3, 4] rfl ?_
      exact ih (i + 1) M144 (hdX τ δ (i + 1)) (upd f5 i (gnX τ δ i)) (by omega) ⟨w145, hv2_2_p1, hv2_3_p2, hv2_4_p3, hv2_5_p4, hv2_6_p5, hv2_7_p6, hv2_8_p7⟩ (hS0.keep (fun j h1 h2 => (o144 j (by omega)).trans (o122 j (by omega)))) (hD0.keep (fun j h1 h2 => (o144 j (by omega)).trans (o122 j (by omega)))) ⟨rfl, upd_all hc.2⟩ (fun j hj => (o144 j (by omega)).trans ((o122 j (by omega)).trans (hf j hj)))
    · refine x_iconst (v := 1) (q := 96) dX6_takeUp_95 rfl (by decide) ?_
      refine x_goto (q := 100) dX6_takeUp_96 (by decide) ?_
      refine x_istore (L' := fun x4_100 => [(4, .int x4_100), (3, .int (nI i)), (0, .ref p), (1, .ref q), (2, .ref d)]) (q := 102) dX6_takeUp_100 rfl (by decide) (fun _ => rfl) (fun x4_100 ex4_100 => ?_)
      rw [show x4_100 = 1 from ex4_100]
      refine x_aload_n (q := 103) dX6_takeUp_102 rfl rfl ?_
      refine x_getf (C := RX6) (T := TX6) (N := 10) (k := 5) (q := 106) tp0 (by omega) rfl hiX6 (by decide) (by decide +kernel) rfl dX6_takeUp_103 rfl ?_
      refine x_iload_n (q := 107) dX6_takeUp_106 rfl rfl ?_
      refine x_iload (q := 109) dX6_takeUp_107 rfl rfl ?_
      refine x_if_eq (t := 116) (q := 112) dX6_takeUp_109 (by decide) rfl (fun c109 => absurd c109 (by decide)) (fun c109 => ?_)
      refine x_iconst (v := 0) (q := 113) dX6_takeUp_112 rfl (by decide) ?_
      refine x_goto (q := 122) dX6_takeUp_113 (by decide) ?_
      refine x_iast (q := 123) tp3 (by omega) (vp_in_nI (show i < 6 by omega) (by decide)) dX6_takeUp_122 rfl (fun M122 w122 o122 => ?_)
      refine x_aload_n (q := 124) dX6_takeUp_123 rfl rfl ?_
      refine x_dup (q := 125) dX6_takeUp_124 rfl rfl ?_
      have hv1_1_p := ((o122 (p) (by omega)).trans tp0)
      refine x_getf (C := RX6) (T := TX6) (N := 10) (k := 0) (q := 128) hv1_1_p (by omega) rfl hiX6 (by decide) (by decide +kernel) rfl dX6_takeUp_125 rfl ?_
      refine x_iload (q := 130) dX6_takeUp_128 rfl rfl ?_
      refine x_if_eq (t := 142) (q := 133) dX6_takeUp_130 (by decide) rfl (fun c130 => absurd c130 (by decide)) (fun c130 => ?_)
      refine x_aload_n (q := 134) dX6_takeUp_133 rfl rfl ?_
      have hv1_2_q := ((o122 (q) (by omega)).trans sp0)
      refine x_getf (C := RX8) (T := TX8) (N := 15) (k := 7) (q := 137) hv1_2_q (by omega) rfl hiX8 (by decide) (by decide +kernel) rfl dX6_takeUp_134 rfl ?_
      refine x_iload_n (q := 138) dX6_takeUp_137 rfl rfl ?_
      have hv1_3_q6 := ((o122 (q + 6) (by omega)).trans sp6)
      refine x_iald (q := 139) hv1_3_q6 (by omega) (vp_in_nI (show i < 6 by omega) (by decide)) dX6_takeUp_138 rfl ?_
      refine x_goto (q := 143) dX6_takeUp_139 (by decide) ?_
      refine x_iadd (q := 144) dX6_takeUp_143 rfl ?_
      refine x_put (C := RX6) (T := TX6) (N := 10) (k := 0) (q := 147) (ty := .int) tyX6_ok nmX6 hv1_1_p (by omega) rfl hiX6 (by decide) (by decide +kernel) rfl (by decide +kernel) (fun _ => rfl) (fun _ => rfl) (Nat.le_of_ble_eq_true rfl) dX6_takeUp_144 rfl (fun M144 w144 o144 => ?_)
      refine x_iinc (L' := fun x3_147 => [(3, .int x3_147), (4, .int (1)), (0, .ref p), (1, .ref q), (2, .ref d)]) (q := 150) dX6_takeUp_147 rfl rfl (by decide) (fun _ => rfl) (fun x3_147 ex3_147 => ?_)
      obtain rfl : x3_147 = nI (i + 1) := ex3_147.trans (nI_1 i)
      refine x_goto (q := 78) dX6_takeUp_150 (by decide) ?_
      rw [nIc (show i < 6 by omega) (by decide)] at w122 w144
      have c93 := c92
      rw [nIc (show i < 6 by omega) (by decide)] at c93
      have hv5 : 0 = gnX τ δ i := by unfold gnX; rw [if_pos (xlt_nle.mp c93)]
      have hv0 : x0 + τ 7 i = hdX τ δ (i + 1) := by rw [hdX, if_pos (xlt_nle.mp c93), hc.1]
      rw [hv5] at w122
      have w145 : M144 p = .inr (6, [.int (hdX τ δ (i + 1)), .int (nI A), .int (nI W), .ref (p + 1), .ref (p + 2), .ref (p + 3), .ref (p + 4), .ref (p + 5), .ref (p + 6), .ref (p + 7)]) := w144.trans (by rw [← hv0]; rfl)
      have hv2_4_p1 := ((o144 (p + 1) (by omega)).trans ((o122 (p + 1) (by omega)).trans tp1))
      have hv2_5_p2 := ((o144 (p + 2) (by omega)).trans ((o122 (p + 2) (by omega)).trans tp2))
      have hv2_6_p3 := ((o144 (p + 3) (by omega)).trans w122)
      have hv2_7_p4 := ((o144 (p + 4) (by omega)).trans ((o122 (p + 4) (by omega)).trans tp4))
      have hv2_8_p5 := ((o144 (p + 5) (by omega)).trans ((o122 (p + 5) (by omega)).trans tp5))
      have hv2_9_p6 := ((o144 (p + 6) (by omega)).trans ((o122 (p + 6) (by omega)).trans tp6))
      have hv2_10_p7 := ((o144 (p + 7) (by omega)).trans ((o122 (p + 7) (by omega)).trans tp7))
      refine x_pick (L' := [(3, .int (nI (i + 1))), (0, .ref p), (1, .ref q), (2, .ref d)]) [0, 2, 3, 4] rfl ?_
      exact ih (i + 1) M144 (hdX τ δ (i + 1)) (upd f5 i (gnX τ δ i)) (by omega) ⟨w145, hv2_4_p1, hv2_5_p2, hv2_6_p3, hv2_7_p4, hv2_8_p5, hv2_9_p6, hv2_10_p7⟩ (hS0.keep (fun j h1 h2 => (o144 j (by omega)).trans (o122 j (by omega)))) (hD0.keep (fun j h1 h2 => (o144 j (by omega)).trans (o122 j (by omega)))) ⟨rfl, upd_all hc.2⟩ (fun j hj => (o144 j (by omega)).trans ((o122 j (by omega)).trans (hf j hj)))

/-- the planner, taken up: what it holds -/
def plT (t τ δ : Nat → Nat → Int32) (A W : Nat) : Prop := t 0 0 = hdX τ δ W ∧ t 1 0 = nI A ∧ t 2 0 = nI W ∧ (∀ a, a < A → t 3 a = lfX δ a ∧ t 4 a = tSkill τ (nI a)) ∧ (∀ k, k < W → t 5 k = gnX τ δ k) ∧ ∀ S, S < 2 ^ W → t 6 S = fS (opM τ) W S ∧ t 7 S = fS (opO τ) W S ∧ t 8 S = fS (fun x k => x + gnX τ δ k) W S
theorem fS_cong {op op' : Int32 → Nat → Int32} : ∀ {k S : Nat}, (∀ j, j < k → ∀ x, op x j = op' x j) → fS op k S = fS op' k S
  | 0, _, _ => rfl
  | k + 1, S, h => by
    rw [fS, fS, h k (by omega), fS_cong (k := k) (S := S - 2 ^ k) (fun j hj => h j (by omega)), fS_cong (k := k) (S := S) (fun j hj => h j (by omega))]
set_option maxHeartbeats 4000000 in
set_option maxRecDepth 100000 in
theorem c_Pl_take {n : Nat} {M : Nat → xE} {p q d A W : Nat} {t τ δ : Nat → Nat → Int32} (hpq : p + 8 ≤ q ∨ q + 11 ≤ p) (hpd : p + 8 ≤ d ∨ d + 4 ≤ p) (hp : p + 7 < n) (hq : q + 10 < n) (hd : d + 3 < n) (hA : A ≤ 5) (hW : W ≤ 6) (h0 : τ 0 0 = nI A) (h3 : τ 3 0 = nI W) (hz : t 6 0 = 0 ∧ t 7 0 = 0 ∧ t 8 0 = 0) (hT : oX6 p t M) (hS : oX8 q τ M) (hD : oX3 d δ M) : xMet mX6_takeUp [.ref p, .ref q, .ref d] n M (fun r M' => none = r ∧ (∃ t', oX6 p t' M' ∧ plT t' τ δ A W) ∧ xfr p (p + 8) M M') := by
  have hS0 := hS
  have hD0 := hD
  obtain ⟨tp0, tp1, tp2, tp3, tp4, tp5, tp6, tp7⟩ := hT
  obtain ⟨sp0, sp1, sp2, sp3, sp4, sp5, sp6, sp7, sp8, sp9, sp10⟩ := hS
  rw [h0, h3] at sp0
  have hiX6 : ∀ w ∈ wsX60, w ∈ wsX6_takeUp := by decide +kernel
  have hiX8 : ∀ w ∈ wsX80, w ∈ wsX6_takeUp := by decide +kernel
  refine xMet.of _ (by decide) rfl (Nat.le_of_ble_eq_true rfl) ?_
  refine x_aload_n (q := 1) dX6_takeUp_0 rfl rfl ?_
  refine x_aload_n (q := 2) dX6_takeUp_1 rfl rfl ?_
  refine x_getf (C := RX8) (T := TX8) (N := 15) (k := 0) (q := 5) sp0 (by omega) rfl hiX8 (by decide) (by decide +kernel) rfl dX6_takeUp_2 rfl ?_
  refine x_put (C := RX6) (T := TX6) (N := 10) (k := 1) (q := 8) (ty := .int) tyX6_ok nmX6 tp0 (by omega) rfl hiX6 (by decide) (by decide +kernel) rfl (by decide +kernel) (fun _ => rfl) (fun _ => rfl) (Nat.le_of_ble_eq_true rfl) dX6_takeUp_5 rfl (fun M5 w5 o5 => ?_)
  refine x_aload_n (q := 9) dX6_takeUp_8 rfl rfl ?_
  refine x_aload_n (q := 10) dX6_takeUp_9 rfl rfl ?_
  have hv1_1_q := ((o5 (q) (by omega)).trans sp0)
  refine x_getf (C := RX8) (T := TX8) (N := 15) (k := 3) (q := 13) hv1_1_q (by omega) rfl hiX8 (by decide) (by decide +kernel) rfl dX6_takeUp_10 rfl ?_
  refine x_put (C := RX6) (T := TX6) (N := 10) (k := 2) (q := 16) (ty := .int) tyX6_ok nmX6 w5 (by omega) rfl hiX6 (by decide) (by decide +kernel) rfl (by decide +kernel) (fun _ => rfl) (fun _ => rfl) (Nat.le_of_ble_eq_true rfl) dX6_takeUp_13 rfl (fun M13 w13 o13 => ?_)
  refine x_aload_n (q := 17) dX6_takeUp_16 rfl rfl ?_
  refine x_iconst (v := 0) (q := 18) dX6_takeUp_17 rfl (by decide) ?_
  refine x_put (C := RX6) (T := TX6) (N := 10) (k := 0) (q := 21) (ty := .int) tyX6_ok nmX6 w13 (by omega) rfl hiX6 (by decide) (by decide +kernel) rfl (by decide +kernel) (fun _ => rfl) (fun _ => rfl) (Nat.le_of_ble_eq_true rfl) dX6_takeUp_18 rfl (fun M18 w18 o18 => ?_)
  refine x_iconst (v := 0) (q := 22) dX6_takeUp_21 rfl (by decide) ?_
  refine x_istore_n (L' := fun x3_22 => [(3, .int x3_22), (0, .ref p), (1, .ref q), (2, .ref d)]) (q := 23) dX6_takeUp_22 rfl (by decide) (fun _ => rfl) (fun x3_22 ex3_22 => ?_)
  subst ex3_22
  have hv3_2_p1 := ((o18 (p + 1) (by omega)).trans ((o13 (p + 1) (by omega)).trans ((o5 (p + 1) (by omega)).trans tp1)))
  have hv3_3_p2 := ((o18 (p + 2) (by omega)).trans ((o13 (p + 2) (by omega)).trans ((o5 (p + 2) (by omega)).trans tp2)))
  have hv3_4_p3 := ((o18 (p + 3) (by omega)).trans ((o13 (p + 3) (by omega)).trans ((o5 (p + 3) (by omega)).trans tp3)))
  have hv3_5_p4 := ((o18 (p + 4) (by omega)).trans ((o13 (p + 4) (by omega)).trans ((o5 (p + 4) (by omega)).trans tp4)))
  have hv3_6_p5 := ((o18 (p + 5) (by omega)).trans ((o13 (p + 5) (by omega)).trans ((o5 (p + 5) (by omega)).trans tp5)))
  have hv3_7_p6 := ((o18 (p + 6) (by omega)).trans ((o13 (p + 6) (by omega)).trans ((o5 (p + 6) (by omega)).trans tp6)))
  have hv3_8_p7 := ((o18 (p + 7) (by omega)).trans ((o13 (p + 7) (by omega)).trans ((o5 (p + 7) (by omega)).trans tp7)))
  refine l_Pl_tk1 (A := A) (W := W) (t := t) (x0 := 0) (M0 := M) hpq hpd hp hq hd hA hW (fun M76 f3 f4 f5 k1 k2 k3 k4 k5 => ?_) A 0 M18 (t 3) (t 4) (t 5) (by omega) ⟨w18, hv3_2_p1, hv3_3_p2, hv3_4_p3, hv3_5_p4, hv3_6_p5, hv3_7_p6, hv3_8_p7⟩ (hS0.keep (fun j h1 h2 => ((o18 j (by omega)).trans ((o13 j (by omega)).trans ((o5 j (by omega)).trans rfl))))) (hD0.keep (fun j h1 h2 => ((o18 j (by omega)).trans ((o13 j (by omega)).trans ((o5 j (by omega)).trans rfl))))) (fun a ha => absurd ha (by omega)) (fun j hj => ((o18 j (by omega)).trans ((o13 j (by omega)).trans ((o5 j (by omega)).trans rfl))))
  refine x_iconst (v := 0) (q := 77) dX6_takeUp_76 rfl (by decide) ?_
  refine x_istore_n (L' := fun x3_77 => [(3, .int x3_77), (0, .ref p), (1, .ref q), (2, .ref d)]) (q := 78) dX6_takeUp_77 rfl (by decide) (fun _ => rfl) (fun x3_77 ex3_77 => ?_)
  subst ex3_77
  refine l_Pl_tk2 (A := A) (W := W) (t := t) (M0 := M) (f3 := f3) (f4 := f4) hpq hpd hp hq hd hA hW (fun M153 x153 g5 m1 m2 m3 m4 m5 => ?_) W 0 M76 0 f5 (by omega) k1 k2 k3 ⟨rfl, fun k hk => absurd hk (by omega)⟩ k5
  refine x_aload_n (q := 154) dX6_takeUp_153 rfl rfl ?_
  refine x_aload_n (q := 155) dX6_takeUp_154 rfl rfl ?_
  refine x_callV (q := 158) (ci := 6) (c_Pl_add (t := fun z => if z = 0 then (fun _ => x153) else if z = 1 then (fun _ => nI A) else if z = 2 then (fun _ => nI W) else if z = 3 then f3 else if z = 4 then f4 else if z = 5 then g5 else t z) hpq hp hq hW rfl hz m1 m2) eX6_takeUp_69 gX6_takeUp_X6_addUpSets m1.1 (by omega) rfl rfl rfl (Nat.le_of_ble_eq_true rfl) ⟨Nat.le_refl _, Nat.le_refl _⟩ dX6_takeUp_155 rfl rfl (fun r155 M155 p155 => ?_)
  obtain ⟨rfl, ⟨h6, h7, h8, z1, z2⟩, z3⟩ := p155
  refine x_vret dX6_takeUp_158 rfl rfl (Nat.le_refl _) ?_
  refine ⟨rfl, ⟨_, z1, m4.1, rfl, rfl, k4, m4.2, fun S hS9 => ?_⟩, fun j hj => (z3 j hj).trans (m5 j hj)⟩
  obtain ⟨q1, q2, q3⟩ := z2 S hS9
  exact ⟨q1, q2, q3.trans (fS_cong (fun j hj x => congrArg (fun y => x + y) (m4.2 j hj)))⟩
  
  

