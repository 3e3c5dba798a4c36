def oPl (M : Nat → xE) : Prop := ∃ t, oX6 72 t M ∧ t 6 0 = 0 ∧ t 7 0 = 0 ∧ t 8 0 = 0
def oMa (M : Nat → xE) : Prop := ∃ t, oX4 80 t M
def oCo (M : Nat → xE) : Prop := ∃ t, oX2 90 t M ∧ t 4 0 = 0
def oCh (t : Nat → Nat → Int32) (M : Nat → xE) : Prop := ∃ u, oX1 83 t u M
def oBa (B : Nat) (s : Nat → Int32) (M : Nat → xE) : Prop := ∃ t, oX0 95 t M ∧ t 0 0 = nI B ∧ t 1 = s
def fSN (g : Nat → Nat) : Nat → Nat → Nat
  | 0, _ => 0
  | k + 1, S => if S.testBit k then fSN g k (S - 2 ^ k) + g k else fSN g k S
theorem fSN_le {g : Nat → Nat} {b : Nat} : ∀ k, (∀ j, j < k → g j ≤ b) → ∀ S, fSN g k S ≤ k * b
  | 0, _, _ => Nat.zero_le _
  | k + 1, h, S => by
    have i1 := fSN_le k (fun j hj => h j (by omega)) (S - 2 ^ k)
    have i2 := fSN_le k (fun j hj => h j (by omega)) S
    have i3 := h k (by omega)
    rw [fSN, Nat.succ_mul]
    split <;> omega
theorem fS_nI {f : Nat → Int32} {g : Nat → Nat} : ∀ k, (∀ j, j < k → f j = nI (g j)) → ∀ S, fS (fun x j => x + f j) k S = nI (fSN g k S)
  | 0, _, _ => rfl
  | k + 1, h, S => by
    rw [fS, fSN]
    split
    · rw [fS_nI k (fun j hj => h j (by omega)), h k (by omega), nI_add]
    · exact fS_nI k (fun j hj => h j (by omega)) S
def gnN (τ δ : Nat → Nat → Int32) (k : Nat) : Nat := (gnX τ δ k).toNatClampNeg
theorem gnN_ok {τ δ : Nat → Nat → Int32} {k : Nat} (h : vp_in (τ 7 k) 51) : gnX τ δ k = nI (gnN τ δ k) ∧ gnN τ δ k ≤ 50 := by
  obtain ⟨j, hj, e⟩ := vp_in_of h (by decide)
  unfold gnN gnX
  split
  · exact ⟨rfl, Nat.zero_le _⟩
  · rw [e, nI_clamp (by omega)]; exact ⟨rfl, by omega⟩
theorem plT_go {t τ δ : Nat → Nat → Int32} {A W : Nat} (h : plT t τ δ A W) (hw : ∀ k, k < W → vp_in (τ 7 k) 51) : ∀ U, U < 2 ^ W → t 8 U = nI (fSN (gnN τ δ) W U) := fun U hU => by
  rw [(h.2.2.2.2.2 U hU).2.2]
  exact fS_nI W (fun j hj => (gnN_ok (hw j hj)).1) U
theorem go_le {τ δ : Nat → Nat → Int32} {W : Nat} (hW : W ≤ 6) (hw : ∀ k, k < W → vp_in (τ 7 k) 51) : ∀ U, fSN (gnN τ δ) W U ≤ 1000 := fun U => Nat.le_trans (fSN_le W (fun j hj => (gnN_ok (hw j hj)).2) U) (Nat.le_trans (Nat.mul_le_mul_right 50 hW) (by decide))
theorem plT_0 {t τ δ : Nat → Nat → Int32} {A W : Nat} (h : plT t τ δ A W) : t 6 0 = 0 ∧ t 7 0 = 0 ∧ t 8 0 = 0 := by
  have := h.2.2.2.2.2 0 (Nat.two_pow_pos W)
  rw [fS_0, fS_0, fS_0] at this
  exact this
set_option maxHeartbeats 4000000 in
set_option maxRecDepth 100000 in
theorem c_plan {n : Nat} {M : Nat → xE} {kb : Int32} (hn : 98 < n) (hX : oX10 kb M) {τ : Nat → Nat → Int32} (hT : oX8 1 τ M) {δ : Nat → Nat → Int32} (hD : oX3 25 δ M) {P : Nat} (hP : P ≤ 5) (hP0 : τ 0 0 = nI P) {W : Nat} (hW : W ≤ 6) (hW0 : τ 3 0 = nI W) (hPl : oPl M) (hwt : ∀ k, k < W → vp_in (τ 7 k) 51) : xMet mX10_plan [.ref 0] n M (fun r M' => (∃ t', plT t' τ δ P W ∧ some (.int (hdX τ δ W + nI (plM t' (fSN (gnN τ δ) W) P W 0))) = r) ∧ oPl M' ∧ xfr 72 80 M M') := by
  obtain ⟨tl, hL, hz⟩ := hPl
  have hT0 := hT
  have hD0 := hD
  obtain ⟨tp0, tp1, tp2, tp3, tp4, tp5, tp6, tp7, tp8, tp9, tp10⟩ := hT
  obtain ⟨dp0, dp1, dp2, dp3⟩ := hD
  have hiX10 : ∀ w ∈ wsX100, w ∈ wsX10_plan := by decide +kernel
  have hiX6 : ∀ w ∈ wsX60, w ∈ wsX10_plan := by decide +kernel
  refine xMet.of _ (by decide) rfl (Nat.le_of_ble_eq_true rfl) ?_
  refine x_aload_n (q := 1) dX10_plan_0 rfl rfl ?_
  refine x_getf (C := RX10) (T := TX10) (N := 12) (k := 5) (q := 4) hX (by omega) rfl hiX10 (by decide) (by decide +kernel) rfl dX10_plan_1 rfl ?_
  refine x_aload_n (q := 5) dX10_plan_4 rfl rfl ?_
  refine x_getf (C := RX10) (T := TX10) (N := 12) (k := 0) (q := 8) hX (by omega) rfl hiX10 (by decide) (by decide +kernel) rfl dX10_plan_5 rfl ?_
  refine x_aload_n (q := 9) dX10_plan_8 rfl rfl ?_
  refine x_getf (C := RX10) (T := TX10) (N := 12) (k := 2) (q := 12) hX (by omega) rfl hiX10 (by decide) (by decide +kernel) rfl dX10_plan_9 rfl ?_
  refine x_callV (q := 15) (ci := 6) (c_Pl_take (p := 72) (q := 1) (d := 25) (by omega) (by omega) (by omega) (by omega) (by omega) hP hW hP0 hW0 hz hL hT0 hD0) eX10_plan_219 gX10_plan_X6_takeUp hL.1 (by omega) rfl rfl rfl (Nat.le_of_ble_eq_true rfl) ⟨Nat.le_refl _, Nat.le_refl _⟩ dX10_plan_12 rfl rfl (fun r12 M12 p12 => ?_)
  obtain ⟨rfl, ⟨t9, hU12, hpl⟩, fr12⟩ := p12
  refine x_aload_n (q := 16) dX10_plan_15 rfl rfl ?_
  have hv1_1_0 := ((fr12 (0) (by omega)).trans hX)
  refine x_getf (C := RX10) (T := TX10) (N := 12) (k := 5) (q := 19) hv1_1_0 (by omega) rfl hiX10 (by decide) (by decide +kernel) rfl dX10_plan_16 rfl ?_
  refine x_getf (C := RX6) (T := TX6) (N := 10) (k := 0) (q := 22) hU12.1 (by omega) rfl hiX6 (by decide) (by decide +kernel) rfl dX10_plan_19 rfl ?_
  refine x_aload_n (q := 23) dX10_plan_22 rfl rfl ?_
  refine x_getf (C := RX10) (T := TX10) (N := 12) (k := 5) (q := 26) hv1_1_0 (by omega) rfl hiX10 (by decide) (by decide +kernel) rfl dX10_plan_23 rfl ?_
  refine x_iconst (v := 0) (q := 27) dX10_plan_26 rfl (by decide) ?_
  refine x_callV (q := 30) (ci := 6) (c_Pl_from (p := 72) (go := (fSN (gnN τ δ) W)) (A := P) (W := W) (f := 0) (by omega) hP hW (Nat.zero_le _) hpl.2.1 hpl.2.2.1 (plT_go hpl hwt) (go_le hW hwt) hU12) eX10_plan_226 gX10_plan_X6_mostFrom hU12.1 (by omega) rfl rfl rfl (Nat.le_of_ble_eq_true rfl) ⟨Nat.le_refl _, Nat.le_refl _⟩ dX10_plan_27 rfl rfl (fun r27 M27 p27 => ?_)
  obtain ⟨rfl, ⟨h9, hV27⟩, fr27⟩ := p27
  refine x_iadd (q := 31) dX10_plan_30 rfl ?_
  refine x_iret dX10_plan_31 rfl rfl (Nat.le_refl _) ?_
  exact ⟨⟨t9, hpl, by rw [← hpl.1]⟩, ⟨_, hV27, plT_0 hpl⟩, fun j hj => (fr27 j hj).trans (fr12 j hj)⟩

set_option maxHeartbeats 4000000 in
set_option maxRecDepth 100000 in
theorem c_planOf {n : Nat} {M : Nat → xE} {kb : Int32} (hn : 98 < n) (hX : oX10 kb M) {τ : Nat → Nat → Int32} (hT : oX8 1 τ M) {δ : Nat → Nat → Int32} (hD : oX3 25 δ M) {P : Nat} (hP : P ≤ 5) (hP0 : τ 0 0 = nI P) {W : Nat} (hW : W ≤ 6) (hW0 : τ 3 0 = nI W) (hPl : oPl M) (hwt : ∀ k, k < W → vp_in (τ 7 k) 51) {a : Int32} : xMet mX10_planOf [.ref 0, .int a] n M (fun r M' => if inB a W = true then ((∃ t', plT t' τ δ P W ∧ some (.int (oI (doX t' (fSN (gnN τ δ) W) P W a.toNatClampNeg))) = r) ∧ oPl M' ∧ xfr 72 80 M M') else (M = M' ∧ some (.int (-2)) = r)) := by
  obtain ⟨tl, hL, hz⟩ := hPl
  have hT0 := hT
  have hD0 := hD
  obtain ⟨tp0, tp1, tp2, tp3, tp4, tp5, tp6, tp7, tp8, tp9, tp10⟩ := hT
  obtain ⟨dp0, dp1, dp2, dp3⟩ := hD
  have hiX10 : ∀ w ∈ wsX100, w ∈ wsX10_planOf := by decide +kernel
  refine xMet.of _ (by decide) rfl (Nat.le_of_ble_eq_true rfl) ?_
  refine x_aload_n (q := 1) dX10_planOf_0 rfl rfl ?_
  refine x_iload_n (q := 2) dX10_planOf_1 rfl rfl ?_
  refine x_callV (q := 5) (ci := 10) (c_noWork hn hX hT0 hW hW0) eX10_planOf_151 gX10_planOf_X10_isNoWork hX (by omega) rfl rfl rfl (Nat.le_of_ble_eq_true rfl) ⟨Nat.le_refl _, Nat.le_refl _⟩ dX10_planOf_2 rfl rfl (fun r2 M2 p2 => ?_)
  obtain ⟨rfl, p2⟩ := p2
  rcases p2 with ⟨b2, rfl⟩ | ⟨b2, rfl⟩
  · refine x_if_eq (t := 11) (q := 8) dX10_planOf_5 (by decide) rfl (fun c5 => absurd c5 (by decide)) (fun c5 => ?_)
    refine x_bipush (v := -2) (q := 10) dX10_planOf_8 rfl (by decide) ?_
    refine x_iret dX10_planOf_10 rfl rfl (Nat.le_refl _) ?_
    rw [if_neg (show ¬ inB a W = true by rw [b2]; decide)]
    exact ⟨rfl, rfl⟩
  · have v2 := inV b2
    have vw : vp_in a 6 := by rw [vp_in_iff] at v2 ⊢; omega
    refine x_if_eq (t := 11) (q := 8) dX10_planOf_5 (by decide) rfl (fun c5 => ?_) (fun c5 => absurd c5 (by decide))
    refine x_aload_n (q := 12) dX10_planOf_11 rfl rfl ?_
    refine x_getf (C := RX10) (T := TX10) (N := 12) (k := 5) (q := 15) hX (by omega) rfl hiX10 (by decide) (by decide +kernel) rfl dX10_planOf_12 rfl ?_
    refine x_aload_n (q := 16) dX10_planOf_15 rfl rfl ?_
    refine x_getf (C := RX10) (T := TX10) (N := 12) (k := 0) (q := 19) hX (by omega) rfl hiX10 (by decide) (by decide +kernel) rfl dX10_planOf_16 rfl ?_
    refine x_aload_n (q := 20) dX10_planOf_19 rfl rfl ?_
    refine x_getf (C := RX10) (T := TX10) (N := 12) (k := 2) (q := 23) hX (by omega) rfl hiX10 (by decide) (by decide +kernel) rfl dX10_planOf_20 rfl ?_
    refine x_callV (q := 26) (ci := 6) (c_Pl_take (p := 72) (q := 1) (d := 25) (by omega) (by omega) (by omega) (by omega) (by omega) hP hW hP0 hW0 hz hL hT0 hD0) eX10_planOf_219 gX10_planOf_X6_takeUp hL.1 (by omega) rfl rfl rfl (Nat.le_of_ble_eq_true rfl) ⟨Nat.le_refl _, Nat.le_refl _⟩ dX10_planOf_23 rfl rfl (fun r23 M23 p23 => ?_)
    obtain ⟨rfl, ⟨t9, hU23, hpl⟩, fr23⟩ := p23
    refine x_aload_n (q := 27) dX10_planOf_26 rfl rfl ?_
    have hv1_1_0 := ((fr23 (0) (by omega)).trans hX)
    refine x_getf (C := RX10) (T := TX10) (N := 12) (k := 5) (q := 30) hv1_1_0 (by omega) rfl hiX10 (by decide) (by decide +kernel) rfl dX10_planOf_27 rfl ?_
    refine x_iload_n (q := 31) dX10_planOf_30 rfl rfl ?_
    obtain ⟨k9, hk9, rfl⟩ := vp_in_of v2 (by omega)
    refine x_callV (q := 34) (ci := 6) (c_Pl_do (p := 72) (B := k9) (go := (fSN (gnN τ δ) W)) (A := P) (W := W) (by omega) hP hW hpl.2.1 hpl.2.2.1 (plT_go hpl hwt) (go_le hW hwt) hk9 hU23) eX10_planOf_230 gX10_planOf_X6_doerOf hU23.1 (by omega) rfl rfl rfl (Nat.le_of_ble_eq_true rfl) ⟨Nat.le_refl _, Nat.le_refl _⟩ dX10_planOf_31 rfl rfl (fun r31 M31 p31 => ?_)
    obtain ⟨rfl, ⟨t8, hV31, he31⟩, fr31⟩ := p31
    refine x_iret dX10_planOf_34 rfl rfl (Nat.le_refl _) ?_
    rw [if_pos (inT b2), nI_clamp (by omega)]
    exact ⟨⟨t9, hpl, rfl⟩, ⟨t8, hV31, by rw [he31 6 (by decide) (by decide), he31 7 (by decide) (by decide), he31 8 (by decide) (by decide)]; exact plT_0 hpl⟩, fun j hj => (fr31 j hj).trans (fr23 j hj)⟩

set_option maxHeartbeats 4000000 in
set_option maxRecDepth 100000 in
theorem c_shortest {n : Nat} {M : Nat → xE} {kb : Int32} (hn : 98 < n) (hX : oX10 kb M) {τ : Nat → Nat → Int32} (hT : oX8 1 τ M) {δ : Nat → Nat → Int32} (hD : oX3 25 δ M) {P : Nat} (hP : P ≤ 5) (hP0 : τ 0 0 = nI P) {W : Nat} (hW : W ≤ 6) (hW0 : τ 3 0 = nI W) (hPl : oPl M) (hwt : ∀ k, k < W → vp_in (τ 7 k) 51) : xMet mX10_shortest [.ref 0] n M (fun r M' => (∃ t', plT t' τ δ P W ∧ some (.int (nI (shX t' (fSN (gnN τ δ) W) P W))) = r) ∧ oPl M' ∧ xfr 72 80 M M') := by
  obtain ⟨tl, hL, hz⟩ := hPl
  have hT0 := hT
  have hD0 := hD
  obtain ⟨tp0, tp1, tp2, tp3, tp4, tp5, tp6, tp7, tp8, tp9, tp10⟩ := hT
  obtain ⟨dp0, dp1, dp2, dp3⟩ := hD
  have hiX10 : ∀ w ∈ wsX100, w ∈ wsX10_shortest := by decide +kernel
  refine xMet.of _ (by decide) rfl (Nat.le_of_ble_eq_true rfl) ?_
  refine x_aload_n (q := 1) dX10_shortest_0 rfl rfl ?_
  refine x_getf (C := RX10) (T := TX10) (N := 12) (k := 5) (q := 4) hX (by omega) rfl hiX10 (by decide) (by decide +kernel) rfl dX10_shortest_1 rfl ?_
  refine x_aload_n (q := 5) dX10_shortest_4 rfl rfl ?_
  refine x_getf (C := RX10) (T := TX10) (N := 12) (k := 0) (q := 8) hX (by omega) rfl hiX10 (by decide) (by decide +kernel) rfl dX10_shortest_5 rfl ?_
  refine x_aload_n (q := 9) dX10_shortest_8 rfl rfl ?_
  refine x_getf (C := RX10) (T := TX10) (N := 12) (k := 2) (q := 12) hX (by omega) rfl hiX10 (by decide) (by decide +kernel) rfl dX10_shortest_9 rfl ?_
  refine x_callV (q := 15) (ci := 6) (c_Pl_take (p := 72) (q := 1) (d := 25) (by omega) (by omega) (by omega) (by omega) (by omega) hP hW hP0 hW0 hz hL hT0 hD0) eX10_shortest_219 gX10_shortest_X6_takeUp hL.1 (by omega) rfl rfl rfl (Nat.le_of_ble_eq_true rfl) ⟨Nat.le_refl _, Nat.le_refl _⟩ dX10_shortest_12 rfl rfl (fun r12 M12 p12 => ?_)
  obtain ⟨rfl, ⟨t9, hU12, hpl⟩, fr12⟩ := p12
  refine x_aload_n (q := 16) dX10_shortest_15 rfl rfl ?_
  have hv1_1_0 := ((fr12 (0) (by omega)).trans hX)
  refine x_getf (C := RX10) (T := TX10) (N := 12) (k := 5) (q := 19) hv1_1_0 (by omega) rfl hiX10 (by decide) (by decide +kernel) rfl dX10_shortest_16 rfl ?_
  refine x_callV (q := 22) (ci := 6) (c_Pl_short (p := 72) (go := (fSN (gnN τ δ) W)) (A := P) (W := W) (by omega) hP hW hpl.2.1 hpl.2.2.1 (plT_go hpl hwt) (go_le hW hwt) hU12) eX10_shortest_233 gX10_shortest_X6_shortestLength hU12.1 (by omega) rfl rfl rfl (Nat.le_of_ble_eq_true rfl) ⟨Nat.le_refl _, Nat.le_refl _⟩ dX10_shortest_19 rfl rfl (fun r19 M19 p19 => ?_)
  obtain ⟨rfl, ⟨t8, hV19, he19⟩, fr19⟩ := p19
  refine x_iret dX10_shortest_22 rfl rfl (Nat.le_refl _) ?_
  exact ⟨⟨t9, hpl, rfl⟩, ⟨t8, hV19, by rw [he19 6 (by decide) (by decide), he19 7 (by decide) (by decide), he19 8 (by decide) (by decide)]; exact plT_0 hpl⟩, fun j hj => (fr19 j hj).trans (fr12 j hj)⟩

def prN (τ δ : Nat → Nat → Int32) (j e : Nat) : Nat := (tPrice τ (nI j) (δ 0 0 + nI e)).toNatClampNeg
def in19 (a : Int32) : Bool := decide (¬ (a < 1 ∨ 9 < a))
theorem in19_of {a : Int32} (h : ¬ (a < 1 ∨ 9 < a)) : ∃ D, 1 ≤ D ∧ D ≤ 9 ∧ a = nI D := by
  obtain ⟨j, hj, e⟩ := nI_of2 (M := 9) (n := 9) rfl (fun h0 => h (Or.inl (by rw [fa_lt] at h0 ⊢; have : (0 : Int32).toInt = 0 := rfl; have : (1 : Int32).toInt = 1 := rfl; omega))) (xle_nlt.mp (fun h9 => h (Or.inr h9)))
  refine ⟨j, ?_, hj, e⟩
  cases j with
  | zero => exact absurd (Or.inl (by rw [e]; decide)) h
  | succ k => omega
def kSale (τ δ : Nat → Nat → Int32) (G : Nat) (a b : Int32) : Int32 := if b = -1 ∨ inB b G = true then (if in19 a = true then (if b = -1 then nI (msk (prN τ δ) G 0 a.toNatClampNeg (unS (δ 6 0) G)) else oI (dayX (prN τ δ) G a.toNatClampNeg (unS (δ 6 0) G) b.toNatClampNeg)) else -3) else -2
set_option maxHeartbeats 4000000 in
set_option maxRecDepth 100000 in
theorem c_sale {n : Nat} {M : Nat → xE} {kb : Int32} (hn : 98 < n) (hX : oX10 kb M) {τ : Nat → Nat → Int32} (hT : oX8 1 τ M) {δ : Nat → Nat → Int32} (hD : oX3 25 δ M) {G : Nat} (hG : G ≤ 5) (hG0 : τ 8 0 = nI G) (hpr : ∀ j, j < G → ∀ e, e < 9 → vp_in (tPrice τ (nI j) (δ 0 0 + nI e)) 20001) (hMa : oMa M) {a b : Int32} : xMet mX10_sale [.ref 0, .int a, .int b] n M (fun r M' => some (.int (kSale τ δ G a b)) = r ∧ oMa M' ∧ xfr 80 83 M M') := by
  have hMa0 := hMa
  obtain ⟨tm, hLm⟩ := hMa
  have hT0 := hT
  have hD0 := hD
  obtain ⟨tp0, tp1, tp2, tp3, tp4, tp5, tp6, tp7, tp8, tp9, tp10⟩ := hT
  obtain ⟨dp0, dp1, dp2, dp3⟩ := hD
  have hiX10 : ∀ w ∈ wsX100, w ∈ wsX10_sale := by decide +kernel
  have hiX4 : ∀ w ∈ wsX40, w ∈ wsX10_sale := by decide +kernel
  refine xMet.of _ (by decide) rfl (Nat.le_of_ble_eq_true rfl) ?_
  refine x_iload_n (q := 1) dX10_sale_0 rfl rfl ?_
  refine x_iconst (v := -1) (q := 2) dX10_sale_1 rfl (by decide) ?_
  refine x_icmp_eq (t := 16) (q := 5) dX10_sale_2 (by decide) rfl (fun c2 => ?_) (fun c2 => ?_)
  · have vg : ¬ b = -1 → vp_in b G := fun h => absurd c2 h
    refine x_iload_n (q := 17) dX10_sale_16 rfl rfl ?_
    refine x_iconst (v := 1) (q := 18) dX10_sale_17 rfl (by decide) ?_
    refine x_bipush (v := 9) (q := 20) dX10_sale_18 rfl (by decide) ?_
    refine x_callS (q := 23) c_isOutside eX10_sale_94 gX10_sale_X10_isOutside rfl (Nat.le_of_ble_eq_true rfl) ⟨Nat.le_refl _, Nat.le_refl _⟩ dX10_sale_20 rfl rfl (fun r20 M20 p20 => ?_)
    obtain ⟨rfl, p20⟩ := p20
    rcases p20 with ⟨b20, rfl⟩ | ⟨b20, rfl⟩
    · refine x_if_eq (t := 29) (q := 26) dX10_sale_23 (by decide) rfl (fun c23 => absurd c23 (by decide)) (fun c23 => ?_)
      refine x_bipush (v := -3) (q := 28) dX10_sale_26 rfl (by decide) ?_
      refine x_iret dX10_sale_28 rfl rfl (Nat.le_refl _) ?_
      refine ⟨?_, hMa0, fun j hj => rfl⟩
      unfold kSale
      rw [if_pos (Or.inl c2), if_neg (show ¬ in19 a = true by unfold in19; rw [decide_eq_true_iff]; exact fun h => h b20)]
    · refine x_if_eq (t := 29) (q := 26) dX10_sale_23 (by decide) rfl (fun c23 => ?_) (fun c23 => absurd c23 (by decide))
      refine x_aload_n (q := 30) dX10_sale_29 rfl rfl ?_
      refine x_getf (C := RX10) (T := TX10) (N := 12) (k := 6) (q := 33) hX (by omega) rfl hiX10 (by decide) (by decide +kernel) rfl dX10_sale_30 rfl ?_
      refine x_aload_n (q := 34) dX10_sale_33 rfl rfl ?_
      refine x_getf (C := RX10) (T := TX10) (N := 12) (k := 0) (q := 37) hX (by omega) rfl hiX10 (by decide) (by decide +kernel) rfl dX10_sale_34 rfl ?_
      refine x_aload_n (q := 38) dX10_sale_37 rfl rfl ?_
      refine x_getf (C := RX10) (T := TX10) (N := 12) (k := 2) (q := 41) hX (by omega) rfl hiX10 (by decide) (by decide +kernel) rfl dX10_sale_38 rfl ?_
      refine x_iload_n (q := 42) dX10_sale_41 rfl rfl ?_
      obtain ⟨D, hD1, hD9, rfl⟩ := in19_of b20
      refine x_callV (q := 45) (ci := 4) (c_Ma_take (p := 80) (q := 1) (d := 25) (D := D) (by omega) (by omega) (by omega) (by omega) (by omega) hG hD9 hG0 hLm hT0 hD0) eX10_sale_237 gX10_sale_X4_takeUp hLm.1 (by omega) rfl rfl rfl (Nat.le_of_ble_eq_true rfl) ⟨Nat.le_refl _, Nat.le_refl _⟩ dX10_sale_42 rfl rfl (fun r42 M42 p42 => ?_)
      obtain ⟨rfl, ⟨t9, hU42, e0, e1, e2, e3⟩, fr42⟩ := p42
      have hU0 : M42 80 = .inr (4, [.int (nI (unS (δ 6 0) G)), .int (t9 1 0), .int (t9 2 0), .ref (80 + 1), .ref (80 + 2)]) := by rw [hU42.1, e0]
      have hprN : ∀ j, j < G → ∀ d, d < D → t9 3 (9 * j + d) = nI (prN τ δ j d) ∧ prN τ δ j d ≤ 20000 := by
        intro j hj d hd
        obtain ⟨v, hv, ev⟩ := vp_in_of (hpr j hj d (by omega)) (by decide)
        rw [e3 j hj d hd]
        unfold prN
        rw [ev, nI_clamp (by omega)]
        exact ⟨rfl, by omega⟩
      refine x_iload_n (q := 46) dX10_sale_45 rfl rfl ?_
      refine x_iconst (v := -1) (q := 47) dX10_sale_46 rfl (by decide) ?_
      refine x_icmp_ne (t := 68) (q := 50) dX10_sale_47 (by decide) rfl (fun c47 => ?_) (fun c47 => ?_)
      · refine x_aload_n (q := 69) dX10_sale_68 rfl rfl ?_
        have hv1_1_0 := ((fr42 (0) (by omega)).trans hX)
        refine x_getf (C := RX10) (T := TX10) (N := 12) (k := 6) (q := 72) hv1_1_0 (by omega) rfl hiX10 (by decide) (by decide +kernel) rfl dX10_sale_69 rfl ?_
        refine x_iload_n (q := 73) dX10_sale_72 rfl rfl ?_
        obtain ⟨k9, hk9, rfl⟩ := vp_in_of (vg c47) (by omega)
        refine x_callV (q := 76) (ci := 4) (c_Ma_day (p := 80) (A := k9) (pr := prN τ δ) (U := unS (δ 6 0) G) (by omega) hD9 hG hk9 e0 (unS_lt (δ 6 0) hG) e1 e2 hprN hU42) eX10_sale_246 gX10_sale_X4_dayOf hU0 (by omega) rfl rfl rfl (Nat.le_of_ble_eq_true rfl) ⟨Nat.le_refl _, Nat.le_refl _⟩ dX10_sale_73 rfl rfl (fun r73 M73 p73 => ?_)
        obtain ⟨rfl, ⟨h9, hV73⟩, fr73⟩ := p73
        refine x_iret dX10_sale_76 rfl rfl (Nat.le_refl _) ?_
        refine ⟨?_, ⟨_, hV73⟩, fun j hj => (fr73 j hj).trans (fr42 j hj)⟩
        unfold kSale
        rw [if_pos (Or.inl c2), if_pos (show in19 (nI D) = true by unfold in19; rw [decide_eq_true_iff]; exact b20), if_neg c47, nI_clamp (show D < 2 ^ 31 by omega), nI_clamp (show k9 < 2 ^ 31 by omega)]
      · refine x_aload_n (q := 51) dX10_sale_50 rfl rfl ?_
        have hv1_1_0 := ((fr42 (0) (by omega)).trans hX)
        refine x_getf (C := RX10) (T := TX10) (N := 12) (k := 6) (q := 54) hv1_1_0 (by omega) rfl hiX10 (by decide) (by decide +kernel) rfl dX10_sale_51 rfl ?_
        refine x_aload_n (q := 55) dX10_sale_54 rfl rfl ?_
        refine x_getf (C := RX10) (T := TX10) (N := 12) (k := 6) (q := 58) hv1_1_0 (by omega) rfl hiX10 (by decide) (by decide +kernel) rfl dX10_sale_55 rfl ?_
        refine x_getf (C := RX4) (T := TX4) (N := 5) (k := 0) (q := 61) hU0 (by omega) rfl hiX4 (by decide) (by decide +kernel) rfl dX10_sale_58 rfl ?_
        refine x_iconst (v := 0) (q := 62) dX10_sale_61 rfl (by decide) ?_
        refine x_callV (q := 65) (ci := 4) (c_Ma_of (p := 80) (pr := prN τ δ) (S := unS (δ 6 0) G) (T := 0) (by omega) hD9 hG e1 e2 (unS_lt (δ 6 0) hG) hprN hU42) eX10_sale_243 gX10_sale_X4_mostOf hU0 (by omega) rfl rfl rfl (Nat.le_of_ble_eq_true rfl) ⟨Nat.le_refl _, Nat.le_refl _⟩ dX10_sale_62 rfl rfl (fun r62 M62 p62 => ?_)
        obtain ⟨rfl, ⟨h9, hV62⟩, fr62⟩ := p62
        refine x_goto (q := 76) dX10_sale_65 (by decide) ?_
        refine x_iret dX10_sale_76 rfl rfl (Nat.le_refl _) ?_
        refine ⟨?_, ⟨_, hV62⟩, fun j hj => (fr62 j hj).trans (fr42 j hj)⟩
        unfold kSale
        rw [if_pos (Or.inl c2), if_pos (show in19 (nI D) = true by unfold in19; rw [decide_eq_true_iff]; exact b20), if_pos c47, nI_clamp (show D < 2 ^ 31 by omega)]
  · refine x_aload_n (q := 6) dX10_sale_5 rfl rfl ?_
    refine x_iload_n (q := 7) dX10_sale_6 rfl rfl ?_
    refine x_callV (q := 10) (ci := 10) (c_noGood hn hX hT0 hG hG0) eX10_sale_169 gX10_sale_X10_isNoGood hX (by omega) rfl rfl rfl (Nat.le_of_ble_eq_true rfl) ⟨Nat.le_refl _, Nat.le_refl _⟩ dX10_sale_7 rfl rfl (fun r7 M7 p7 => ?_)
    obtain ⟨rfl, p7⟩ := p7
    rcases p7 with ⟨b7, rfl⟩ | ⟨b7, rfl⟩
    · refine x_if_eq (t := 16) (q := 13) dX10_sale_10 (by decide) rfl (fun c10 => absurd c10 (by decide)) (fun c10 => ?_)
      refine x_bipush (v := -2) (q := 15) dX10_sale_13 rfl (by decide) ?_
      refine x_iret dX10_sale_15 rfl rfl (Nat.le_refl _) ?_
      refine ⟨?_, hMa0, fun j hj => rfl⟩
      unfold kSale
      rw [if_neg (fun h => h.elim c2 (fun h => by rw [b7] at h; exact absurd h (by decide)))]
    · refine x_if_eq (t := 16) (q := 13) dX10_sale_10 (by decide) rfl (fun c10 => ?_) (fun c10 => absurd c10 (by decide))
      have vg : ¬ b = -1 → vp_in b G := fun _ => inV b7
      refine x_iload_n (q := 17) dX10_sale_16 rfl rfl ?_
      refine x_iconst (v := 1) (q := 18) dX10_sale_17 rfl (by decide) ?_
      refine x_bipush (v := 9) (q := 20) dX10_sale_18 rfl (by decide) ?_
      refine x_callS (q := 23) c_isOutside eX10_sale_94 gX10_sale_X10_isOutside rfl (Nat.le_of_ble_eq_true rfl) ⟨Nat.le_refl _, Nat.le_refl _⟩ dX10_sale_20 rfl rfl (fun r20 M20 p20 => ?_)
      obtain ⟨rfl, p20⟩ := p20
      rcases p20 with ⟨b20, rfl⟩ | ⟨b20, rfl⟩
      · refine x_if_eq (t := 29) (q := 26) dX10_sale_23 (by decide) rfl (fun c23 => absurd c23 (by decide)) (fun c23 => ?_)
        refine x_bipush (v := -3) (q := 28) dX10_sale_26 rfl (by decide) ?_
        refine x_iret dX10_sale_28 rfl rfl (Nat.le_refl _) ?_
        refine ⟨?_, hMa0, fun j hj => rfl⟩
        unfold kSale
        rw [if_pos (Or.inr (inT b7)), if_neg (show ¬ in19 a = true by unfold in19; rw [decide_eq_true_iff]; exact fun h => h b20)]
      · refine x_if_eq (t := 29) (q := 26) dX10_sale_23 (by decide) rfl (fun c23 => ?_) (fun c23 => absurd c23 (by decide))
        refine x_aload_n (q := 30) dX10_sale_29 rfl rfl ?_
        refine x_getf (C := RX10) (T := TX10) (N := 12) (k := 6) (q := 33) hX (by omega) rfl hiX10 (by decide) (by decide +kernel) rfl dX10_sale_30 rfl ?_
        refine x_aload_n (q := 34) dX10_sale_33 rfl rfl ?_
        refine x_getf (C := RX10) (T := TX10) (N := 12) (k := 0) (q := 37) hX (by omega) rfl hiX10 (by decide) (by decide +kernel) rfl dX10_sale_34 rfl ?_
        refine x_aload_n (q := 38) dX10_sale_37 rfl rfl ?_
        refine x_getf (C := RX10) (T := TX10) (N := 12) (k := 2) (q := 41) hX (by omega) rfl hiX10 (by decide) (by decide +kernel) rfl dX10_sale_38 rfl ?_
        refine x_iload_n (q := 42) dX10_sale_41 rfl rfl ?_
        obtain ⟨D, hD1, hD9, rfl⟩ := in19_of b20
        refine x_callV (q := 45) (ci := 4) (c_Ma_take (p := 80) (q := 1) (d := 25) (D := D) (by omega) (by omega) (by omega) (by omega) (by omega) hG hD9 hG0 hLm hT0 hD0) eX10_sale_237 gX10_sale_X4_takeUp hLm.1 (by omega) rfl rfl rfl (Nat.le_of_ble_eq_true rfl) ⟨Nat.le_refl _, Nat.le_refl _⟩ dX10_sale_42 rfl rfl (fun r42 M42 p42 => ?_)
        obtain ⟨rfl, ⟨t9, hU42, e0, e1, e2, e3⟩, fr42⟩ := p42
        have hU0 : M42 80 = .inr (4, [.int (nI (unS (δ 6 0) G)), .int (t9 1 0), .int (t9 2 0), .ref (80 + 1), .ref (80 + 2)]) := by rw [hU42.1, e0]
        have hprN : ∀ j, j < G → ∀ d, d < D → t9 3 (9 * j + d) = nI (prN τ δ j d) ∧ prN τ δ j d ≤ 20000 := by
          intro j hj d hd
          obtain ⟨v, hv, ev⟩ := vp_in_of (hpr j hj d (by omega)) (by decide)
          rw [e3 j hj d hd]
          unfold prN
          rw [ev, nI_clamp (by omega)]
          exact ⟨rfl, by omega⟩
        refine x_iload_n (q := 46) dX10_sale_45 rfl rfl ?_
        refine x_iconst (v := -1) (q := 47) dX10_sale_46 rfl (by decide) ?_
        refine x_icmp_ne (t := 68) (q := 50) dX10_sale_47 (by decide) rfl (fun c47 => ?_) (fun c47 => ?_)
        · refine x_aload_n (q := 69) dX10_sale_68 rfl rfl ?_
          have hv1_1_0 := ((fr42 (0) (by omega)).trans hX)
          refine x_getf (C := RX10) (T := TX10) (N := 12) (k := 6) (q := 72) hv1_1_0 (by omega) rfl hiX10 (by decide) (by decide +kernel) rfl dX10_sale_69 rfl ?_
          refine x_iload_n (q := 73) dX10_sale_72 rfl rfl ?_
          obtain ⟨k9, hk9, rfl⟩ := vp_in_of (vg c47) (by omega)
          refine x_callV (q := 76) (ci := 4) (c_Ma_day (p := 80) (A := k9) (pr := prN τ δ) (U := unS (δ 6 0) G) (by omega) hD9 hG hk9 e0 (unS_lt (δ 6 0) hG) e1 e2 hprN hU42) eX10_sale_246 gX10_sale_X4_dayOf hU0 (by omega) rfl rfl rfl (Nat.le_of_ble_eq_true rfl) ⟨Nat.le_refl _, Nat.le_refl _⟩ dX10_sale_73 rfl rfl (fun r73 M73 p73 => ?_)
          obtain ⟨rfl, ⟨h9, hV73⟩, fr73⟩ := p73
          refine x_iret dX10_sale_76 rfl rfl (Nat.le_refl _) ?_
          refine ⟨?_, ⟨_, hV73⟩, fun j hj => (fr73 j hj).trans (fr42 j hj)⟩
          unfold kSale
          rw [if_pos (Or.inr (inT b7)), if_pos (show in19 (nI D) = true by unfold in19; rw [decide_eq_true_iff]; exact b20), if_neg c47, nI_clamp (show D < 2 ^ 31 by omega), nI_clamp (show k9 < 2 ^ 31 by omega)]
        · refine x_aload_n (q := 51) dX10_sale_50 rfl rfl ?_
          have hv1_1_0 := ((fr42 (0) (by omega)).trans hX)
          refine x_getf (C := RX10) (T := TX10) (N := 12) (k := 6) (q := 54) hv1_1_0 (by omega) rfl hiX10 (by decide) (by decide +kernel) rfl dX10_sale_51 rfl ?_
          refine x_aload_n (q := 55) dX10_sale_54 rfl rfl ?_
          refine x_getf (C := RX10) (T := TX10) (N := 12) (k := 6) (q := 58) hv1_1_0 (by omega) rfl hiX10 (by decide) (by decide +kernel) rfl dX10_sale_55 rfl ?_
          refine x_getf (C := RX4) (T := TX4) (N := 5) (k := 0) (q := 61) hU0 (by omega) rfl hiX4 (by decide) (by decide +kernel) rfl dX10_sale_58 rfl ?_
          refine x_iconst (v := 0) (q := 62) dX10_sale_61 rfl (by decide) ?_
          refine x_callV (q := 65) (ci := 4) (c_Ma_of (p := 80) (pr := prN τ δ) (S := unS (δ 6 0) G) (T := 0) (by omega) hD9 hG e1 e2 (unS_lt (δ 6 0) hG) hprN hU42) eX10_sale_243 gX10_sale_X4_mostOf hU0 (by omega) rfl rfl rfl (Nat.le_of_ble_eq_true rfl) ⟨Nat.le_refl _, Nat.le_refl _⟩ dX10_sale_62 rfl rfl (fun r62 M62 p62 => ?_)
          obtain ⟨rfl, ⟨h9, hV62⟩, fr62⟩ := p62
          refine x_goto (q := 76) dX10_sale_65 (by decide) ?_
          refine x_iret dX10_sale_76 rfl rfl (Nat.le_refl _) ?_
          refine ⟨?_, ⟨_, hV62⟩, fun j hj => (fr62 j hj).trans (fr42 j hj)⟩
          unfold kSale
          rw [if_pos (Or.inr (inT b7)), if_pos (show in19 (nI D) = true by unfold in19; rw [decide_eq_true_iff]; exact b20), if_pos c47, nI_clamp (show D < 2 ^ 31 by omega)]

