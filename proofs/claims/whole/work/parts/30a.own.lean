def inB (x : Int32) (N : Nat) : Bool := decide (0 ≤ x.toInt ∧ x.toInt < N)
theorem inB_t {x : Int32} {N : Nat} : inB x N = true ↔ vp_in x N := by unfold inB; rw [vp_in_iff, decide_eq_true_iff]
theorem inT {x : Int32} {N : Nat} (h : ¬ inB x N = false) : inB x N = true := by simpa using h
theorem inV {x : Int32} {N : Nat} (h : ¬ inB x N = false) : vp_in x N := inB_t.mp (inT h)
theorem inF {x : Int32} {N : Nat} (h : ¬ vp_in x N) : inB x N = false := by
  cases e : inB x N with
  | false => rfl
  | true => exact absurd (inB_t.mp e) h
/-- x itself: its fields; what was kept -/
def oX10 (kb : Int32) (M : Nat → xE) : Prop := M 0 = .inr (10, [.ref 1, .ref 12, .ref 25, .ref 29, .ref 63, .ref 72, .ref 80, .ref 83, .ref 90, .ref 93, .ref 95, .int kb])
def kRing : Nat → Option Nat := fun j => if j < 2 then some (64 + 4 * j) else none
def oKept (K : Nat → Nat → Nat → Int32) (M : Nat → xE) : Prop := M 63 = .inl (3, 2, .inr (.inr (.inr (.inr kRing)))) ∧ ∀ j, j < 2 → oX3 (64 + 4 * j) (K j) M
theorem xlk2 {x : Int32} {o0 o1 df : Int} (h0 : ¬ x.toInt = 0) (h1 : ¬ x.toInt = 1) : Op.lookupswitch.offset (#[((0 : Int), o0), (1, o1)] : Array (Int × Int)).toList df x.toInt = df := by
  simp [Op.lookupswitch.offset, h0, h1]
  try omega
set_option maxHeartbeats 4000000 in
set_option maxRecDepth 100000 in
theorem c_noOne {n : Nat} {M : Nat → xE} {kb : Int32} (hn : 98 < n) (hX : oX10 kb M) {τ : Nat → Nat → Int32} (hT : oX8 1 τ M) {P : Nat} (hP : P ≤ 5) (hP0 : τ 0 0 = nI P) {a : Int32} : xMet mX10_isNoOne [.ref 0, .int a] n M (fun r M' => M = M' ∧ xB (inB a P = false) r) := by
  obtain ⟨tp0, tp1, tp2, tp3, tp4, tp5, tp6, tp7, tp8, tp9, tp10⟩ := hT
  rw [hP0] at tp0
  have hiX10 : ∀ w ∈ wsX100, w ∈ wsX10_isNoOne := by decide +kernel
  have hiX8 : ∀ w ∈ wsX80, w ∈ wsX10_isNoOne := by decide +kernel
  refine xMet.of _ (by decide) rfl (Nat.le_of_ble_eq_true rfl) ?_
  refine x_iload_n (q := 1) dX10_isNoOne_0 rfl rfl ?_
  refine x_if_lt (t := 15) (q := 4) dX10_isNoOne_1 (by decide) rfl (fun c1 => ?_) (fun c1 => ?_)
  · refine x_iconst (v := 1) (q := 16) dX10_isNoOne_15 rfl (by decide) ?_
    refine x_goto (q := 20) dX10_isNoOne_16 (by decide) ?_
    refine x_zret dX10_isNoOne_20 rfl rfl rfl (Nat.le_refl _) ?_
    first
      | exact ⟨rfl, Or.inl ⟨inF (fun h => ((xin (by omega)).mp h).1 c1), rfl⟩⟩
      | exact ⟨rfl, Or.inr ⟨fun h => absurd (inB_t.mpr ((xin (N := P) (by omega)).mpr ⟨c1, xlt_nle.mpr c12⟩)) (by rw [h]; decide), rfl⟩⟩
      | exact ⟨rfl, Or.inl ⟨inF (fun h => ((xin (by omega)).mp h).2 (xle_nlt.mp c12)), rfl⟩⟩
  · refine x_iload_n (q := 5) dX10_isNoOne_4 rfl rfl ?_
    refine x_aload_n (q := 6) dX10_isNoOne_5 rfl rfl ?_
    refine x_getf (C := RX10) (T := TX10) (N := 12) (k := 0) (q := 9) hX (by omega) rfl hiX10 (by decide) (by decide +kernel) rfl dX10_isNoOne_6 rfl ?_
    refine x_getf (C := RX8) (T := TX8) (N := 15) (k := 0) (q := 12) tp0 (by omega) rfl hiX8 (by decide) (by decide +kernel) rfl dX10_isNoOne_9 rfl ?_
    refine x_icmp_lt (t := 19) (q := 15) dX10_isNoOne_12 (by decide) rfl (fun c12 => ?_) (fun c12 => ?_)
    · refine x_iconst (v := 0) (q := 20) dX10_isNoOne_19 rfl (by decide) ?_
      refine x_zret dX10_isNoOne_20 rfl rfl rfl (Nat.le_refl _) ?_
      first
        | exact ⟨rfl, Or.inl ⟨inF (fun h => ((xin (by omega)).mp h).1 c1), rfl⟩⟩
        | exact ⟨rfl, Or.inr ⟨fun h => absurd (inB_t.mpr ((xin (N := P) (by omega)).mpr ⟨c1, xlt_nle.mpr c12⟩)) (by rw [h]; decide), rfl⟩⟩
        | exact ⟨rfl, Or.inl ⟨inF (fun h => ((xin (by omega)).mp h).2 (xle_nlt.mp c12)), rfl⟩⟩
    · refine x_iconst (v := 1) (q := 16) dX10_isNoOne_15 rfl (by decide) ?_
      refine x_goto (q := 20) dX10_isNoOne_16 (by decide) ?_
      refine x_zret dX10_isNoOne_20 rfl rfl rfl (Nat.le_refl _) ?_
      first
        | exact ⟨rfl, Or.inl ⟨inF (fun h => ((xin (by omega)).mp h).1 c1), rfl⟩⟩
        | exact ⟨rfl, Or.inr ⟨fun h => absurd (inB_t.mpr ((xin (N := P) (by omega)).mpr ⟨c1, xlt_nle.mpr c12⟩)) (by rw [h]; decide), rfl⟩⟩
        | exact ⟨rfl, Or.inl ⟨inF (fun h => ((xin (by omega)).mp h).2 (xle_nlt.mp c12)), rfl⟩⟩

set_option maxHeartbeats 4000000 in
set_option maxRecDepth 100000 in
theorem c_noWork {n : Nat} {M : Nat → xE} {kb : Int32} (hn : 98 < n) (hX : oX10 kb M) {τ : Nat → Nat → Int32} (hT : oX8 1 τ M) {W : Nat} (hW : W ≤ 6) (hW0 : τ 3 0 = nI W) {a : Int32} : xMet mX10_isNoWork [.ref 0, .int a] n M (fun r M' => M = M' ∧ xB (inB a W = false) r) := by
  obtain ⟨tp0, tp1, tp2, tp3, tp4, tp5, tp6, tp7, tp8, tp9, tp10⟩ := hT
  rw [hW0] at tp0
  have hiX10 : ∀ w ∈ wsX100, w ∈ wsX10_isNoWork := by decide +kernel
  have hiX8 : ∀ w ∈ wsX80, w ∈ wsX10_isNoWork := by decide +kernel
  refine xMet.of _ (by decide) rfl (Nat.le_of_ble_eq_true rfl) ?_
  refine x_iload_n (q := 1) dX10_isNoWork_0 rfl rfl ?_
  refine x_if_lt (t := 15) (q := 4) dX10_isNoWork_1 (by decide) rfl (fun c1 => ?_) (fun c1 => ?_)
  · refine x_iconst (v := 1) (q := 16) dX10_isNoWork_15 rfl (by decide) ?_
    refine x_goto (q := 20) dX10_isNoWork_16 (by decide) ?_
    refine x_zret dX10_isNoWork_20 rfl rfl rfl (Nat.le_refl _) ?_
    first
      | exact ⟨rfl, Or.inl ⟨inF (fun h => ((xin (by omega)).mp h).1 c1), rfl⟩⟩
      | exact ⟨rfl, Or.inr ⟨fun h => absurd (inB_t.mpr ((xin (N := W) (by omega)).mpr ⟨c1, xlt_nle.mpr c12⟩)) (by rw [h]; decide), rfl⟩⟩
      | exact ⟨rfl, Or.inl ⟨inF (fun h => ((xin (by omega)).mp h).2 (xle_nlt.mp c12)), rfl⟩⟩
  · refine x_iload_n (q := 5) dX10_isNoWork_4 rfl rfl ?_
    refine x_aload_n (q := 6) dX10_isNoWork_5 rfl rfl ?_
    refine x_getf (C := RX10) (T := TX10) (N := 12) (k := 0) (q := 9) hX (by omega) rfl hiX10 (by decide) (by decide +kernel) rfl dX10_isNoWork_6 rfl ?_
    refine x_getf (C := RX8) (T := TX8) (N := 15) (k := 3) (q := 12) tp0 (by omega) rfl hiX8 (by decide) (by decide +kernel) rfl dX10_isNoWork_9 rfl ?_
    refine x_icmp_lt (t := 19) (q := 15) dX10_isNoWork_12 (by decide) rfl (fun c12 => ?_) (fun c12 => ?_)
    · refine x_iconst (v := 0) (q := 20) dX10_isNoWork_19 rfl (by decide) ?_
      refine x_zret dX10_isNoWork_20 rfl rfl rfl (Nat.le_refl _) ?_
      first
        | exact ⟨rfl, Or.inl ⟨inF (fun h => ((xin (by omega)).mp h).1 c1), rfl⟩⟩
        | exact ⟨rfl, Or.inr ⟨fun h => absurd (inB_t.mpr ((xin (N := W) (by omega)).mpr ⟨c1, xlt_nle.mpr c12⟩)) (by rw [h]; decide), rfl⟩⟩
        | exact ⟨rfl, Or.inl ⟨inF (fun h => ((xin (by omega)).mp h).2 (xle_nlt.mp c12)), rfl⟩⟩
    · refine x_iconst (v := 1) (q := 16) dX10_isNoWork_15 rfl (by decide) ?_
      refine x_goto (q := 20) dX10_isNoWork_16 (by decide) ?_
      refine x_zret dX10_isNoWork_20 rfl rfl rfl (Nat.le_refl _) ?_
      first
        | exact ⟨rfl, Or.inl ⟨inF (fun h => ((xin (by omega)).mp h).1 c1), rfl⟩⟩
        | exact ⟨rfl, Or.inr ⟨fun h => absurd (inB_t.mpr ((xin (N := W) (by omega)).mpr ⟨c1, xlt_nle.mpr c12⟩)) (by rw [h]; decide), rfl⟩⟩
        | exact ⟨rfl, Or.inl ⟨inF (fun h => ((xin (by omega)).mp h).2 (xle_nlt.mp c12)), rfl⟩⟩

set_option maxHeartbeats 4000000 in
set_option maxRecDepth 100000 in
theorem c_noGood {n : Nat} {M : Nat → xE} {kb : Int32} (hn : 98 < n) (hX : oX10 kb M) {τ : Nat → Nat → Int32} (hT : oX8 1 τ M) {G : Nat} (hG : G ≤ 5) (hG0 : τ 8 0 = nI G) {a : Int32} : xMet mX10_isNoGood [.ref 0, .int a] n M (fun r M' => M = M' ∧ xB (inB a G = false) r) := by
  obtain ⟨tp0, tp1, tp2, tp3, tp4, tp5, tp6, tp7, tp8, tp9, tp10⟩ := hT
  rw [hG0] at tp0
  have hiX10 : ∀ w ∈ wsX100, w ∈ wsX10_isNoGood := by decide +kernel
  have hiX8 : ∀ w ∈ wsX80, w ∈ wsX10_isNoGood := by decide +kernel
  refine xMet.of _ (by decide) rfl (Nat.le_of_ble_eq_true rfl) ?_
  refine x_iload_n (q := 1) dX10_isNoGood_0 rfl rfl ?_
  refine x_if_lt (t := 15) (q := 4) dX10_isNoGood_1 (by decide) rfl (fun c1 => ?_) (fun c1 => ?_)
  · refine x_iconst (v := 1) (q := 16) dX10_isNoGood_15 rfl (by decide) ?_
    refine x_goto (q := 20) dX10_isNoGood_16 (by decide) ?_
    refine x_zret dX10_isNoGood_20 rfl rfl rfl (Nat.le_refl _) ?_
    first
      | exact ⟨rfl, Or.inl ⟨inF (fun h => ((xin (by omega)).mp h).1 c1), rfl⟩⟩
      | exact ⟨rfl, Or.inr ⟨fun h => absurd (inB_t.mpr ((xin (N := G) (by omega)).mpr ⟨c1, xlt_nle.mpr c12⟩)) (by rw [h]; decide), rfl⟩⟩
      | exact ⟨rfl, Or.inl ⟨inF (fun h => ((xin (by omega)).mp h).2 (xle_nlt.mp c12)), rfl⟩⟩
  · refine x_iload_n (q := 5) dX10_isNoGood_4 rfl rfl ?_
    refine x_aload_n (q := 6) dX10_isNoGood_5 rfl rfl ?_
    refine x_getf (C := RX10) (T := TX10) (N := 12) (k := 0) (q := 9) hX (by omega) rfl hiX10 (by decide) (by decide +kernel) rfl dX10_isNoGood_6 rfl ?_
    refine x_getf (C := RX8) (T := TX8) (N := 15) (k := 8) (q := 12) tp0 (by omega) rfl hiX8 (by decide) (by decide +kernel) rfl dX10_isNoGood_9 rfl ?_
    refine x_icmp_lt (t := 19) (q := 15) dX10_isNoGood_12 (by decide) rfl (fun c12 => ?_) (fun c12 => ?_)
    · refine x_iconst (v := 0) (q := 20) dX10_isNoGood_19 rfl (by decide) ?_
      refine x_zret dX10_isNoGood_20 rfl rfl rfl (Nat.le_refl _) ?_
      first
        | exact ⟨rfl, Or.inl ⟨inF (fun h => ((xin (by omega)).mp h).1 c1), rfl⟩⟩
        | exact ⟨rfl, Or.inr ⟨fun h => absurd (inB_t.mpr ((xin (N := G) (by omega)).mpr ⟨c1, xlt_nle.mpr c12⟩)) (by rw [h]; decide), rfl⟩⟩
        | exact ⟨rfl, Or.inl ⟨inF (fun h => ((xin (by omega)).mp h).2 (xle_nlt.mp c12)), rfl⟩⟩
    · refine x_iconst (v := 1) (q := 16) dX10_isNoGood_15 rfl (by decide) ?_
      refine x_goto (q := 20) dX10_isNoGood_16 (by decide) ?_
      refine x_zret dX10_isNoGood_20 rfl rfl rfl (Nat.le_refl _) ?_
      first
        | exact ⟨rfl, Or.inl ⟨inF (fun h => ((xin (by omega)).mp h).1 c1), rfl⟩⟩
        | exact ⟨rfl, Or.inr ⟨fun h => absurd (inB_t.mpr ((xin (N := G) (by omega)).mpr ⟨c1, xlt_nle.mpr c12⟩)) (by rw [h]; decide), rfl⟩⟩
        | exact ⟨rfl, Or.inl ⟨inF (fun h => ((xin (by omega)).mp h).2 (xle_nlt.mp c12)), rfl⟩⟩

def cDo (τ δ : Nat → Nat → Int32) (a w : Int32) : Bool := decide (bo (δ 4 0) a = 0) && (decide (bo (tSkill τ a) (τ 4 w.toNatClampNeg) = 1) && decide (τ 5 w.toNatClampNeg ≤ δ 7 a.toNatClampNeg))
set_option maxHeartbeats 4000000 in
set_option maxRecDepth 100000 in
theorem c_canDo {n : Nat} {M : Nat → xE} {kb : Int32} (hn : 98 < n) (hX : oX10 kb M) {τ : Nat → Nat → Int32} (hT : oX8 1 τ M) {δ : Nat → Nat → Int32} (hD : oX3 25 δ M) {a w : Int32} (ha : vp_in a 5) (hw : vp_in w 6) : xMet mX10_canDo [.ref 0, .int a, .int w] n M (fun r M' => M = M' ∧ xB (cDo τ δ a w = true) r) := by
  have hT0 := hT
  obtain ⟨tp0, tp1, tp2, tp3, tp4, tp5, tp6, tp7, tp8, tp9, tp10⟩ := hT
  obtain ⟨dp0, dp1, dp2, dp3⟩ := hD
  have hiX10 : ∀ w ∈ wsX100, w ∈ wsX10_canDo := by decide +kernel
  have hiX3 : ∀ w ∈ wsX30, w ∈ wsX10_canDo := by decide +kernel
  have hiX8 : ∀ w ∈ wsX80, w ∈ wsX10_canDo := by decide +kernel
  refine xMet.of _ (by decide) rfl (Nat.le_of_ble_eq_true rfl) ?_
  refine x_aload_n (q := 1) dX10_canDo_0 rfl rfl ?_
  refine x_getf (C := RX10) (T := TX10) (N := 12) (k := 2) (q := 4) hX (by omega) rfl hiX10 (by decide) (by decide +kernel) rfl dX10_canDo_1 rfl ?_
  refine x_getf (C := RX3) (T := TX3) (N := 10) (k := 4) (q := 7) dp0 (by omega) rfl hiX3 (by decide) (by decide +kernel) rfl dX10_canDo_4 rfl ?_
  refine x_iload_n (q := 8) dX10_canDo_7 rfl rfl ?_
  refine x_callS (q := 11) c_bitOf eX10_canDo_144 gX10_canDo_X10_bitOf rfl (Nat.le_of_ble_eq_true rfl) ⟨Nat.le_refl _, Nat.le_refl _⟩ dX10_canDo_8 rfl rfl (fun r8 M8 p8 => ?_)
  obtain ⟨rfl, rfl⟩ := p8
  refine x_if_ne (t := 63) (q := 14) dX10_canDo_11 (by decide) rfl (fun c11 => ?_) (fun c11 => ?_)
  · refine x_iconst (v := 0) (q := 64) dX10_canDo_63 rfl (by decide) ?_
    refine x_zret dX10_canDo_64 rfl rfl rfl (Nat.le_refl _) ?_
    refine ⟨rfl, ?_⟩
    unfold cDo
    first
      | (have c57 := xle_nlt.mp c56; exact Or.inl ⟨by rw [show decide (bo (δ 4 0) a = 0) = true from decide_eq_true c11, show decide (bo (tSkill τ a) (τ 4 w.toNatClampNeg) = 1) = true from decide_eq_true c35, show decide (τ 5 w.toNatClampNeg ≤ δ 7 a.toNatClampNeg) = true from decide_eq_true c57]; rfl, rfl⟩)
      | exact Or.inr ⟨by rw [show decide (τ 5 w.toNatClampNeg ≤ δ 7 a.toNatClampNeg) = false from decide_eq_false (fun h => absurd c56 (xle_nlt.mpr h))]; simp, rfl⟩
      | exact Or.inr ⟨by rw [show decide (bo (tSkill τ a) (τ 4 w.toNatClampNeg) = 1) = false from decide_eq_false c35]; simp, rfl⟩
      | exact Or.inr ⟨by rw [show decide (bo (δ 4 0) a = 0) = false from decide_eq_false c11]; simp, rfl⟩
  · refine x_aload_n (q := 15) dX10_canDo_14 rfl rfl ?_
    refine x_getf (C := RX10) (T := TX10) (N := 12) (k := 0) (q := 18) hX (by omega) rfl hiX10 (by decide) (by decide +kernel) rfl dX10_canDo_15 rfl ?_
    refine x_iload_n (q := 19) dX10_canDo_18 rfl rfl ?_
    refine x_callV (q := 22) (ci := 8) (c_Told_skill (p := 1) (by omega) hT0 ha) eX10_canDo_322 gX10_canDo_X8_skillBitsOf tp0 (by omega) rfl rfl rfl (Nat.le_of_ble_eq_true rfl) ⟨Nat.le_refl _, Nat.le_refl _⟩ dX10_canDo_19 rfl rfl (fun r19 M19 p19 => ?_)
    obtain ⟨rfl, rfl⟩ := p19
    refine x_aload_n (q := 23) dX10_canDo_22 rfl rfl ?_
    refine x_getf (C := RX10) (T := TX10) (N := 12) (k := 0) (q := 26) hX (by omega) rfl hiX10 (by decide) (by decide +kernel) rfl dX10_canDo_23 rfl ?_
    refine x_getf (C := RX8) (T := TX8) (N := 15) (k := 4) (q := 29) tp0 (by omega) rfl hiX8 (by decide) (by decide +kernel) rfl dX10_canDo_26 rfl ?_
    refine x_iload_n (q := 30) dX10_canDo_29 rfl rfl ?_
    refine x_iald (q := 31) tp3 (by omega) hw dX10_canDo_30 rfl ?_
    refine x_callS (q := 34) c_bitOf eX10_canDo_144 gX10_canDo_X10_bitOf rfl (Nat.le_of_ble_eq_true rfl) ⟨Nat.le_refl _, Nat.le_refl _⟩ dX10_canDo_31 rfl rfl (fun r31 M31 p31 => ?_)
    obtain ⟨rfl, rfl⟩ := p31
    refine x_iconst (v := 1) (q := 35) dX10_canDo_34 rfl (by decide) ?_
    refine x_icmp_ne (t := 63) (q := 38) dX10_canDo_35 (by decide) rfl (fun c35 => ?_) (fun c35 => ?_)
    · refine x_iconst (v := 0) (q := 64) dX10_canDo_63 rfl (by decide) ?_
      refine x_zret dX10_canDo_64 rfl rfl rfl (Nat.le_refl _) ?_
      refine ⟨rfl, ?_⟩
      unfold cDo
      first
        | (have c57 := xle_nlt.mp c56; exact Or.inl ⟨by rw [show decide (bo (δ 4 0) a = 0) = true from decide_eq_true c11, show decide (bo (tSkill τ a) (τ 4 w.toNatClampNeg) = 1) = true from decide_eq_true c35, show decide (τ 5 w.toNatClampNeg ≤ δ 7 a.toNatClampNeg) = true from decide_eq_true c57]; rfl, rfl⟩)
        | exact Or.inr ⟨by rw [show decide (τ 5 w.toNatClampNeg ≤ δ 7 a.toNatClampNeg) = false from decide_eq_false (fun h => absurd c56 (xle_nlt.mpr h))]; simp, rfl⟩
        | exact Or.inr ⟨by rw [show decide (bo (tSkill τ a) (τ 4 w.toNatClampNeg) = 1) = false from decide_eq_false c35]; simp, rfl⟩
        | exact Or.inr ⟨by rw [show decide (bo (δ 4 0) a = 0) = false from decide_eq_false c11]; simp, rfl⟩
    · refine x_aload_n (q := 39) dX10_canDo_38 rfl rfl ?_
      refine x_getf (C := RX10) (T := TX10) (N := 12) (k := 0) (q := 42) hX (by omega) rfl hiX10 (by decide) (by decide +kernel) rfl dX10_canDo_39 rfl ?_
      refine x_getf (C := RX8) (T := TX8) (N := 15) (k := 5) (q := 45) tp0 (by omega) rfl hiX8 (by decide) (by decide +kernel) rfl dX10_canDo_42 rfl ?_
      refine x_iload_n (q := 46) dX10_canDo_45 rfl rfl ?_
      refine x_iald (q := 47) tp4 (by omega) hw dX10_canDo_46 rfl ?_
      refine x_aload_n (q := 48) dX10_canDo_47 rfl rfl ?_
      refine x_getf (C := RX10) (T := TX10) (N := 12) (k := 2) (q := 51) hX (by omega) rfl hiX10 (by decide) (by decide +kernel) rfl dX10_canDo_48 rfl ?_
      refine x_getf (C := RX3) (T := TX3) (N := 10) (k := 7) (q := 54) dp0 (by omega) rfl hiX3 (by decide) (by decide +kernel) rfl dX10_canDo_51 rfl ?_
      refine x_iload_n (q := 55) dX10_canDo_54 rfl rfl ?_
      refine x_iald (q := 56) dp1 (by omega) ha dX10_canDo_55 rfl ?_
      refine x_icmp_gt (t := 63) (q := 59) dX10_canDo_56 (by decide) rfl (fun c56 => ?_) (fun c56 => ?_)
      · refine x_iconst (v := 0) (q := 64) dX10_canDo_63 rfl (by decide) ?_
        refine x_zret dX10_canDo_64 rfl rfl rfl (Nat.le_refl _) ?_
        refine ⟨rfl, ?_⟩
        unfold cDo
        first
          | (have c57 := xle_nlt.mp c56; exact Or.inl ⟨by rw [show decide (bo (δ 4 0) a = 0) = true from decide_eq_true c11, show decide (bo (tSkill τ a) (τ 4 w.toNatClampNeg) = 1) = true from decide_eq_true c35, show decide (τ 5 w.toNatClampNeg ≤ δ 7 a.toNatClampNeg) = true from decide_eq_true c57]; rfl, rfl⟩)
          | exact Or.inr ⟨by rw [show decide (τ 5 w.toNatClampNeg ≤ δ 7 a.toNatClampNeg) = false from decide_eq_false (fun h => absurd c56 (xle_nlt.mpr h))]; simp, rfl⟩
          | exact Or.inr ⟨by rw [show decide (bo (tSkill τ a) (τ 4 w.toNatClampNeg) = 1) = false from decide_eq_false c35]; simp, rfl⟩
          | exact Or.inr ⟨by rw [show decide (bo (δ 4 0) a = 0) = false from decide_eq_false c11]; simp, rfl⟩
      · refine x_iconst (v := 1) (q := 60) dX10_canDo_59 rfl (by decide) ?_
        refine x_goto (q := 64) dX10_canDo_60 (by decide) ?_
        refine x_zret dX10_canDo_64 rfl rfl rfl (Nat.le_refl _) ?_
        refine ⟨rfl, ?_⟩
        unfold cDo
        first
          | (have c57 := xle_nlt.mp c56; exact Or.inl ⟨by rw [show decide (bo (δ 4 0) a = 0) = true from decide_eq_true c11, show decide (bo (tSkill τ a) (τ 4 w.toNatClampNeg) = 1) = true from decide_eq_true c35, show decide (τ 5 w.toNatClampNeg ≤ δ 7 a.toNatClampNeg) = true from decide_eq_true c57]; rfl, rfl⟩)
          | exact Or.inr ⟨by rw [show decide (τ 5 w.toNatClampNeg ≤ δ 7 a.toNatClampNeg) = false from decide_eq_false (fun h => absurd c56 (xle_nlt.mpr h))]; simp, rfl⟩
          | exact Or.inr ⟨by rw [show decide (bo (tSkill τ a) (τ 4 w.toNatClampNeg) = 1) = false from decide_eq_false c35]; simp, rfl⟩
          | exact Or.inr ⟨by rw [show decide (bo (δ 4 0) a = 0) = false from decide_eq_false c11]; simp, rfl⟩

def kOne (τ δ : Nat → Nat → Int32) (P : Nat) (a b : Int32) : Int32 := if inB a P = true then (if b = 0 then τ 1 a.toNatClampNeg else if b = 1 then τ 2 a.toNatClampNeg else if b = 2 then δ 7 a.toNatClampNeg else if b = 3 then δ 8 a.toNatClampNeg else if b = 4 then bo (δ 4 0) a else if b = 5 then bo (δ 5 0) a else -3) else -2
def kWork (τ δ : Nat → Nat → Int32) (W : Nat) (a b : Int32) : Int32 := if inB a W = true then (if b = 0 then τ 4 a.toNatClampNeg else if b = 1 then τ 5 a.toNatClampNeg else if b = 2 then τ 6 a.toNatClampNeg else if b = 3 then τ 7 a.toNatClampNeg else if b = 4 then δ 9 a.toNatClampNeg else -3) else -2
def kGood (τ δ : Nat → Nat → Int32) (G : Nat) (a b : Int32) : Int32 := if inB a G = true then (if b = 0 then tPrice τ a (δ 0 0) else if b = 1 then bo (δ 6 0) a else -3) else -2
theorem xne {b : Int32} {N : Nat} (h : ¬ vp_in b N) (k : Nat) (hk : k < N) (hN : N < 2 ^ 31) : ¬ b = nI k := fun e => h (by rw [e]; exact vp_in_nI hk hN)
set_option maxHeartbeats 4000000 in
set_option maxRecDepth 100000 in
theorem c_one {n : Nat} {M : Nat → xE} {kb : Int32} (hn : 98 < n) (hX : oX10 kb M) {τ : Nat → Nat → Int32} (hT : oX8 1 τ M) {δ : Nat → Nat → Int32} (hD : oX3 25 δ M) {P : Nat} (hP : P ≤ 5) (hP0 : τ 0 0 = nI P) {a b : Int32} : xMet mX10_one [.ref 0, .int a, .int b] n M (fun r M' => M = M' ∧ some (.int (kOne τ δ P a b)) = r) := by
  have hT0 := hT
  have hD0 := hD
  obtain ⟨tp0, tp1, tp2, tp3, tp4, tp5, tp6, tp7, tp8, tp9, tp10⟩ := hT
  obtain ⟨dp0, dp1, dp2, dp3⟩ := hD
  have hiX10 : ∀ w ∈ wsX100, w ∈ wsX10_one := by decide +kernel
  have hiX3 : ∀ w ∈ wsX30, w ∈ wsX10_one := by decide +kernel
  have hiX8 : ∀ w ∈ wsX80, w ∈ wsX10_one := by decide +kernel
  refine xMet.of _ (by decide) rfl (Nat.le_of_ble_eq_true rfl) ?_
  refine x_aload_n (q := 1) dX10_one_0 rfl rfl ?_
  refine x_iload_n (q := 2) dX10_one_1 rfl rfl ?_
  refine x_callV (q := 5) (ci := 10) (c_noOne hn hX hT0 hP hP0) eX10_one_125 gX10_one_X10_isNoOne hX (by omega) rfl rfl rfl (Nat.le_of_ble_eq_true rfl) ⟨Nat.le_refl _, Nat.le_refl _⟩ dX10_one_2 rfl rfl (fun r2 M2 p2 => ?_)
  obtain ⟨rfl, p2⟩ := p2
  rcases p2 with ⟨b2, rfl⟩ | ⟨b2, rfl⟩
  · refine x_if_eq (t := 11) (q := 8) dX10_one_5 (by decide) rfl (fun c5 => absurd c5 (by decide)) (fun c5 => ?_)
    refine x_bipush (v := -2) (q := 10) dX10_one_8 rfl (by decide) ?_
    refine x_iret dX10_one_10 rfl rfl (Nat.le_refl _) ?_
    refine ⟨rfl, ?_⟩
    unfold kOne
    rw [if_neg (show ¬ inB a P = true by rw [b2]; decide)]
  · have v2 := inV b2
    have va : vp_in a 5 := by rw [vp_in_iff] at v2 ⊢; omega
    refine x_if_eq (t := 11) (q := 8) dX10_one_5 (by decide) rfl (fun c5 => ?_) (fun c5 => absurd c5 (by decide))
    refine x_iload_n (q := 12) dX10_one_11 rfl rfl ?_
    by_cases hs12 : vp_in b 6
    · obtain ⟨k12, hk12, ek12⟩ := vp_in_of hs12 (by decide)
      rcases (show k12 = 0 ∨ k12 = 1 ∨ k12 = 2 ∨ k12 = 3 ∨ k12 = 4 ∨ k12 = 5 by omega) with ej | ej | ej | ej | ej | ej
      · rw [ej] at ek12
        refine x_tableIn (t := 52) (off := 40) dX10_one_12 (by rw [ek12]; decide) (by rw [ek12]; decide) (by rw [ek12]; decide +kernel) (by decide) ?_
        refine x_aload_n (q := 53) dX10_one_52 rfl rfl ?_
        refine x_getf (C := RX10) (T := TX10) (N := 12) (k := 0) (q := 56) hX (by omega) rfl hiX10 (by decide) (by decide +kernel) rfl dX10_one_53 rfl ?_
        refine x_getf (C := RX8) (T := TX8) (N := 15) (k := 1) (q := 59) tp0 (by omega) rfl hiX8 (by decide) (by decide +kernel) rfl dX10_one_56 rfl ?_
        refine x_iload_n (q := 60) dX10_one_59 rfl rfl ?_
        refine x_iald (q := 61) tp1 (by omega) va dX10_one_60 rfl ?_
        refine x_iret dX10_one_61 rfl rfl (Nat.le_refl _) ?_
        refine ⟨rfl, ?_⟩
        unfold kOne
        rw [if_pos (inT b2)]
        rw [ek12]
        first | done | rfl
      · rw [ej] at ek12
        refine x_tableIn (t := 62) (off := 50) dX10_one_12 (by rw [ek12]; decide) (by rw [ek12]; decide) (by rw [ek12]; decide +kernel) (by decide) ?_
        refine x_aload_n (q := 63) dX10_one_62 rfl rfl ?_
        refine x_getf (C := RX10) (T := TX10) (N := 12) (k := 0) (q := 66) hX (by omega) rfl hiX10 (by decide) (by decide +kernel) rfl dX10_one_63 rfl ?_
        refine x_getf (C := RX8) (T := TX8) (N := 15) (k := 2) (q := 69) tp0 (by omega) rfl hiX8 (by decide) (by decide +kernel) rfl dX10_one_66 rfl ?_
        refine x_iload_n (q := 70) dX10_one_69 rfl rfl ?_
        refine x_iald (q := 71) tp2 (by omega) va dX10_one_70 rfl ?_
        refine x_iret dX10_one_71 rfl rfl (Nat.le_refl _) ?_
        refine ⟨rfl, ?_⟩
        unfold kOne
        rw [if_pos (inT b2)]
        rw [ek12]
        first | done | rfl
      · rw [ej] at ek12
        refine x_tableIn (t := 72) (off := 60) dX10_one_12 (by rw [ek12]; decide) (by rw [ek12]; decide) (by rw [ek12]; decide +kernel) (by decide) ?_
        refine x_aload_n (q := 73) dX10_one_72 rfl rfl ?_
        refine x_getf (C := RX10) (T := TX10) (N := 12) (k := 2) (q := 76) hX (by omega) rfl hiX10 (by decide) (by decide +kernel) rfl dX10_one_73 rfl ?_
        refine x_getf (C := RX3) (T := TX3) (N := 10) (k := 7) (q := 79) dp0 (by omega) rfl hiX3 (by decide) (by decide +kernel) rfl dX10_one_76 rfl ?_
        refine x_iload_n (q := 80) dX10_one_79 rfl rfl ?_
        refine x_iald (q := 81) dp1 (by omega) va dX10_one_80 rfl ?_
        refine x_iret dX10_one_81 rfl rfl (Nat.le_refl _) ?_
        refine ⟨rfl, ?_⟩
        unfold kOne
        rw [if_pos (inT b2)]
        rw [ek12]
        first | done | rfl
      · rw [ej] at ek12
        refine x_tableIn (t := 82) (off := 70) dX10_one_12 (by rw [ek12]; decide) (by rw [ek12]; decide) (by rw [ek12]; decide +kernel) (by decide) ?_
        refine x_aload_n (q := 83) dX10_one_82 rfl rfl ?_
        refine x_getf (C := RX10) (T := TX10) (N := 12) (k := 2) (q := 86) hX (by omega) rfl hiX10 (by decide) (by decide +kernel) rfl dX10_one_83 rfl ?_
        refine x_getf (C := RX3) (T := TX3) (N := 10) (k := 8) (q := 89) dp0 (by omega) rfl hiX3 (by decide) (by decide +kernel) rfl dX10_one_86 rfl ?_
        refine x_iload_n (q := 90) dX10_one_89 rfl rfl ?_
        refine x_iald (q := 91) dp2 (by omega) va dX10_one_90 rfl ?_
        refine x_iret dX10_one_91 rfl rfl (Nat.le_refl _) ?_
        refine ⟨rfl, ?_⟩
        unfold kOne
        rw [if_pos (inT b2)]
        rw [ek12]
        first | done | rfl
      · rw [ej] at ek12
        refine x_tableIn (t := 92) (off := 80) dX10_one_12 (by rw [ek12]; decide) (by rw [ek12]; decide) (by rw [ek12]; decide +kernel) (by decide) ?_
        refine x_aload_n (q := 93) dX10_one_92 rfl rfl ?_
        refine x_getf (C := RX10) (T := TX10) (N := 12) (k := 2) (q := 96) hX (by omega) rfl hiX10 (by decide) (by decide +kernel) rfl dX10_one_93 rfl ?_
        refine x_getf (C := RX3) (T := TX3) (N := 10) (k := 4) (q := 99) dp0 (by omega) rfl hiX3 (by decide) (by decide +kernel) rfl dX10_one_96 rfl ?_
        refine x_iload_n (q := 100) dX10_one_99 rfl rfl ?_
        refine x_callS (q := 103) c_bitOf eX10_one_144 gX10_one_X10_bitOf rfl (Nat.le_of_ble_eq_true rfl) ⟨Nat.le_refl _, Nat.le_refl _⟩ dX10_one_100 rfl rfl (fun r100 M100 p100 => ?_)
        obtain ⟨rfl, rfl⟩ := p100
        refine x_iret dX10_one_103 rfl rfl (Nat.le_refl _) ?_
        refine ⟨rfl, ?_⟩
        unfold kOne
        rw [if_pos (inT b2)]
        rw [ek12]
        first | done | rfl
      · rw [ej] at ek12
        refine x_tableIn (t := 104) (off := 92) dX10_one_12 (by rw [ek12]; decide) (by rw [ek12]; decide) (by rw [ek12]; decide +kernel) (by decide) ?_
        refine x_aload_n (q := 105) dX10_one_104 rfl rfl ?_
        refine x_getf (C := RX10) (T := TX10) (N := 12) (k := 2) (q := 108) hX (by omega) rfl hiX10 (by decide) (by decide +kernel) rfl dX10_one_105 rfl ?_
        refine x_getf (C := RX3) (T := TX3) (N := 10) (k := 5) (q := 111) dp0 (by omega) rfl hiX3 (by decide) (by decide +kernel) rfl dX10_one_108 rfl ?_
        refine x_iload_n (q := 112) dX10_one_111 rfl rfl ?_
        refine x_callS (q := 115) c_bitOf eX10_one_144 gX10_one_X10_bitOf rfl (Nat.le_of_ble_eq_true rfl) ⟨Nat.le_refl _, Nat.le_refl _⟩ dX10_one_112 rfl rfl (fun r112 M112 p112 => ?_)
        obtain ⟨rfl, rfl⟩ := p112
        refine x_iret dX10_one_115 rfl rfl (Nat.le_refl _) ?_
        refine ⟨rfl, ?_⟩
        unfold kOne
        rw [if_pos (inT b2)]
        rw [ek12]
        first | done | rfl
    · refine x_tableOut (t := 116) dX10_one_12 (by rw [vp_in_iff] at hs12; omega) (by decide) ?_
      refine x_bipush (v := -3) (q := 118) dX10_one_116 rfl (by decide) ?_
      refine x_iret dX10_one_118 rfl rfl (Nat.le_refl _) ?_
      refine ⟨rfl, ?_⟩
      unfold kOne
      rw [if_pos (inT b2)]
      rw [if_neg (show ¬ b = 0 from xne hs12 0 (by decide) (by decide)), if_neg (show ¬ b = 1 from xne hs12 1 (by decide) (by decide)), if_neg (show ¬ b = 2 from xne hs12 2 (by decide) (by decide)), if_neg (show ¬ b = 3 from xne hs12 3 (by decide) (by decide)), if_neg (show ¬ b = 4 from xne hs12 4 (by decide) (by decide)), if_neg (show ¬ b = 5 from xne hs12 5 (by decide) (by decide))]

set_option maxHeartbeats 4000000 in
set_option maxRecDepth 100000 in
theorem c_work {n : Nat} {M : Nat → xE} {kb : Int32} (hn : 98 < n) (hX : oX10 kb M) {τ : Nat → Nat → Int32} (hT : oX8 1 τ M) {δ : Nat → Nat → Int32} (hD : oX3 25 δ M) {W : Nat} (hW : W ≤ 6) (hW0 : τ 3 0 = nI W) {a b : Int32} : xMet mX10_work [.ref 0, .int a, .int b] n M (fun r M' => M = M' ∧ some (.int (kWork τ δ W a b)) = r) := by
  have hT0 := hT
  have hD0 := hD
  obtain ⟨tp0, tp1, tp2, tp3, tp4, tp5, tp6, tp7, tp8, tp9, tp10⟩ := hT
  obtain ⟨dp0, dp1, dp2, dp3⟩ := hD
  have hiX10 : ∀ w ∈ wsX100, w ∈ wsX10_work := by decide +kernel
  have hiX3 : ∀ w ∈ wsX30, w ∈ wsX10_work := by decide +kernel
  have hiX8 : ∀ w ∈ wsX80, w ∈ wsX10_work := by decide +kernel
  refine xMet.of _ (by decide) rfl (Nat.le_of_ble_eq_true rfl) ?_
  refine x_aload_n (q := 1) dX10_work_0 rfl rfl ?_
  refine x_iload_n (q := 2) dX10_work_1 rfl rfl ?_
  refine x_callV (q := 5) (ci := 10) (c_noWork hn hX hT0 hW hW0) eX10_work_151 gX10_work_X10_isNoWork hX (by omega) rfl rfl rfl (Nat.le_of_ble_eq_true rfl) ⟨Nat.le_refl _, Nat.le_refl _⟩ dX10_work_2 rfl rfl (fun r2 M2 p2 => ?_)
  obtain ⟨rfl, p2⟩ := p2
  rcases p2 with ⟨b2, rfl⟩ | ⟨b2, rfl⟩
  · refine x_if_eq (t := 11) (q := 8) dX10_work_5 (by decide) rfl (fun c5 => absurd c5 (by decide)) (fun c5 => ?_)
    refine x_bipush (v := -2) (q := 10) dX10_work_8 rfl (by decide) ?_
    refine x_iret dX10_work_10 rfl rfl (Nat.le_refl _) ?_
    refine ⟨rfl, ?_⟩
    unfold kWork
    rw [if_neg (show ¬ inB a W = true by rw [b2]; decide)]
  · have v2 := inV b2
    have vw : vp_in a 6 := by rw [vp_in_iff] at v2 ⊢; omega
    refine x_if_eq (t := 11) (q := 8) dX10_work_5 (by decide) rfl (fun c5 => ?_) (fun c5 => absurd c5 (by decide))
    refine x_iload_n (q := 12) dX10_work_11 rfl rfl ?_
    by_cases hs12 : vp_in b 5
    · obtain ⟨k12, hk12, ek12⟩ := vp_in_of hs12 (by decide)
      rcases (show k12 = 0 ∨ k12 = 1 ∨ k12 = 2 ∨ k12 = 3 ∨ k12 = 4 by omega) with ej | ej | ej | ej | ej
      · rw [ej] at ek12
        refine x_tableIn (t := 48) (off := 36) dX10_work_12 (by rw [ek12]; decide) (by rw [ek12]; decide) (by rw [ek12]; decide +kernel) (by decide) ?_
        refine x_aload_n (q := 49) dX10_work_48 rfl rfl ?_
        refine x_getf (C := RX10) (T := TX10) (N := 12) (k := 0) (q := 52) hX (by omega) rfl hiX10 (by decide) (by decide +kernel) rfl dX10_work_49 rfl ?_
        refine x_getf (C := RX8) (T := TX8) (N := 15) (k := 4) (q := 55) tp0 (by omega) rfl hiX8 (by decide) (by decide +kernel) rfl dX10_work_52 rfl ?_
        refine x_iload_n (q := 56) dX10_work_55 rfl rfl ?_
        refine x_iald (q := 57) tp3 (by omega) vw dX10_work_56 rfl ?_
        refine x_iret dX10_work_57 rfl rfl (Nat.le_refl _) ?_
        refine ⟨rfl, ?_⟩
        unfold kWork
        rw [if_pos (inT b2)]
        rw [ek12]
        first | done | rfl
      · rw [ej] at ek12
        refine x_tableIn (t := 58) (off := 46) dX10_work_12 (by rw [ek12]; decide) (by rw [ek12]; decide) (by rw [ek12]; decide +kernel) (by decide) ?_
        refine x_aload_n (q := 59) dX10_work_58 rfl rfl ?_
        refine x_getf (C := RX10) (T := TX10) (N := 12) (k := 0) (q := 62) hX (by omega) rfl hiX10 (by decide) (by decide +kernel) rfl dX10_work_59 rfl ?_
        refine x_getf (C := RX8) (T := TX8) (N := 15) (k := 5) (q := 65) tp0 (by omega) rfl hiX8 (by decide) (by decide +kernel) rfl dX10_work_62 rfl ?_
        refine x_iload_n (q := 66) dX10_work_65 rfl rfl ?_
        refine x_iald (q := 67) tp4 (by omega) vw dX10_work_66 rfl ?_
        refine x_iret dX10_work_67 rfl rfl (Nat.le_refl _) ?_
        refine ⟨rfl, ?_⟩
        unfold kWork
        rw [if_pos (inT b2)]
        rw [ek12]
        first | done | rfl
      · rw [ej] at ek12
        refine x_tableIn (t := 68) (off := 56) dX10_work_12 (by rw [ek12]; decide) (by rw [ek12]; decide) (by rw [ek12]; decide +kernel) (by decide) ?_
        refine x_aload_n (q := 69) dX10_work_68 rfl rfl ?_
        refine x_getf (C := RX10) (T := TX10) (N := 12) (k := 0) (q := 72) hX (by omega) rfl hiX10 (by decide) (by decide +kernel) rfl dX10_work_69 rfl ?_
        refine x_getf (C := RX8) (T := TX8) (N := 15) (k := 6) (q := 75) tp0 (by omega) rfl hiX8 (by decide) (by decide +kernel) rfl dX10_work_72 rfl ?_
        refine x_iload_n (q := 76) dX10_work_75 rfl rfl ?_
        refine x_iald (q := 77) tp5 (by omega) vw dX10_work_76 rfl ?_
        refine x_iret dX10_work_77 rfl rfl (Nat.le_refl _) ?_
        refine ⟨rfl, ?_⟩
        unfold kWork
        rw [if_pos (inT b2)]
        rw [ek12]
        first | done | rfl
      · rw [ej] at ek12
        refine x_tableIn (t := 78) (off := 66) dX10_work_12 (by rw [ek12]; decide) (by rw [ek12]; decide) (by rw [ek12]; decide +kernel) (by decide) ?_
        refine x_aload_n (q := 79) dX10_work_78 rfl rfl ?_
        refine x_getf (C := RX10) (T := TX10) (N := 12) (k := 0) (q := 82) hX (by omega) rfl hiX10 (by decide) (by decide +kernel) rfl dX10_work_79 rfl ?_
        refine x_getf (C := RX8) (T := TX8) (N := 15) (k := 7) (q := 85) tp0 (by omega) rfl hiX8 (by decide) (by decide +kernel) rfl dX10_work_82 rfl ?_
        refine x_iload_n (q := 86) dX10_work_85 rfl rfl ?_
        refine x_iald (q := 87) tp6 (by omega) vw dX10_work_86 rfl ?_
        refine x_iret dX10_work_87 rfl rfl (Nat.le_refl _) ?_
        refine ⟨rfl, ?_⟩
        unfold kWork
        rw [if_pos (inT b2)]
        rw [ek12]
        first | done | rfl
      · rw [ej] at ek12
        refine x_tableIn (t := 88) (off := 76) dX10_work_12 (by rw [ek12]; decide) (by rw [ek12]; decide) (by rw [ek12]; decide +kernel) (by decide) ?_
        refine x_aload_n (q := 89) dX10_work_88 rfl rfl ?_
        refine x_getf (C := RX10) (T := TX10) (N := 12) (k := 2) (q := 92) hX (by omega) rfl hiX10 (by decide) (by decide +kernel) rfl dX10_work_89 rfl ?_
        refine x_getf (C := RX3) (T := TX3) (N := 10) (k := 9) (q := 95) dp0 (by omega) rfl hiX3 (by decide) (by decide +kernel) rfl dX10_work_92 rfl ?_
        refine x_iload_n (q := 96) dX10_work_95 rfl rfl ?_
        refine x_iald (q := 97) dp3 (by omega) vw dX10_work_96 rfl ?_
        refine x_iret dX10_work_97 rfl rfl (Nat.le_refl _) ?_
        refine ⟨rfl, ?_⟩
        unfold kWork
        rw [if_pos (inT b2)]
        rw [ek12]
        first | done | rfl
    · refine x_tableOut (t := 98) dX10_work_12 (by rw [vp_in_iff] at hs12; omega) (by decide) ?_
      refine x_bipush (v := -3) (q := 100) dX10_work_98 rfl (by decide) ?_
      refine x_iret dX10_work_100 rfl rfl (Nat.le_refl _) ?_
      refine ⟨rfl, ?_⟩
      unfold kWork
      rw [if_pos (inT b2)]
      rw [if_neg (show ¬ b = 0 from xne hs12 0 (by decide) (by decide)), if_neg (show ¬ b = 1 from xne hs12 1 (by decide) (by decide)), if_neg (show ¬ b = 2 from xne hs12 2 (by decide) (by decide)), if_neg (show ¬ b = 3 from xne hs12 3 (by decide) (by decide)), if_neg (show ¬ b = 4 from xne hs12 4 (by decide) (by decide))]

set_option maxHeartbeats 4000000 in
set_option maxRecDepth 100000 in
theorem c_good {n : Nat} {M : Nat → xE} {kb : Int32} (hn : 98 < n) (hX : oX10 kb M) {τ : Nat → Nat → Int32} (hT : oX8 1 τ M) {δ : Nat → Nat → Int32} (hD : oX3 25 δ M) {G : Nat} (hG : G ≤ 5) (hG0 : τ 8 0 = nI G) {a b : Int32} : xMet mX10_good [.ref 0, .int a, .int b] n M (fun r M' => M = M' ∧ some (.int (kGood τ δ G a b)) = r) := by
  have hT0 := hT
  have hD0 := hD
  obtain ⟨tp0, tp1, tp2, tp3, tp4, tp5, tp6, tp7, tp8, tp9, tp10⟩ := hT
  obtain ⟨dp0, dp1, dp2, dp3⟩ := hD
  have hiX10 : ∀ w ∈ wsX100, w ∈ wsX10_good := by decide +kernel
  have hiX3 : ∀ w ∈ wsX30, w ∈ wsX10_good := by decide +kernel
  refine xMet.of _ (by decide) rfl (Nat.le_of_ble_eq_true rfl) ?_
  refine x_aload_n (q := 1) dX10_good_0 rfl rfl ?_
  refine x_iload_n (q := 2) dX10_good_1 rfl rfl ?_
  refine x_callV (q := 5) (ci := 10) (c_noGood hn hX hT0 hG hG0) eX10_good_169 gX10_good_X10_isNoGood hX (by omega) rfl rfl rfl (Nat.le_of_ble_eq_true rfl) ⟨Nat.le_refl _, Nat.le_refl _⟩ dX10_good_2 rfl rfl (fun r2 M2 p2 => ?_)
  obtain ⟨rfl, p2⟩ := p2
  rcases p2 with ⟨b2, rfl⟩ | ⟨b2, rfl⟩
  · refine x_if_eq (t := 11) (q := 8) dX10_good_5 (by decide) rfl (fun c5 => absurd c5 (by decide)) (fun c5 => ?_)
    refine x_bipush (v := -2) (q := 10) dX10_good_8 rfl (by decide) ?_
    refine x_iret dX10_good_10 rfl rfl (Nat.le_refl _) ?_
    refine ⟨rfl, ?_⟩
    unfold kGood
    rw [if_neg (show ¬ inB a G = true by rw [b2]; decide)]
  · have v2 := inV b2
    have va : vp_in a 5 := by rw [vp_in_iff] at v2 ⊢; omega
    refine x_if_eq (t := 11) (q := 8) dX10_good_5 (by decide) rfl (fun c5 => ?_) (fun c5 => absurd c5 (by decide))
    refine x_iload_n (q := 12) dX10_good_11 rfl rfl ?_
    by_cases hs12 : vp_in b 2
    · obtain ⟨k12, hk12, ek12⟩ := vp_in_of hs12 (by decide)
      rcases (show k12 = 0 ∨ k12 = 1 by omega) with ej | ej
      · rw [ej] at ek12
        refine x_lookup (t := 40) (off := 28) dX10_good_12 (by decide +kernel) (by rw [ek12]; decide +kernel) (by decide) ?_
        refine x_aload_n (q := 41) dX10_good_40 rfl rfl ?_
        refine x_getf (C := RX10) (T := TX10) (N := 12) (k := 0) (q := 44) hX (by omega) rfl hiX10 (by decide) (by decide +kernel) rfl dX10_good_41 rfl ?_
        refine x_iload_n (q := 45) dX10_good_44 rfl rfl ?_
        refine x_aload_n (q := 46) dX10_good_45 rfl rfl ?_
        refine x_getf (C := RX10) (T := TX10) (N := 12) (k := 2) (q := 49) hX (by omega) rfl hiX10 (by decide) (by decide +kernel) rfl dX10_good_46 rfl ?_
        refine x_getf (C := RX3) (T := TX3) (N := 10) (k := 0) (q := 52) dp0 (by omega) rfl hiX3 (by decide) (by decide +kernel) rfl dX10_good_49 rfl ?_
        refine x_callV (q := 55) (ci := 8) (c_Told_price (p := 1) (by omega) hT0 va) eX10_good_175 gX10_good_X8_priceOf tp0 (by omega) rfl rfl rfl (Nat.le_of_ble_eq_true rfl) ⟨Nat.le_refl _, Nat.le_refl _⟩ dX10_good_52 rfl rfl (fun r52 M52 p52 => ?_)
        obtain ⟨rfl, rfl⟩ := p52
        refine x_iret dX10_good_55 rfl rfl (Nat.le_refl _) ?_
        refine ⟨rfl, ?_⟩
        unfold kGood
        rw [if_pos (inT b2)]
        rw [ek12]
        first | done | rfl
      · rw [ej] at ek12
        refine x_lookup (t := 56) (off := 44) dX10_good_12 (by decide +kernel) (by rw [ek12]; decide +kernel) (by decide) ?_
        refine x_aload_n (q := 57) dX10_good_56 rfl rfl ?_
        refine x_getf (C := RX10) (T := TX10) (N := 12) (k := 2) (q := 60) hX (by omega) rfl hiX10 (by decide) (by decide +kernel) rfl dX10_good_57 rfl ?_
        refine x_getf (C := RX3) (T := TX3) (N := 10) (k := 6) (q := 63) dp0 (by omega) rfl hiX3 (by decide) (by decide +kernel) rfl dX10_good_60 rfl ?_
        refine x_iload_n (q := 64) dX10_good_63 rfl rfl ?_
        refine x_callS (q := 67) c_bitOf eX10_good_144 gX10_good_X10_bitOf rfl (Nat.le_of_ble_eq_true rfl) ⟨Nat.le_refl _, Nat.le_refl _⟩ dX10_good_64 rfl rfl (fun r64 M64 p64 => ?_)
        obtain ⟨rfl, rfl⟩ := p64
        refine x_iret dX10_good_67 rfl rfl (Nat.le_refl _) ?_
        refine ⟨rfl, ?_⟩
        unfold kGood
        rw [if_pos (inT b2)]
        rw [ek12]
        first | done | rfl
    · refine x_lookup (t := 68) (off := 56) dX10_good_12 (by decide +kernel) (xlk2 (show ¬ b.toInt = 0 by rw [vp_in_iff] at hs12; omega) (show ¬ b.toInt = 1 by rw [vp_in_iff] at hs12; omega)) (by decide) ?_
      refine x_bipush (v := -3) (q := 70) dX10_good_68 rfl (by decide) ?_
      refine x_iret dX10_good_70 rfl rfl (Nat.le_refl _) ?_
      refine ⟨rfl, ?_⟩
      unfold kGood
      rw [if_pos (inT b2)]
      rw [if_neg (show ¬ b = 0 from xne hs12 0 (by decide) (by decide)), if_neg (show ¬ b = 1 from xne hs12 1 (by decide) (by decide))]

