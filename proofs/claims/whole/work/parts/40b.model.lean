/-- what was told: the class's table and the model's row -/
def RT (τ : Nat → Nat → Int32) (P W G : Nat) (w : Nat → Int32) : Prop := (P ≤ 5 ∧ W ≤ 6 ∧ G ≤ 5 ∧ w 0 = nI P ∧ w 11 = nI W ∧ w 37 = nI G ∧ w 36 = τ 12 0) ∧ (∀ j, j < P → w (1 + j) = τ 1 j ∧ w (6 + j) = τ 2 j) ∧ (∀ j, j < W → w (12 + j) = τ 4 j ∧ w (18 + j) = τ 5 j ∧ w (24 + j) = τ 6 j ∧ w (30 + j) = τ 7 j) ∧ (∀ j, j < G → w (38 + j) = τ 10 j ∧ w (43 + j) = τ 11 j ∧ w (48 + j) = if bo (τ 9 0) (nI j) = 1 then 1 else 2) ∧ (∀ j, j < 4 → w (53 + j) = τ 13 j ∧ w (57 + j) = τ 14 j)
def TOK (τ : Nat → Nat → Int32) (P W G : Nat) : Prop := (τ 0 0 = nI P ∧ τ 3 0 = nI W ∧ τ 8 0 = nI G ∧ 1 ≤ (τ 12 0).toInt ∧ (τ 12 0).toInt ≤ 99) ∧ (∀ j, j < P → vp_in (τ 1 j) 4) ∧ (∀ j, j < W → vp_in (τ 4 j) 3 ∧ (1 ≤ (τ 5 j).toInt ∧ (τ 5 j).toInt ≤ 60) ∧ (1 ≤ (τ 6 j).toInt ∧ (τ 6 j).toInt ≤ 9) ∧ vp_in (τ 7 j) 51) ∧ (∀ j, j < G → vp_in (τ 10 j) 100 ∧ vp_in (τ 11 j) 10) ∧ (∀ j, j < 4 → vp_in (τ 13 j) 4 ∧ vp_in (τ 14 j) 10)
section
variable {τ : Nat → Nat → Int32} {P W G : Nat} {w : Nat → Int32} (h : RT τ P W G w)
theorem rtP (h : RT τ P W G w) : P ≤ 5 := h.1.1
theorem rtW (h : RT τ P W G w) : W ≤ 6 := h.1.2.1
theorem rtG (h : RT τ P W G w) : G ≤ 5 := h.1.2.2.1
theorem rtn (h : RT τ P W G w) : w 0 = nI P := h.1.2.2.2.1
theorem rtmany (h : RT τ P W G w) : w 11 = nI W := h.1.2.2.2.2.1
theorem rtgood (h : RT τ P W G w) : w 37 = nI G := h.1.2.2.2.2.2.1
theorem rtlen (h : RT τ P W G w) : w 36 = τ 12 0 := h.1.2.2.2.2.2.2
theorem rtkind (h : RT τ P W G w) {j : Nat} (hj : j < P) : w (1 + j) = τ 1 j := (h.2.1 j hj).1
theorem rtlike (h : RT τ P W G w) {j : Nat} (hj : j < P) : w (6 + j) = τ 2 j := (h.2.1 j hj).2
theorem rtskill (h : RT τ P W G w) {j : Nat} (hj : j < W) : w (12 + j) = τ 4 j := (h.2.2.1 j hj).1
theorem rtmin (h : RT τ P W G w) {j : Nat} (hj : j < W) : w (18 + j) = τ 5 j := (h.2.2.1 j hj).2.1
theorem rtlong (h : RT τ P W G w) {j : Nat} (hj : j < W) : w (24 + j) = τ 6 j := (h.2.2.1 j hj).2.2.1
theorem rtworth (h : RT τ P W G w) {j : Nat} (hj : j < W) : w (30 + j) = τ 7 j := (h.2.2.1 j hj).2.2.2
theorem rtprice (h : RT τ P W G w) {j : Nat} (hj : j < G) : w (38 + j) = τ 10 j := (h.2.2.2.1 j hj).1
theorem rtby (h : RT τ P W G w) {j : Nat} (hj : j < G) : w (43 + j) = τ 11 j := (h.2.2.2.1 j hj).2.1
theorem rtsort (h : RT τ P W G w) {j : Nat} (hj : j < G) : w (48 + j) = if bo (τ 9 0) (nI j) = 1 then 1 else 2 := (h.2.2.2.1 j hj).2.2
theorem rtto (h : RT τ P W G w) {j : Nat} (hj : j < 4) : w (53 + j) = τ 13 j := (h.2.2.2.2 j hj).1
theorem rtch (h : RT τ P W G w) {j : Nat} (hj : j < 4) : w (57 + j) = τ 14 j := (h.2.2.2.2 j hj).2
end
/-- a day as the model's row has it -/
def dv (δ : Nat → Nat → Int32) : Nat → Int32 := fun k => if k < 5 then δ 7 k else if k < 11 then δ 9 (k - 5) else if k < 16 then δ 8 (k - 11) else if k = 16 then δ 4 0 else if k = 17 then δ 5 0 else if k = 18 then δ 6 0 else if k = 19 then δ 2 0 else if k = 20 then δ 0 0 else δ 1 0
theorem dv_left (δ : Nat → Nat → Int32) {j : Nat} (h : j < 5) : dv δ (0 + j) = δ 7 j := by unfold dv; rw [if_pos (by omega), Nat.zero_add]
theorem dv_holds (δ : Nat → Nat → Int32) {j : Nat} (h : j < 6) : dv δ (5 + j) = δ 9 j := by unfold dv; rw [if_neg (by omega), if_pos (by omega), Nat.add_sub_cancel_left]
theorem dv_spouse (δ : Nat → Nat → Int32) {j : Nat} (h : j < 5) : dv δ (11 + j) = δ 8 j := by unfold dv; rw [if_neg (by omega), if_neg (by omega), if_pos (by omega), Nat.add_sub_cancel_left]
section
variable {d : Nat → Int32} {δ : Nat → Nat → Int32}
theorem rdleft (h : ∀ k, k < 22 → d k = dv δ k) {j : Nat} (hj : j < 5) : d (0 + j) = δ 7 j := (h _ (by omega)).trans (dv_left δ hj)
theorem rdholds (h : ∀ k, k < 22 → d k = dv δ k) {j : Nat} (hj : j < 6) : d (5 + j) = δ 9 j := (h _ (by omega)).trans (dv_holds δ hj)
theorem rdspouse (h : ∀ k, k < 22 → d k = dv δ k) {j : Nat} (hj : j < 5) : d (11 + j) = δ 8 j := (h _ (by omega)).trans (dv_spouse δ hj)
theorem rdasleep (h : ∀ k, k < 22 → d k = dv δ k) : d 16 = δ 4 0 := h 16 (by omega)
theorem rdover (h : ∀ k, k < 22 → d k = dv δ k) : d 17 = δ 5 0 := h 17 (by omega)
theorem rdsold (h : ∀ k, k < 22 → d k = dv δ k) : d 18 = δ 6 0 := h 18 (by omega)
theorem rdearned (h : ∀ k, k < 22 → d k = dv δ k) : d 19 = δ 2 0 := h 19 (by omega)
theorem rdcent (h : ∀ k, k < 22 → d k = dv δ k) : d 20 = δ 0 0 := h 20 (by omega)
theorem rdworld (h : ∀ k, k < 22 → d k = dv δ k) : d 21 = δ 1 0 := h 21 (by omega)
end
theorem bo01 (x y : Int32) : bo x y = 0 ∨ bo x y = 1 := by
  unfold bo
  generalize x >>> (y &&& 31) = z
  have h : (z &&& 1).toBitVec = z.toBitVec &&& 1#32 := rfl
  have h2 : (z.toBitVec &&& 1#32).toNat = z.toBitVec.toNat % 2 := by rw [BitVec.toNat_and]; exact Nat.and_one_is_mod _
  rcases (show z.toBitVec.toNat % 2 = 0 ∨ z.toBitVec.toNat % 2 = 1 by omega) with e | e
  · exact Or.inl (by apply Int32.toBitVec_inj.mp; rw [h]; apply BitVec.eq_of_toNat_eq; rw [h2, e]; rfl)
  · exact Or.inr (by apply Int32.toBitVec_inj.mp; rw [h]; apply BitVec.eq_of_toNat_eq; rw [h2, e]; rfl)
theorem bo_n1 {x y : Int32} : ¬ bo x y = 1 ↔ bo x y = 0 := by
  rcases bo01 x y with h | h <;> rw [h] <;> decide
def hsk (τ : Nat → Nat → Int32) (p k : Nat) : Bool := decide (τ 1 p = 3) || decide (τ 1 p = τ 4 k)
theorem hsk_bo {τ : Nat → Nat → Int32} {p k : Nat} (hp : p < 5) (h1 : vp_in (τ 1 p) 4) (h2 : vp_in (τ 4 k) 3) : bo (tSkill τ (nI p)) (τ 4 k) = 1 ↔ hsk τ p k = true := by
  unfold hsk tSkill
  rw [nI_clamp (by omega)]
  obtain ⟨a, ha, ea⟩ := vp_in_of h1 (by decide)
  obtain ⟨b, hb, eb⟩ := vp_in_of h2 (by decide)
  rw [ea, eb]
  rcases (show a = 0 ∨ a = 1 ∨ a = 2 ∨ a = 3 by omega) with e | e | e | e <;> rcases (show b = 0 ∨ b = 1 ∨ b = 2 by omega) with f | f | f <;> subst e <;> subst f <;> decide
theorem cDo_iff {τ δ : Nat → Nat → Int32} {p k : Nat} (hp : p < 5) (hq : k < 6) (h1 : vp_in (τ 1 p) 4) (h2 : vp_in (τ 4 k) 3) : cDo τ δ (nI p) (nI k) = true ↔ (¬ bo (δ 4 0) (nI p) = 1 ∧ hsk τ p k = true ∧ ¬ δ 7 p < τ 5 k) := by
  unfold cDo
  rw [nI_clamp (show p < 2 ^ 31 by omega), nI_clamp (show k < 2 ^ 31 by omega), Bool.and_eq_true, Bool.and_eq_true, decide_eq_true_iff, decide_eq_true_iff, decide_eq_true_iff, hsk_bo hp h1 h2, bo_n1, ← xle_nlt]

set_option maxHeartbeats 4000000 in
set_option maxRecDepth 100000 in
theorem c_m_hasSkill {n : Nat} {M : Nat → xE} {t : Nat → Nat → Int32} {u : Nat → Nat → Int64} (hn : 113 < n) (hM : oX11 99 t u M) {τ : Nat → Nat → Int32} {P W G : Nat} (hw : RT τ P W G (t 0)) {p k : Nat} (hp : p < P) (hq : k < W) : xMet mX11_hasSkill [.ref 99, .int (nI p), .int (nI k)] n M (fun r M' => M = M' ∧ xB (hsk τ p k = true) r) := by
  have hM0 := hM
  obtain ⟨mp0, mp1, mp2, mp3, mp4, mp5, mp6, mp7, mp8, mp9, mp10, mp11, mp12, mp13, mp14⟩ := hM
  have hP5 := rtP hw
  have hW6 := rtW hw
  have hG5 := rtG hw
  have hiX11 : ∀ w ∈ wsX110, w ∈ wsX11_hasSkill := by decide +kernel
  refine xMet.of _ (by decide) rfl (Nat.le_of_ble_eq_true rfl) ?_
  refine x_aload_n (q := 1) dX11_hasSkill_0 rfl rfl ?_
  refine x_getf (C := RX11) (T := TX11) (N := 29) (k := 0) (q := 4) mp0 (by omega) rfl hiX11 (by decide) (by decide +kernel) rfl dX11_hasSkill_1 rfl ?_
  refine x_iconst (v := 1) (q := 5) dX11_hasSkill_4 rfl (by decide) ?_
  refine x_iload_n (q := 6) dX11_hasSkill_5 rfl rfl ?_
  refine x_iadd (q := 7) dX11_hasSkill_6 rfl ?_
  refine x_iald (q := 8) mp1 (by omega) (ixI (show ((1 + nI p) : Int32) = nI (1 + p) from (nIs rfl rfl)) (by omega) (by decide)) dX11_hasSkill_7 rfl ?_
  rw [ixC (show ((1 + nI p) : Int32) = nI (1 + p) from (nIs rfl rfl)) (by omega)]
  rw [rtkind hw hp]
  refine x_iconst (v := 3) (q := 9) dX11_hasSkill_8 rfl (by decide) ?_
  refine x_icmp_eq (t := 32) (q := 12) dX11_hasSkill_9 (by decide) rfl (fun c9 => ?_) (fun c9 => ?_)
  · refine x_iconst (v := 1) (q := 33) dX11_hasSkill_32 rfl (by decide) ?_
    refine x_goto (q := 37) dX11_hasSkill_33 (by decide) ?_
    refine x_zret dX11_hasSkill_37 rfl rfl rfl (Nat.le_refl _) ?_
    refine ⟨rfl, ?_⟩
    unfold hsk
    first
      | exact Or.inl ⟨by rw [c9]; rfl, rfl⟩
      | exact Or.inl ⟨by rw [c29]; simp, rfl⟩
      | exact Or.inr ⟨by rw [decide_eq_false c9, decide_eq_false c29]; decide, rfl⟩
  · refine x_aload_n (q := 13) dX11_hasSkill_12 rfl rfl ?_
    refine x_getf (C := RX11) (T := TX11) (N := 29) (k := 0) (q := 16) mp0 (by omega) rfl hiX11 (by decide) (by decide +kernel) rfl dX11_hasSkill_13 rfl ?_
    refine x_iconst (v := 1) (q := 17) dX11_hasSkill_16 rfl (by decide) ?_
    refine x_iload_n (q := 18) dX11_hasSkill_17 rfl rfl ?_
    refine x_iadd (q := 19) dX11_hasSkill_18 rfl ?_
    refine x_iald (q := 20) mp1 (by omega) (ixI (show ((1 + nI p) : Int32) = nI (1 + p) from (nIs rfl rfl)) (by omega) (by decide)) dX11_hasSkill_19 rfl ?_
    rw [ixC (show ((1 + nI p) : Int32) = nI (1 + p) from (nIs rfl rfl)) (by omega)]
    rw [rtkind hw hp]
    refine x_aload_n (q := 21) dX11_hasSkill_20 rfl rfl ?_
    refine x_getf (C := RX11) (T := TX11) (N := 29) (k := 0) (q := 24) mp0 (by omega) rfl hiX11 (by decide) (by decide +kernel) rfl dX11_hasSkill_21 rfl ?_
    refine x_bipush (v := 12) (q := 26) dX11_hasSkill_24 rfl (by decide) ?_
    refine x_iload_n (q := 27) dX11_hasSkill_26 rfl rfl ?_
    refine x_iadd (q := 28) dX11_hasSkill_27 rfl ?_
    refine x_iald (q := 29) mp1 (by omega) (ixI (show ((12 + nI k) : Int32) = nI (12 + k) from (nIs rfl rfl)) (by omega) (by decide)) dX11_hasSkill_28 rfl ?_
    rw [ixC (show ((12 + nI k) : Int32) = nI (12 + k) from (nIs rfl rfl)) (by omega)]
    rw [rtskill hw hq]
    refine x_icmp_ne (t := 36) (q := 32) dX11_hasSkill_29 (by decide) rfl (fun c29 => ?_) (fun c29 => ?_)
    · refine x_iconst (v := 0) (q := 37) dX11_hasSkill_36 rfl (by decide) ?_
      refine x_zret dX11_hasSkill_37 rfl rfl rfl (Nat.le_refl _) ?_
      refine ⟨rfl, ?_⟩
      unfold hsk
      first
        | exact Or.inl ⟨by rw [c9]; rfl, rfl⟩
        | exact Or.inl ⟨by rw [c29]; simp, rfl⟩
        | exact Or.inr ⟨by rw [decide_eq_false c9, decide_eq_false c29]; decide, rfl⟩
    · refine x_iconst (v := 1) (q := 33) dX11_hasSkill_32 rfl (by decide) ?_
      refine x_goto (q := 37) dX11_hasSkill_33 (by decide) ?_
      refine x_zret dX11_hasSkill_37 rfl rfl rfl (Nat.le_refl _) ?_
      refine ⟨rfl, ?_⟩
      unfold hsk
      first
        | exact Or.inl ⟨by rw [c9]; rfl, rfl⟩
        | exact Or.inl ⟨by rw [c29]; simp, rfl⟩
        | exact Or.inr ⟨by rw [decide_eq_false c9, decide_eq_false c29]; decide, rfl⟩

set_option maxHeartbeats 4000000 in
set_option maxRecDepth 100000 in
theorem c_m_canDo {n : Nat} {M : Nat → xE} {t : Nat → Nat → Int32} {u : Nat → Nat → Int64} (hn : 113 < n) (hM : oX11 99 t u M) {τ : Nat → Nat → Int32} {P W G : Nat} (hw : RT τ P W G (t 0)) {δ : Nat → Nat → Int32} (hd : ∀ k, k < 22 → t 1 k = dv δ k) (hk : TOK τ P W G) {p k : Nat} (hp : p < P) (hq : k < W) : xMet mX11_canDo [.ref 99, .int (nI p), .int (nI k)] n M (fun r M' => M = M' ∧ xB (cDo τ δ (nI p) (nI k) = true) r) := by
  have hM0 := hM
  obtain ⟨mp0, mp1, mp2, mp3, mp4, mp5, mp6, mp7, mp8, mp9, mp10, mp11, mp12, mp13, mp14⟩ := hM
  have hP5 := rtP hw
  have hW6 := rtW hw
  have hG5 := rtG hw
  have hiX11 : ∀ w ∈ wsX110, w ∈ wsX11_canDo := by decide +kernel
  refine xMet.of _ (by decide) rfl (Nat.le_of_ble_eq_true rfl) ?_
  refine x_aload_n (q := 1) dX11_canDo_0 rfl rfl ?_
  refine x_getf (C := RX11) (T := TX11) (N := 29) (k := 1) (q := 4) mp0 (by omega) rfl hiX11 (by decide) (by decide +kernel) rfl dX11_canDo_1 rfl ?_
  refine x_bipush (v := 16) (q := 6) dX11_canDo_4 rfl (by decide) ?_
  refine x_iald (q := 7) mp2 (by omega) (ixI (show (16 : Int32) = nI 16 from rfl) (by omega) (by decide)) dX11_canDo_6 rfl ?_
  rw [ixC (show (16 : Int32) = nI 16 from rfl) (by omega)]
  rw [rdasleep hd]
  refine x_iload_n (q := 8) dX11_canDo_7 rfl rfl ?_
  refine x_callS (q := 11) c_m_has eX11_canDo_164 gX11_canDo_X11_has rfl (Nat.le_of_ble_eq_true rfl) ⟨Nat.le_refl _, Nat.le_refl _⟩ dX11_canDo_8 rfl rfl (fun r8 M8 p8 => ?_)
  obtain ⟨rfl, p8⟩ := p8
  rcases p8 with ⟨b8, rfl⟩ | ⟨b8, rfl⟩
  · refine x_if_ne (t := 47) (q := 14) dX11_canDo_11 (by decide) rfl (fun c11 => ?_) (fun c11 => absurd c11 (by decide))
    refine x_iconst (v := 0) (q := 48) dX11_canDo_47 rfl (by decide) ?_
    refine x_zret dX11_canDo_48 rfl rfl rfl (Nat.le_refl _) ?_
    refine ⟨rfl, ?_⟩
    have hc := cDo_iff (δ := δ) (show p < 5 by omega) (show k < 6 by omega) (hk.2.1 p hp) (hk.2.2.1 k hq).1
    first
      | exact Or.inr ⟨fun h => (hc.mp h).1 b8, rfl⟩
      | exact Or.inr ⟨fun h => b17 (hc.mp h).2.1, rfl⟩
      | exact Or.inr ⟨fun h => (hc.mp h).2.2 c40, rfl⟩
      | exact Or.inl ⟨hc.mpr ⟨b8, b17, c40⟩, rfl⟩
  · refine x_if_ne (t := 47) (q := 14) dX11_canDo_11 (by decide) rfl (fun c11 => absurd c11 (by decide)) (fun c11 => ?_)
    refine x_aload_n (q := 15) dX11_canDo_14 rfl rfl ?_
    refine x_iload_n (q := 16) dX11_canDo_15 rfl rfl ?_
    refine x_iload_n (q := 17) dX11_canDo_16 rfl rfl ?_
    refine x_callV (q := 20) (ci := 11) (c_m_hasSkill hn hM0 hw hp hq) eX11_canDo_167 gX11_canDo_X11_hasSkill mp0 (by omega) rfl rfl rfl (Nat.le_of_ble_eq_true rfl) ⟨Nat.le_refl _, Nat.le_refl _⟩ dX11_canDo_17 rfl rfl (fun r17 M17 p17 => ?_)
    obtain ⟨rfl, p17⟩ := p17
    rcases p17 with ⟨b17, rfl⟩ | ⟨b17, rfl⟩
    · refine x_if_eq (t := 47) (q := 23) dX11_canDo_20 (by decide) rfl (fun c20 => absurd c20 (by decide)) (fun c20 => ?_)
      refine x_aload_n (q := 24) dX11_canDo_23 rfl rfl ?_
      refine x_getf (C := RX11) (T := TX11) (N := 29) (k := 1) (q := 27) mp0 (by omega) rfl hiX11 (by decide) (by decide +kernel) rfl dX11_canDo_24 rfl ?_
      refine x_iconst (v := 0) (q := 28) dX11_canDo_27 rfl (by decide) ?_
      refine x_iload_n (q := 29) dX11_canDo_28 rfl rfl ?_
      refine x_iadd (q := 30) dX11_canDo_29 rfl ?_
      refine x_iald (q := 31) mp2 (by omega) (ixI (show ((0 + nI p) : Int32) = nI (0 + p) from (nIs rfl rfl)) (by omega) (by decide)) dX11_canDo_30 rfl ?_
      rw [ixC (show ((0 + nI p) : Int32) = nI (0 + p) from (nIs rfl rfl)) (by omega)]
      rw [rdleft hd (show p < 5 by omega)]
      refine x_aload_n (q := 32) dX11_canDo_31 rfl rfl ?_
      refine x_getf (C := RX11) (T := TX11) (N := 29) (k := 0) (q := 35) mp0 (by omega) rfl hiX11 (by decide) (by decide +kernel) rfl dX11_canDo_32 rfl ?_
      refine x_bipush (v := 18) (q := 37) dX11_canDo_35 rfl (by decide) ?_
      refine x_iload_n (q := 38) dX11_canDo_37 rfl rfl ?_
      refine x_iadd (q := 39) dX11_canDo_38 rfl ?_
      refine x_iald (q := 40) mp1 (by omega) (ixI (show ((18 + nI k) : Int32) = nI (18 + k) from (nIs rfl rfl)) (by omega) (by decide)) dX11_canDo_39 rfl ?_
      rw [ixC (show ((18 + nI k) : Int32) = nI (18 + k) from (nIs rfl rfl)) (by omega)]
      rw [rtmin hw hq]
      refine x_icmp_lt (t := 47) (q := 43) dX11_canDo_40 (by decide) rfl (fun c40 => ?_) (fun c40 => ?_)
      · refine x_iconst (v := 0) (q := 48) dX11_canDo_47 rfl (by decide) ?_
        refine x_zret dX11_canDo_48 rfl rfl rfl (Nat.le_refl _) ?_
        refine ⟨rfl, ?_⟩
        have hc := cDo_iff (δ := δ) (show p < 5 by omega) (show k < 6 by omega) (hk.2.1 p hp) (hk.2.2.1 k hq).1
        first
          | exact Or.inr ⟨fun h => (hc.mp h).1 b8, rfl⟩
          | exact Or.inr ⟨fun h => b17 (hc.mp h).2.1, rfl⟩
          | exact Or.inr ⟨fun h => (hc.mp h).2.2 c40, rfl⟩
          | exact Or.inl ⟨hc.mpr ⟨b8, b17, c40⟩, rfl⟩
      · refine x_iconst (v := 1) (q := 44) dX11_canDo_43 rfl (by decide) ?_
        refine x_goto (q := 48) dX11_canDo_44 (by decide) ?_
        refine x_zret dX11_canDo_48 rfl rfl rfl (Nat.le_refl _) ?_
        refine ⟨rfl, ?_⟩
        have hc := cDo_iff (δ := δ) (show p < 5 by omega) (show k < 6 by omega) (hk.2.1 p hp) (hk.2.2.1 k hq).1
        first
          | exact Or.inr ⟨fun h => (hc.mp h).1 b8, rfl⟩
          | exact Or.inr ⟨fun h => b17 (hc.mp h).2.1, rfl⟩
          | exact Or.inr ⟨fun h => (hc.mp h).2.2 c40, rfl⟩
          | exact Or.inl ⟨hc.mpr ⟨b8, b17, c40⟩, rfl⟩
    · refine x_if_eq (t := 47) (q := 23) dX11_canDo_20 (by decide) rfl (fun c20 => ?_) (fun c20 => absurd c20 (by decide))
      refine x_iconst (v := 0) (q := 48) dX11_canDo_47 rfl (by decide) ?_
      refine x_zret dX11_canDo_48 rfl rfl rfl (Nat.le_refl _) ?_
      refine ⟨rfl, ?_⟩
      have hc := cDo_iff (δ := δ) (show p < 5 by omega) (show k < 6 by omega) (hk.2.1 p hp) (hk.2.2.1 k hq).1
      first
        | exact Or.inr ⟨fun h => (hc.mp h).1 b8, rfl⟩
        | exact Or.inr ⟨fun h => b17 (hc.mp h).2.1, rfl⟩
        | exact Or.inr ⟨fun h => (hc.mp h).2.2 c40, rfl⟩
        | exact Or.inl ⟨hc.mpr ⟨b8, b17, c40⟩, rfl⟩

set_option maxHeartbeats 4000000 in
set_option maxRecDepth 100000 in
theorem c_m_one {n : Nat} {M : Nat → xE} {t : Nat → Nat → Int32} {u : Nat → Nat → Int64} (hn : 113 < n) (hM : oX11 99 t u M) {τ : Nat → Nat → Int32} {P W G : Nat} (hw : RT τ P W G (t 0)) {δ : Nat → Nat → Int32} (hd : ∀ k, k < 22 → t 1 k = dv δ k) {a b : Int32} : xMet mX11_one [.ref 99, .int a, .int b] n M (fun r M' => M = M' ∧ some (.int (kOne τ δ P a b)) = r) := by
  have hM0 := hM
  obtain ⟨mp0, mp1, mp2, mp3, mp4, mp5, mp6, mp7, mp8, mp9, mp10, mp11, mp12, mp13, mp14⟩ := hM
  have hP5 := rtP hw
  have hW6 := rtW hw
  have hG5 := rtG hw
  have hiX11 : ∀ w ∈ wsX110, w ∈ wsX11_one := by decide +kernel
  refine xMet.of _ (by decide) rfl (Nat.le_of_ble_eq_true rfl) ?_
  refine x_aload_n (q := 1) dX11_one_0 rfl rfl ?_
  refine x_iload_n (q := 2) dX11_one_1 rfl rfl ?_
  refine x_callV (q := 5) (ci := 11) (c_m_isOne hn hM0 (rtP hw) (rtn hw)) eX11_one_170 gX11_one_X11_isOne mp0 (by omega) rfl rfl rfl (Nat.le_of_ble_eq_true rfl) ⟨Nat.le_refl _, Nat.le_refl _⟩ dX11_one_2 rfl rfl (fun r2 M2 p2 => ?_)
  obtain ⟨rfl, p2⟩ := p2
  rcases p2 with ⟨b2, rfl⟩ | ⟨b2, rfl⟩
  · obtain ⟨a1, ha1, rfl⟩ := vp_in_of (inB_t.mp b2) (by omega)
    refine x_if_ne (t := 11) (q := 8) dX11_one_5 (by decide) rfl (fun c5 => ?_) (fun c5 => absurd c5 (by decide))
    refine x_iload_n (q := 12) dX11_one_11 rfl rfl ?_
    by_cases hs12 : vp_in b 6
    · obtain ⟨k12, hk12, ek12⟩ := vp_in_of hs12 (by decide)
      rcases (show k12 = 0 ∨ k12 = 1 ∨ k12 = 2 ∨ k12 = 3 ∨ k12 = 4 ∨ k12 = 5 by omega) with ej | ej | ej | ej | ej | ej
      · rw [ej] at ek12
        refine x_tableIn (t := 52) (off := 40) dX11_one_12 (by rw [ek12]; decide) (by rw [ek12]; decide) (by rw [ek12]; decide +kernel) (by decide) ?_
        refine x_aload_n (q := 53) dX11_one_52 rfl rfl ?_
        refine x_getf (C := RX11) (T := TX11) (N := 29) (k := 0) (q := 56) mp0 (by omega) rfl hiX11 (by decide) (by decide +kernel) rfl dX11_one_53 rfl ?_
        refine x_iconst (v := 1) (q := 57) dX11_one_56 rfl (by decide) ?_
        refine x_iload_n (q := 58) dX11_one_57 rfl rfl ?_
        refine x_iadd (q := 59) dX11_one_58 rfl ?_
        refine x_iald (q := 60) mp1 (by omega) (ixI (show ((1 + nI a1) : Int32) = nI (1 + a1) from (nIs rfl rfl)) (by omega) (by decide)) dX11_one_59 rfl ?_
        rw [ixC (show ((1 + nI a1) : Int32) = nI (1 + a1) from (nIs rfl rfl)) (by omega)]
        rw [rtkind hw ha1]
        refine x_iret dX11_one_60 rfl rfl (Nat.le_refl _) ?_
        refine ⟨rfl, ?_⟩
        unfold kOne
        rw [if_pos b2]
        rw [ek12, nI_clamp (show a1 < 2 ^ 31 by omega)]
        first | done | rfl
      · rw [ej] at ek12
        refine x_tableIn (t := 61) (off := 49) dX11_one_12 (by rw [ek12]; decide) (by rw [ek12]; decide) (by rw [ek12]; decide +kernel) (by decide) ?_
        refine x_aload_n (q := 62) dX11_one_61 rfl rfl ?_
        refine x_getf (C := RX11) (T := TX11) (N := 29) (k := 0) (q := 65) mp0 (by omega) rfl hiX11 (by decide) (by decide +kernel) rfl dX11_one_62 rfl ?_
        refine x_bipush (v := 6) (q := 67) dX11_one_65 rfl (by decide) ?_
        refine x_iload_n (q := 68) dX11_one_67 rfl rfl ?_
        refine x_iadd (q := 69) dX11_one_68 rfl ?_
        refine x_iald (q := 70) mp1 (by omega) (ixI (show ((6 + nI a1) : Int32) = nI (6 + a1) from (nIs rfl rfl)) (by omega) (by decide)) dX11_one_69 rfl ?_
        rw [ixC (show ((6 + nI a1) : Int32) = nI (6 + a1) from (nIs rfl rfl)) (by omega)]
        rw [rtlike hw ha1]
        refine x_iret dX11_one_70 rfl rfl (Nat.le_refl _) ?_
        refine ⟨rfl, ?_⟩
        unfold kOne
        rw [if_pos b2]
        rw [ek12, nI_clamp (show a1 < 2 ^ 31 by omega)]
        first | done | rfl
      · rw [ej] at ek12
        refine x_tableIn (t := 71) (off := 59) dX11_one_12 (by rw [ek12]; decide) (by rw [ek12]; decide) (by rw [ek12]; decide +kernel) (by decide) ?_
        refine x_aload_n (q := 72) dX11_one_71 rfl rfl ?_
        refine x_getf (C := RX11) (T := TX11) (N := 29) (k := 1) (q := 75) mp0 (by omega) rfl hiX11 (by decide) (by decide +kernel) rfl dX11_one_72 rfl ?_
        refine x_iconst (v := 0) (q := 76) dX11_one_75 rfl (by decide) ?_
        refine x_iload_n (q := 77) dX11_one_76 rfl rfl ?_
        refine x_iadd (q := 78) dX11_one_77 rfl ?_
        refine x_iald (q := 79) mp2 (by omega) (ixI (show ((0 + nI a1) : Int32) = nI (0 + a1) from (nIs rfl rfl)) (by omega) (by decide)) dX11_one_78 rfl ?_
        rw [ixC (show ((0 + nI a1) : Int32) = nI (0 + a1) from (nIs rfl rfl)) (by omega)]
        rw [rdleft hd (show a1 < 5 by omega)]
        refine x_iret dX11_one_79 rfl rfl (Nat.le_refl _) ?_
        refine ⟨rfl, ?_⟩
        unfold kOne
        rw [if_pos b2]
        rw [ek12, nI_clamp (show a1 < 2 ^ 31 by omega)]
        first | done | rfl
      · rw [ej] at ek12
        refine x_tableIn (t := 80) (off := 68) dX11_one_12 (by rw [ek12]; decide) (by rw [ek12]; decide) (by rw [ek12]; decide +kernel) (by decide) ?_
        refine x_aload_n (q := 81) dX11_one_80 rfl rfl ?_
        refine x_getf (C := RX11) (T := TX11) (N := 29) (k := 1) (q := 84) mp0 (by omega) rfl hiX11 (by decide) (by decide +kernel) rfl dX11_one_81 rfl ?_
        refine x_bipush (v := 11) (q := 86) dX11_one_84 rfl (by decide) ?_
        refine x_iload_n (q := 87) dX11_one_86 rfl rfl ?_
        refine x_iadd (q := 88) dX11_one_87 rfl ?_
        refine x_iald (q := 89) mp2 (by omega) (ixI (show ((11 + nI a1) : Int32) = nI (11 + a1) from (nIs rfl rfl)) (by omega) (by decide)) dX11_one_88 rfl ?_
        rw [ixC (show ((11 + nI a1) : Int32) = nI (11 + a1) from (nIs rfl rfl)) (by omega)]
        rw [rdspouse hd (show a1 < 5 by omega)]
        refine x_iret dX11_one_89 rfl rfl (Nat.le_refl _) ?_
        refine ⟨rfl, ?_⟩
        unfold kOne
        rw [if_pos b2]
        rw [ek12, nI_clamp (show a1 < 2 ^ 31 by omega)]
        first | done | rfl
      · rw [ej] at ek12
        refine x_tableIn (t := 90) (off := 78) dX11_one_12 (by rw [ek12]; decide) (by rw [ek12]; decide) (by rw [ek12]; decide +kernel) (by decide) ?_
        refine x_aload_n (q := 91) dX11_one_90 rfl rfl ?_
        refine x_getf (C := RX11) (T := TX11) (N := 29) (k := 1) (q := 94) mp0 (by omega) rfl hiX11 (by decide) (by decide +kernel) rfl dX11_one_91 rfl ?_
        refine x_bipush (v := 16) (q := 96) dX11_one_94 rfl (by decide) ?_
        refine x_iald (q := 97) mp2 (by omega) (ixI (show (16 : Int32) = nI 16 from rfl) (by omega) (by decide)) dX11_one_96 rfl ?_
        rw [ixC (show (16 : Int32) = nI 16 from rfl) (by omega)]
        rw [rdasleep hd]
        refine x_iload_n (q := 98) dX11_one_97 rfl rfl ?_
        refine x_ishr (q := 99) dX11_one_98 rfl ?_
        refine x_iconst (v := 1) (q := 100) dX11_one_99 rfl (by decide) ?_
        refine x_iand (q := 101) dX11_one_100 rfl ?_
        refine x_iret dX11_one_101 rfl rfl (Nat.le_refl _) ?_
        refine ⟨rfl, ?_⟩
        unfold kOne
        rw [if_pos b2]
        rw [ek12, nI_clamp (show a1 < 2 ^ 31 by omega)]
        first | done | rfl
      · rw [ej] at ek12
        refine x_tableIn (t := 102) (off := 90) dX11_one_12 (by rw [ek12]; decide) (by rw [ek12]; decide) (by rw [ek12]; decide +kernel) (by decide) ?_
        refine x_aload_n (q := 103) dX11_one_102 rfl rfl ?_
        refine x_getf (C := RX11) (T := TX11) (N := 29) (k := 1) (q := 106) mp0 (by omega) rfl hiX11 (by decide) (by decide +kernel) rfl dX11_one_103 rfl ?_
        refine x_bipush (v := 17) (q := 108) dX11_one_106 rfl (by decide) ?_
        refine x_iald (q := 109) mp2 (by omega) (ixI (show (17 : Int32) = nI 17 from rfl) (by omega) (by decide)) dX11_one_108 rfl ?_
        rw [ixC (show (17 : Int32) = nI 17 from rfl) (by omega)]
        rw [rdover hd]
        refine x_iload_n (q := 110) dX11_one_109 rfl rfl ?_
        refine x_ishr (q := 111) dX11_one_110 rfl ?_
        refine x_iconst (v := 1) (q := 112) dX11_one_111 rfl (by decide) ?_
        refine x_iand (q := 113) dX11_one_112 rfl ?_
        refine x_iret dX11_one_113 rfl rfl (Nat.le_refl _) ?_
        refine ⟨rfl, ?_⟩
        unfold kOne
        rw [if_pos b2]
        rw [ek12, nI_clamp (show a1 < 2 ^ 31 by omega)]
        first | done | rfl
    · refine x_tableOut (t := 114) dX11_one_12 (by rw [vp_in_iff] at hs12; omega) (by decide) ?_
      refine x_bipush (v := -3) (q := 116) dX11_one_114 rfl (by decide) ?_
      refine x_iret dX11_one_116 rfl rfl (Nat.le_refl _) ?_
      refine ⟨rfl, ?_⟩
      unfold kOne
      rw [if_pos b2]
      rw [if_neg (show ¬ b = 0 from xne hs12 0 (by decide) (by decide)), if_neg (show ¬ b = 1 from xne hs12 1 (by decide) (by decide)), if_neg (show ¬ b = 2 from xne hs12 2 (by decide) (by decide)), if_neg (show ¬ b = 3 from xne hs12 3 (by decide) (by decide)), if_neg (show ¬ b = 4 from xne hs12 4 (by decide) (by decide)), if_neg (show ¬ b = 5 from xne hs12 5 (by decide) (by decide))]
  · refine x_if_ne (t := 11) (q := 8) dX11_one_5 (by decide) rfl (fun c5 => absurd c5 (by decide)) (fun c5 => ?_)
    refine x_bipush (v := -2) (q := 10) dX11_one_8 rfl (by decide) ?_
    refine x_iret dX11_one_10 rfl rfl (Nat.le_refl _) ?_
    refine ⟨rfl, ?_⟩
    unfold kOne
    rw [if_neg b2]

theorem kWork_nI {τ δ : Nat → Nat → Int32} {W a : Nat} {b : Int32} (ha : a < W) (hW : W ≤ 6) : kWork τ δ W (nI a) b = if b = 0 then τ 4 a else if b = 1 then τ 5 a else if b = 2 then τ 6 a else if b = 3 then τ 7 a else if b = 4 then δ 9 a else -3 := by
  unfold kWork
  rw [if_pos (inB_t.mpr (vp_in_nI ha (by omega))), nI_clamp (by omega)]
set_option maxHeartbeats 4000000 in
set_option maxRecDepth 100000 in
theorem c_m_work {n : Nat} {M : Nat → xE} {t : Nat → Nat → Int32} {u : Nat → Nat → Int64} (hn : 113 < n) (hM : oX11 99 t u M) {τ : Nat → Nat → Int32} {P W G : Nat} (hw : RT τ P W G (t 0)) {δ : Nat → Nat → Int32} (hd : ∀ k, k < 22 → t 1 k = dv δ k) {a b : Int32} : xMet mX11_work [.ref 99, .int a, .int b] n M (fun r M' => M = M' ∧ some (.int (kWork τ δ W a b)) = r) := by
  have hM0 := hM
  obtain ⟨mp0, mp1, mp2, mp3, mp4, mp5, mp6, mp7, mp8, mp9, mp10, mp11, mp12, mp13, mp14⟩ := hM
  have hP5 := rtP hw
  have hW6 := rtW hw
  have hG5 := rtG hw
  have hiX11 : ∀ w ∈ wsX110, w ∈ wsX11_work := by decide +kernel
  refine xMet.of _ (by decide) rfl (Nat.le_of_ble_eq_true rfl) ?_
  refine x_aload_n (q := 1) dX11_work_0 rfl rfl ?_
  refine x_iload_n (q := 2) dX11_work_1 rfl rfl ?_
  refine x_callV (q := 5) (ci := 11) (c_m_isWork hn hM0 (rtW hw) (rtmany hw)) eX11_work_173 gX11_work_X11_isWork mp0 (by omega) rfl rfl rfl (Nat.le_of_ble_eq_true rfl) ⟨Nat.le_refl _, Nat.le_refl _⟩ dX11_work_2 rfl rfl (fun r2 M2 p2 => ?_)
  obtain ⟨rfl, p2⟩ := p2
  rcases p2 with ⟨b2, rfl⟩ | ⟨b2, rfl⟩
  · obtain ⟨a1, ha1, rfl⟩ := vp_in_of (inB_t.mp b2) (by omega)
    refine x_if_ne (t := 11) (q := 8) dX11_work_5 (by decide) rfl (fun c5 => ?_) (fun c5 => absurd c5 (by decide))
    refine x_iload_n (q := 12) dX11_work_11 rfl rfl ?_
    refine x_i2l (q := 13) dX11_work_12 rfl ?_
    refine x_lconst (v := 0) (q := 14) dX11_work_13 rfl (by decide) ?_
    refine x_ldc2 (v := 4) (q := 17) (by decide +kernel) dX11_work_14 rfl ?_
    refine x_callS (q := 20) c_m_in eX11_work_65 gX11_work_X11_in rfl (Nat.le_of_ble_eq_true rfl) ⟨Nat.le_refl _, Nat.le_refl _⟩ dX11_work_17 rfl rfl (fun r17 M17 p17 => ?_)
    obtain ⟨rfl, p17⟩ := p17
    rcases p17 with ⟨b17, rfl⟩ | ⟨b17, rfl⟩
    · refine x_if_ne (t := 26) (q := 23) dX11_work_20 (by decide) rfl (fun c20 => ?_) (fun c20 => absurd c20 (by decide))
      refine x_iload_n (q := 27) dX11_work_26 rfl rfl ?_
      refine x_iconst (v := 4) (q := 28) dX11_work_27 rfl (by decide) ?_
      refine x_icmp_ne (t := 42) (q := 31) dX11_work_28 (by decide) rfl (fun c28 => ?_) (fun c28 => ?_)
      · obtain ⟨b1, hb1, eb⟩ := vp_in_of (inB_t.mp ((mIn2 (k := 4) (by decide) rfl).mp b17)) (by decide)
        have hb2 : ¬ b1 = 4 := fun h => c28 (by rw [eb, h]; rfl)
        rcases (show b1 = 0 ∨ b1 = 1 ∨ b1 = 2 ∨ b1 = 3 by omega) with h | h | h | h <;> rw [h] at eb <;> clear h
        · rw [eb]
          refine x_aload_n (q := 43) dX11_work_42 rfl rfl ?_
          refine x_getf (C := RX11) (T := TX11) (N := 29) (k := 0) (q := 46) mp0 (by omega) rfl hiX11 (by decide) (by decide +kernel) rfl dX11_work_43 rfl ?_
          refine x_bipush (v := 12) (q := 48) dX11_work_46 rfl (by decide) ?_
          refine x_bipush (v := 6) (q := 50) dX11_work_48 rfl (by decide) ?_
          refine x_iload_n (q := 51) dX11_work_50 rfl rfl ?_
          refine x_imul (q := 52) dX11_work_51 rfl ?_
          refine x_iadd (q := 53) dX11_work_52 rfl ?_
          refine x_iload_n (q := 54) dX11_work_53 rfl rfl ?_
          refine x_iadd (q := 55) dX11_work_54 rfl ?_
          refine x_iald (q := 56) mp1 (by omega) (ixI (show (((12 + (6 * nI 0)) + nI a1) : Int32) = nI ((12 + (6 * 0)) + a1) from (nIs (nIs rfl (nIm rfl rfl)) rfl)) (by omega) (by decide)) dX11_work_55 rfl ?_
          rw [ixC (show (((12 + (6 * nI 0)) + nI a1) : Int32) = nI ((12 + (6 * 0)) + a1) from (nIs (nIs rfl (nIm rfl rfl)) rfl)) (by omega)]
          rw [show t 0 (12 + 6 * 0 + a1) = _ from rtskill hw ha1]
          refine x_iret dX11_work_56 rfl rfl (Nat.le_refl _) ?_
          refine ⟨rfl, ?_⟩
          first
            | (unfold kWork; rw [if_pos b2]; done)
            | (rw [kWork_nI ha1 (by omega)]
               have hx : ¬ vp_in b 5 := fun h => b17 ((mIn2 (k := 4) (by decide) rfl).mpr (inB_t.mpr h))
               rw [if_neg (show ¬ b = 0 from xne hx 0 (by decide) (by decide)), if_neg (show ¬ b = 1 from xne hx 1 (by decide) (by decide)), if_neg (show ¬ b = 2 from xne hx 2 (by decide) (by decide)), if_neg (show ¬ b = 3 from xne hx 3 (by decide) (by decide)), if_neg (show ¬ b = 4 from xne hx 4 (by decide) (by decide))]; done)
            | (rw [kWork_nI ha1 (by omega), c28]; rfl)
            | (rw [kWork_nI ha1 (by omega)]; rfl)
        · rw [eb]
          refine x_aload_n (q := 43) dX11_work_42 rfl rfl ?_
          refine x_getf (C := RX11) (T := TX11) (N := 29) (k := 0) (q := 46) mp0 (by omega) rfl hiX11 (by decide) (by decide +kernel) rfl dX11_work_43 rfl ?_
          refine x_bipush (v := 12) (q := 48) dX11_work_46 rfl (by decide) ?_
          refine x_bipush (v := 6) (q := 50) dX11_work_48 rfl (by decide) ?_
          refine x_iload_n (q := 51) dX11_work_50 rfl rfl ?_
          refine x_imul (q := 52) dX11_work_51 rfl ?_
          refine x_iadd (q := 53) dX11_work_52 rfl ?_
          refine x_iload_n (q := 54) dX11_work_53 rfl rfl ?_
          refine x_iadd (q := 55) dX11_work_54 rfl ?_
          refine x_iald (q := 56) mp1 (by omega) (ixI (show (((12 + (6 * nI 1)) + nI a1) : Int32) = nI ((12 + (6 * 1)) + a1) from (nIs (nIs rfl (nIm rfl rfl)) rfl)) (by omega) (by decide)) dX11_work_55 rfl ?_
          rw [ixC (show (((12 + (6 * nI 1)) + nI a1) : Int32) = nI ((12 + (6 * 1)) + a1) from (nIs (nIs rfl (nIm rfl rfl)) rfl)) (by omega)]
          rw [show t 0 (12 + 6 * 1 + a1) = _ from rtmin hw ha1]
          refine x_iret dX11_work_56 rfl rfl (Nat.le_refl _) ?_
          refine ⟨rfl, ?_⟩
          first
            | (unfold kWork; rw [if_pos b2]; done)
            | (rw [kWork_nI ha1 (by omega)]
               have hx : ¬ vp_in b 5 := fun h => b17 ((mIn2 (k := 4) (by decide) rfl).mpr (inB_t.mpr h))
               rw [if_neg (show ¬ b = 0 from xne hx 0 (by decide) (by decide)), if_neg (show ¬ b = 1 from xne hx 1 (by decide) (by decide)), if_neg (show ¬ b = 2 from xne hx 2 (by decide) (by decide)), if_neg (show ¬ b = 3 from xne hx 3 (by decide) (by decide)), if_neg (show ¬ b = 4 from xne hx 4 (by decide) (by decide))]; done)
            | (rw [kWork_nI ha1 (by omega), c28]; rfl)
            | (rw [kWork_nI ha1 (by omega)]; rfl)
        · rw [eb]
          refine x_aload_n (q := 43) dX11_work_42 rfl rfl ?_
          refine x_getf (C := RX11) (T := TX11) (N := 29) (k := 0) (q := 46) mp0 (by omega) rfl hiX11 (by decide) (by decide +kernel) rfl dX11_work_43 rfl ?_
          refine x_bipush (v := 12) (q := 48) dX11_work_46 rfl (by decide) ?_
          refine x_bipush (v := 6) (q := 50) dX11_work_48 rfl (by decide) ?_
          refine x_iload_n (q := 51) dX11_work_50 rfl rfl ?_
          refine x_imul (q := 52) dX11_work_51 rfl ?_
          refine x_iadd (q := 53) dX11_work_52 rfl ?_
          refine x_iload_n (q := 54) dX11_work_53 rfl rfl ?_
          refine x_iadd (q := 55) dX11_work_54 rfl ?_
          refine x_iald (q := 56) mp1 (by omega) (ixI (show (((12 + (6 * nI 2)) + nI a1) : Int32) = nI ((12 + (6 * 2)) + a1) from (nIs (nIs rfl (nIm rfl rfl)) rfl)) (by omega) (by decide)) dX11_work_55 rfl ?_
          rw [ixC (show (((12 + (6 * nI 2)) + nI a1) : Int32) = nI ((12 + (6 * 2)) + a1) from (nIs (nIs rfl (nIm rfl rfl)) rfl)) (by omega)]
          rw [show t 0 (12 + 6 * 2 + a1) = _ from rtlong hw ha1]
          refine x_iret dX11_work_56 rfl rfl (Nat.le_refl _) ?_
          refine ⟨rfl, ?_⟩
          first
            | (unfold kWork; rw [if_pos b2]; done)
            | (rw [kWork_nI ha1 (by omega)]
               have hx : ¬ vp_in b 5 := fun h => b17 ((mIn2 (k := 4) (by decide) rfl).mpr (inB_t.mpr h))
               rw [if_neg (show ¬ b = 0 from xne hx 0 (by decide) (by decide)), if_neg (show ¬ b = 1 from xne hx 1 (by decide) (by decide)), if_neg (show ¬ b = 2 from xne hx 2 (by decide) (by decide)), if_neg (show ¬ b = 3 from xne hx 3 (by decide) (by decide)), if_neg (show ¬ b = 4 from xne hx 4 (by decide) (by decide))]; done)
            | (rw [kWork_nI ha1 (by omega), c28]; rfl)
            | (rw [kWork_nI ha1 (by omega)]; rfl)
        · rw [eb]
          refine x_aload_n (q := 43) dX11_work_42 rfl rfl ?_
          refine x_getf (C := RX11) (T := TX11) (N := 29) (k := 0) (q := 46) mp0 (by omega) rfl hiX11 (by decide) (by decide +kernel) rfl dX11_work_43 rfl ?_
          refine x_bipush (v := 12) (q := 48) dX11_work_46 rfl (by decide) ?_
          refine x_bipush (v := 6) (q := 50) dX11_work_48 rfl (by decide) ?_
          refine x_iload_n (q := 51) dX11_work_50 rfl rfl ?_
          refine x_imul (q := 52) dX11_work_51 rfl ?_
          refine x_iadd (q := 53) dX11_work_52 rfl ?_
          refine x_iload_n (q := 54) dX11_work_53 rfl rfl ?_
          refine x_iadd (q := 55) dX11_work_54 rfl ?_
          refine x_iald (q := 56) mp1 (by omega) (ixI (show (((12 + (6 * nI 3)) + nI a1) : Int32) = nI ((12 + (6 * 3)) + a1) from (nIs (nIs rfl (nIm rfl rfl)) rfl)) (by omega) (by decide)) dX11_work_55 rfl ?_
          rw [ixC (show (((12 + (6 * nI 3)) + nI a1) : Int32) = nI ((12 + (6 * 3)) + a1) from (nIs (nIs rfl (nIm rfl rfl)) rfl)) (by omega)]
          rw [show t 0 (12 + 6 * 3 + a1) = _ from rtworth hw ha1]
          refine x_iret dX11_work_56 rfl rfl (Nat.le_refl _) ?_
          refine ⟨rfl, ?_⟩
          first
            | (unfold kWork; rw [if_pos b2]; done)
            | (rw [kWork_nI ha1 (by omega)]
               have hx : ¬ vp_in b 5 := fun h => b17 ((mIn2 (k := 4) (by decide) rfl).mpr (inB_t.mpr h))
               rw [if_neg (show ¬ b = 0 from xne hx 0 (by decide) (by decide)), if_neg (show ¬ b = 1 from xne hx 1 (by decide) (by decide)), if_neg (show ¬ b = 2 from xne hx 2 (by decide) (by decide)), if_neg (show ¬ b = 3 from xne hx 3 (by decide) (by decide)), if_neg (show ¬ b = 4 from xne hx 4 (by decide) (by decide))]; done)
            | (rw [kWork_nI ha1 (by omega), c28]; rfl)
            | (rw [kWork_nI ha1 (by omega)]; rfl)
        
      · refine x_aload_n (q := 32) dX11_work_31 rfl rfl ?_
        refine x_getf (C := RX11) (T := TX11) (N := 29) (k := 1) (q := 35) mp0 (by omega) rfl hiX11 (by decide) (by decide +kernel) rfl dX11_work_32 rfl ?_
        refine x_iconst (v := 5) (q := 36) dX11_work_35 rfl (by decide) ?_
        refine x_iload_n (q := 37) dX11_work_36 rfl rfl ?_
        refine x_iadd (q := 38) dX11_work_37 rfl ?_
        refine x_iald (q := 39) mp2 (by omega) (ixI (show ((5 + nI a1) : Int32) = nI (5 + a1) from (nIs rfl rfl)) (by omega) (by decide)) dX11_work_38 rfl ?_
        rw [ixC (show ((5 + nI a1) : Int32) = nI (5 + a1) from (nIs rfl rfl)) (by omega)]
        rw [rdholds hd (show a1 < 6 by omega)]
        refine x_goto (q := 56) dX11_work_39 (by decide) ?_
        refine x_iret dX11_work_56 rfl rfl (Nat.le_refl _) ?_
        refine ⟨rfl, ?_⟩
        first
          | (unfold kWork; rw [if_pos b2]; done)
          | (rw [kWork_nI ha1 (by omega)]
             have hx : ¬ vp_in b 5 := fun h => b17 ((mIn2 (k := 4) (by decide) rfl).mpr (inB_t.mpr h))
             rw [if_neg (show ¬ b = 0 from xne hx 0 (by decide) (by decide)), if_neg (show ¬ b = 1 from xne hx 1 (by decide) (by decide)), if_neg (show ¬ b = 2 from xne hx 2 (by decide) (by decide)), if_neg (show ¬ b = 3 from xne hx 3 (by decide) (by decide)), if_neg (show ¬ b = 4 from xne hx 4 (by decide) (by decide))]; done)
          | (rw [kWork_nI ha1 (by omega), c28]; rfl)
          | (rw [kWork_nI ha1 (by omega)]; rfl)
    · refine x_if_ne (t := 26) (q := 23) dX11_work_20 (by decide) rfl (fun c20 => absurd c20 (by decide)) (fun c20 => ?_)
      refine x_bipush (v := -3) (q := 25) dX11_work_23 rfl (by decide) ?_
      refine x_iret dX11_work_25 rfl rfl (Nat.le_refl _) ?_
      refine ⟨rfl, ?_⟩
      first
        | (unfold kWork; rw [if_pos b2]; done)
        | (rw [kWork_nI ha1 (by omega)]
           have hx : ¬ vp_in b 5 := fun h => b17 ((mIn2 (k := 4) (by decide) rfl).mpr (inB_t.mpr h))
           rw [if_neg (show ¬ b = 0 from xne hx 0 (by decide) (by decide)), if_neg (show ¬ b = 1 from xne hx 1 (by decide) (by decide)), if_neg (show ¬ b = 2 from xne hx 2 (by decide) (by decide)), if_neg (show ¬ b = 3 from xne hx 3 (by decide) (by decide)), if_neg (show ¬ b = 4 from xne hx 4 (by decide) (by decide))]; done)
        | (rw [kWork_nI ha1 (by omega), c28]; rfl)
        | (rw [kWork_nI ha1 (by omega)]; rfl)
  · refine x_if_ne (t := 11) (q := 8) dX11_work_5 (by decide) rfl (fun c5 => absurd c5 (by decide)) (fun c5 => ?_)
    refine x_bipush (v := -2) (q := 10) dX11_work_8 rfl (by decide) ?_
    refine x_iret dX11_work_10 rfl rfl (Nat.le_refl _) ?_
    refine ⟨rfl, ?_⟩
    first
      | (unfold kWork; rw [if_neg b2]; done)
      | (rw [kWork_nI ha1 (by omega)]
         have hx : ¬ vp_in b 5 := fun h => b17 ((mIn2 (k := 4) (by decide) rfl).mpr (inB_t.mpr h))
         rw [if_neg (show ¬ b = 0 from xne hx 0 (by decide) (by decide)), if_neg (show ¬ b = 1 from xne hx 1 (by decide) (by decide)), if_neg (show ¬ b = 2 from xne hx 2 (by decide) (by decide)), if_neg (show ¬ b = 3 from xne hx 3 (by decide) (by decide)), if_neg (show ¬ b = 4 from xne hx 4 (by decide) (by decide))]; done)
      | (rw [kWork_nI ha1 (by omega), c28]; rfl)
      | (rw [kWork_nI ha1 (by omega)]; rfl)

theorem tPrice_m {τ : Nat → Nat → Int32} {g c : Nat} (hg : g < 5) (hc : c < 2000) (h1 : vp_in (τ 10 g) 100) (h2 : vp_in (τ 11 g) 10) {v : Int32} (hv : v = τ 10 g + (if (if bo (τ 9 0) (nI g) = 1 then (1 : Int32) else 2) = 1 then 1 else -1) * τ 11 g * nI c) : (if v < 0 then 0 else v) = tPrice τ (nI g) (nI c) := by
  unfold tPrice
  rw [nI_clamp (show g < 2 ^ 31 by omega), hv]
  obtain ⟨a, ha, ea⟩ := vp_in_of h1 (by decide)
  obtain ⟨b, hb, eb⟩ := vp_in_of h2 (by decide)
  rw [ea, eb]
  by_cases h : bo (τ 9 0) (nI g) = 1
  · rw [if_pos h, if_pos h, if_pos rfl, Int32.one_mul, nIm (a := nI b) (b := nI c) rfl rfl, nI_add]
    have : b * c ≤ 10 * 2000 := Nat.mul_le_mul (by omega) (by omega)
    rw [if_neg]
    exact xle_nlt.mpr (nI_le (a := 0) (b := a + b * c) (Nat.zero_le _) (by omega))
  · rw [if_neg h, if_neg h, if_neg (show ¬ (2 : Int32) = 1 by decide), Int32.neg_mul, Int32.one_mul, Int32.neg_mul, ← Int32.sub_eq_add_neg]
    generalize nI a - nI b * nI c = y
    by_cases h3 : 0 < y
    · rw [if_pos h3, if_neg]
      rw [fa_lt] at h3 ⊢; omega
    · rw [if_neg h3]
      by_cases h4 : y < 0
      · rw [if_pos h4]
      · rw [if_neg h4]
        rw [fa_lt] at h3 h4
        exact Int32.toInt_inj.mp (by rw [show (0 : Int32).toInt = 0 from rfl] at *; omega)
set_option maxHeartbeats 4000000 in
set_option maxRecDepth 100000 in
theorem c_m_worthIn {n : Nat} {M : Nat → xE} {t : Nat → Nat → Int32} {u : Nat → Nat → Int64} (hn : 113 < n) (hM : oX11 99 t u M) {τ : Nat → Nat → Int32} {P W G : Nat} (hw : RT τ P W G (t 0)) (hk : TOK τ P W G) {g c : Nat} (hg : g < G) (hc : c < 2000) : xMet mX11_worthIn [.ref 99, .int (nI g), .int (nI c)] n M (fun r M' => M = M' ∧ some (.int (tPrice τ (nI g) (nI c))) = r) := by
  have hM0 := hM
  obtain ⟨mp0, mp1, mp2, mp3, mp4, mp5, mp6, mp7, mp8, mp9, mp10, mp11, mp12, mp13, mp14⟩ := hM
  have hP5 := rtP hw
  have hW6 := rtW hw
  have hG5 := rtG hw
  have hiX11 : ∀ w ∈ wsX110, w ∈ wsX11_worthIn := by decide +kernel
  refine xMet.of _ (by decide) rfl (Nat.le_of_ble_eq_true rfl) ?_
  refine x_aload_n (q := 1) dX11_worthIn_0 rfl rfl ?_
  refine x_getf (C := RX11) (T := TX11) (N := 29) (k := 0) (q := 4) mp0 (by omega) rfl hiX11 (by decide) (by decide +kernel) rfl dX11_worthIn_1 rfl ?_
  refine x_bipush (v := 38) (q := 6) dX11_worthIn_4 rfl (by decide) ?_
  refine x_iload_n (q := 7) dX11_worthIn_6 rfl rfl ?_
  refine x_iadd (q := 8) dX11_worthIn_7 rfl ?_
  refine x_iald (q := 9) mp1 (by omega) (ixI (show ((38 + nI g) : Int32) = nI (38 + g) from (nIs rfl rfl)) (by omega) (by decide)) dX11_worthIn_8 rfl ?_
  rw [ixC (show ((38 + nI g) : Int32) = nI (38 + g) from (nIs rfl rfl)) (by omega)]
  rw [rtprice hw hg]
  refine x_aload_n (q := 10) dX11_worthIn_9 rfl rfl ?_
  refine x_getf (C := RX11) (T := TX11) (N := 29) (k := 0) (q := 13) mp0 (by omega) rfl hiX11 (by decide) (by decide +kernel) rfl dX11_worthIn_10 rfl ?_
  refine x_bipush (v := 48) (q := 15) dX11_worthIn_13 rfl (by decide) ?_
  refine x_iload_n (q := 16) dX11_worthIn_15 rfl rfl ?_
  refine x_iadd (q := 17) dX11_worthIn_16 rfl ?_
  refine x_iald (q := 18) mp1 (by omega) (ixI (show ((48 + nI g) : Int32) = nI (48 + g) from (nIs rfl rfl)) (by omega) (by decide)) dX11_worthIn_17 rfl ?_
  rw [ixC (show ((48 + nI g) : Int32) = nI (48 + g) from (nIs rfl rfl)) (by omega)]
  rw [rtsort hw hg]
  refine x_iconst (v := 1) (q := 19) dX11_worthIn_18 rfl (by decide) ?_
  refine x_icmp_ne (t := 26) (q := 22) dX11_worthIn_19 (by decide) rfl (fun c19 => ?_) (fun c19 => ?_)
  · refine x_iconst (v := -1) (q := 27) dX11_worthIn_26 rfl (by decide) ?_
    refine x_aload_n (q := 28) dX11_worthIn_27 rfl rfl ?_
    refine x_getf (C := RX11) (T := TX11) (N := 29) (k := 0) (q := 31) mp0 (by omega) rfl hiX11 (by decide) (by decide +kernel) rfl dX11_worthIn_28 rfl ?_
    refine x_bipush (v := 43) (q := 33) dX11_worthIn_31 rfl (by decide) ?_
    refine x_iload_n (q := 34) dX11_worthIn_33 rfl rfl ?_
    refine x_iadd (q := 35) dX11_worthIn_34 rfl ?_
    refine x_iald (q := 36) mp1 (by omega) (ixI (show ((43 + nI g) : Int32) = nI (43 + g) from (nIs rfl rfl)) (by omega) (by decide)) dX11_worthIn_35 rfl ?_
    rw [ixC (show ((43 + nI g) : Int32) = nI (43 + g) from (nIs rfl rfl)) (by omega)]
    rw [rtby hw hg]
    refine x_imul (q := 37) dX11_worthIn_36 rfl ?_
    refine x_iload_n (q := 38) dX11_worthIn_37 rfl rfl ?_
    refine x_imul (q := 39) dX11_worthIn_38 rfl ?_
    refine x_iadd (q := 40) dX11_worthIn_39 rfl ?_
    refine x_istore_n (L' := fun x3_40 => [(3, .int x3_40), (0, .ref 99), (1, .int (nI g)), (2, .int (nI c))]) (q := 41) dX11_worthIn_40 rfl (by decide) (fun _ => rfl) (fun x3_40 ex3_40 => ?_)
    refine x_iload_n (q := 42) dX11_worthIn_41 rfl rfl ?_
    refine x_if_ge (t := 49) (q := 45) dX11_worthIn_42 (by decide) rfl (fun c42 => ?_) (fun c42 => ?_)
    · refine x_iload_n (q := 50) dX11_worthIn_49 rfl rfl ?_
      refine x_iret dX11_worthIn_50 rfl rfl (Nat.le_refl _) ?_
      refine ⟨rfl, ?_⟩
      rw [← tPrice_m (by omega) hc (hk.2.2.2.1 g hg).1 (hk.2.2.2.1 g hg).2 (v := x3_40) (by first | rw [if_pos c19]; exact ex3_40 | rw [if_neg c19]; exact ex3_40)]
      first
        | rw [if_neg (xle_nlt.mpr c42)]
        | rw [if_pos (xlt_nle.mp c42)]
    · refine x_iconst (v := 0) (q := 46) dX11_worthIn_45 rfl (by decide) ?_
      refine x_goto (q := 50) dX11_worthIn_46 (by decide) ?_
      refine x_iret dX11_worthIn_50 rfl rfl (Nat.le_refl _) ?_
      refine ⟨rfl, ?_⟩
      rw [← tPrice_m (by omega) hc (hk.2.2.2.1 g hg).1 (hk.2.2.2.1 g hg).2 (v := x3_40) (by first | rw [if_pos c19]; exact ex3_40 | rw [if_neg c19]; exact ex3_40)]
      first
        | rw [if_neg (xle_nlt.mpr c42)]
        | rw [if_pos (xlt_nle.mp c42)]
  · refine x_iconst (v := 1) (q := 23) dX11_worthIn_22 rfl (by decide) ?_
    refine x_goto (q := 27) dX11_worthIn_23 (by decide) ?_
    refine x_aload_n (q := 28) dX11_worthIn_27 rfl rfl ?_
    refine x_getf (C := RX11) (T := TX11) (N := 29) (k := 0) (q := 31) mp0 (by omega) rfl hiX11 (by decide) (by decide +kernel) rfl dX11_worthIn_28 rfl ?_
    refine x_bipush (v := 43) (q := 33) dX11_worthIn_31 rfl (by decide) ?_
    refine x_iload_n (q := 34) dX11_worthIn_33 rfl rfl ?_
    refine x_iadd (q := 35) dX11_worthIn_34 rfl ?_
    refine x_iald (q := 36) mp1 (by omega) (ixI (show ((43 + nI g) : Int32) = nI (43 + g) from (nIs rfl rfl)) (by omega) (by decide)) dX11_worthIn_35 rfl ?_
    rw [ixC (show ((43 + nI g) : Int32) = nI (43 + g) from (nIs rfl rfl)) (by omega)]
    rw [rtby hw hg]
    refine x_imul (q := 37) dX11_worthIn_36 rfl ?_
    refine x_iload_n (q := 38) dX11_worthIn_37 rfl rfl ?_
    refine x_imul (q := 39) dX11_worthIn_38 rfl ?_
    refine x_iadd (q := 40) dX11_worthIn_39 rfl ?_
    refine x_istore_n (L' := fun x3_40 => [(3, .int x3_40), (0, .ref 99), (1, .int (nI g)), (2, .int (nI c))]) (q := 41) dX11_worthIn_40 rfl (by decide) (fun _ => rfl) (fun x3_40 ex3_40 => ?_)
    refine x_iload_n (q := 42) dX11_worthIn_41 rfl rfl ?_
    refine x_if_ge (t := 49) (q := 45) dX11_worthIn_42 (by decide) rfl (fun c42 => ?_) (fun c42 => ?_)
    · refine x_iload_n (q := 50) dX11_worthIn_49 rfl rfl ?_
      refine x_iret dX11_worthIn_50 rfl rfl (Nat.le_refl _) ?_
      refine ⟨rfl, ?_⟩
      rw [← tPrice_m (by omega) hc (hk.2.2.2.1 g hg).1 (hk.2.2.2.1 g hg).2 (v := x3_40) (by first | rw [if_pos c19]; exact ex3_40 | rw [if_neg c19]; exact ex3_40)]
      first
        | rw [if_neg (xle_nlt.mpr c42)]
        | rw [if_pos (xlt_nle.mp c42)]
    · refine x_iconst (v := 0) (q := 46) dX11_worthIn_45 rfl (by decide) ?_
      refine x_goto (q := 50) dX11_worthIn_46 (by decide) ?_
      refine x_iret dX11_worthIn_50 rfl rfl (Nat.le_refl _) ?_
      refine ⟨rfl, ?_⟩
      rw [← tPrice_m (by omega) hc (hk.2.2.2.1 g hg).1 (hk.2.2.2.1 g hg).2 (v := x3_40) (by first | rw [if_pos c19]; exact ex3_40 | rw [if_neg c19]; exact ex3_40)]
      first
        | rw [if_neg (xle_nlt.mpr c42)]
        | rw [if_pos (xlt_nle.mp c42)]

