def dpk (go : Nat → Nat) (A W : Nat) : Nat → Nat → (Nat → Nat → Int32) → Int32 → Option Nat → Option Nat
  | 0, _, _, _, fo => fo
  | k + 1, w, t, goal, _ => (fdo t go A W w goal).elim (dpk go A W k (w + 1) t goal none) (fun a => dpk go A W k (w + 1) (lftS t a w) (goal - t 5 w) (some a))
def doX (t : Nat → Nat → Int32) (go : Nat → Nat) (A W B : Nat) : Option Nat := dpk go A W (B + 1) 0 t (nI (plM t go A W 0)) none
set_option maxHeartbeats 4000000 in
set_option maxRecDepth 100000 in
theorem l_Pl_do {n p B W A : Nat} {t0 : Nat → Nat → Int32} {go : Nat → Nat} {Q : Option Value → (Nat → xE) → Prop} {M0 : Nat → xE} (hp : p + 7 < n) (hA : A ≤ 5) (hW : W ≤ 6) (hB : B < W) (hA0 : t0 1 0 = nI A) (hW0 : t0 2 0 = nI W) (hgo : ∀ U, U < 2 ^ W → t0 8 U = nI (go U)) (hgol : ∀ U, go U ≤ 1000) : ∀ (k i : Nat) (M : Nat → xE) (t : Nat → Nat → Int32) (h : Nat → Int32) (fo : Option Nat) (goal : Int32), i + k = B + 1 → (oX6 p (fun k => if k = 9 then h else t k) M) → (∀ z, z ≠ 3 → z ≠ 9 → t z = t0 z) → (xfr p (p + 8) M0 M) → (∀ (M : Nat → xE) (t' : Nat → Nat → Int32), oX6 p t' M → (∀ z, z ≠ 3 → z ≠ 9 → t' z = t0 z) → xfr p (p + 8) M0 M → Q (some (.int (oI (dpk go A W k i t goal fo)))) M) → X mX6_doerOf 0 0 11 [(4, .int (nI i)), (3, .int (oI fo)), (2, .int goal), (0, .ref p), (1, .int (nI B))] [] n M (Q) := by
  have hiX6 : ∀ w ∈ wsX60, w ∈ wsX6_doerOf := by decide +kernel
  intro k
  induction k with
  | zero =>
    intro i M t h fo goal hik hT ht hf hQ
    have e1 := ht 1 (by decide) (by decide)
    have e2 := ht 2 (by decide) (by decide)
    have e8 := ht 8 (by decide) (by decide)
    have kA0 : t 1 0 = nI A := by rw [e1]; exact hA0
    have kW0 : t 2 0 = nI W := by rw [e2]; exact hW0
    have kgo : ∀ U, U < 2 ^ W → t 8 U = nI (go U) := fun U hU => by rw [e8]; exact hgo U hU
    have hT0 := hT
    obtain ⟨tp0, tp1, tp2, tp3, tp4, tp5, tp6, tp7⟩ := hT
    have tp0 : M p = .inr (6, [.int (t 0 0), .int (t 1 0), .int (nI W), .ref (p + 1), .ref (p + 2), .ref (p + 3), .ref (p + 4), .ref (p + 5), .ref (p + 6), .ref (p + 7)]) := by rw [tp0, ← kW0]; rfl
    refine x_iload (q := 13) dX6_doerOf_11 rfl rfl ?_
    refine x_iload_n (q := 14) dX6_doerOf_13 rfl rfl ?_
    refine x_icmp_gt (t := 55) (q := 17) dX6_doerOf_14 (by decide) rfl (fun c14 => ?_) (fun c14 => absurd (nI_lt (show B < i by omega) (by omega)) c14)
    refine x_iload_n (q := 56) dX6_doerOf_55 rfl rfl ?_
    refine x_iret dX6_doerOf_56 rfl rfl (Nat.le_refl _) ?_
    exact hQ M _ hT0 (fun z h1 h2 => by show (if z = 9 then h else t z) = _; rw [if_neg h2]; exact ht z h1 h2) hf
  | succ k ih =>
    intro i M t h fo goal hik hT ht hf hQ
    have e1 := ht 1 (by decide) (by decide)
    have e2 := ht 2 (by decide) (by decide)
    have e8 := ht 8 (by decide) (by decide)
    have kA0 : t 1 0 = nI A := by rw [e1]; exact hA0
    have kW0 : t 2 0 = nI W := by rw [e2]; exact hW0
    have kgo : ∀ U, U < 2 ^ W → t 8 U = nI (go U) := fun U hU => by rw [e8]; exact hgo U hU
    have hT0 := hT
    obtain ⟨tp0, tp1, tp2, tp3, tp4, tp5, tp6, tp7⟩ := hT
    have tp0 : M p = .inr (6, [.int (t 0 0), .int (t 1 0), .int (nI W), .ref (p + 1), .ref (p + 2), .ref (p + 3), .ref (p + 4), .ref (p + 5), .ref (p + 6), .ref (p + 7)]) := by rw [tp0, ← kW0]; rfl
    refine x_iload (q := 13) dX6_doerOf_11 rfl rfl ?_
    refine x_iload_n (q := 14) dX6_doerOf_13 rfl rfl ?_
    refine x_icmp_gt (t := 55) (q := 17) dX6_doerOf_14 (by decide) rfl (fun c14 => absurd c14 (nI_nlt (show i ≤ B by omega) (by omega))) (fun c14 => ?_)
    refine x_iload (q := 19) dX6_doerOf_17 rfl rfl ?_
    refine x_aload_n (q := 20) dX6_doerOf_19 rfl rfl ?_
    refine x_getf (C := RX6) (T := TX6) (N := 10) (k := 2) (q := 23) tp0 (by omega) rfl hiX6 (by decide) (by decide +kernel) rfl dX6_doerOf_20 rfl ?_
    refine x_icmp_ge (t := 55) (q := 26) dX6_doerOf_23 (by decide) rfl (fun c23 => absurd c23 (nI_ge (a := i) (b := W) (by omega) (by omega))) (fun c23 => ?_)
    refine x_aload_n (q := 27) dX6_doerOf_26 rfl rfl ?_
    refine x_iload (q := 29) dX6_doerOf_27 rfl rfl ?_
    refine x_iload_n (q := 30) dX6_doerOf_29 rfl rfl ?_
    refine x_callV (q := 33) (ci := 6) (c_Pl_fd (t := t) (go := go) hp hA hW kA0 kW0 kgo hgol (show i < W by omega) hT0) eX6_doerOf_101 gX6_doerOf_X6_firstDoer tp0 (by omega) rfl rfl rfl (Nat.le_of_ble_eq_true rfl) ⟨Nat.le_refl _, Nat.le_refl _⟩ dX6_doerOf_30 rfl rfl (fun r30 M30 p30 => ?_)
    obtain ⟨rfl, ⟨h30, hV30⟩, fr30⟩ := p30
    have hU30 := hV30
    obtain ⟨y30_0, y30_1, y30_2, y30_3, y30_4, y30_5, y30_6, y30_7⟩ := hV30
    refine x_istore_n (L' := fun x3_33 => [(3, .int x3_33), (4, .int (nI i)), (2, .int goal), (0, .ref p), (1, .int (nI B))]) (q := 34) dX6_doerOf_33 rfl (by decide) (fun _ => rfl) (fun x3_33 ex3_33 => ?_)
    obtain rfl : x3_33 = oI (fdo t go A W i goal) := ex3_33
    refine x_iload_n (q := 35) dX6_doerOf_34 rfl rfl ?_
    refine x_iconst (v := -1) (q := 36) dX6_doerOf_35 rfl (by decide) ?_
    refine x_icmp_eq (t := 49) (q := 39) dX6_doerOf_36 (by decide) rfl (fun c36 => ?_) (fun c36 => ?_)
    · refine x_iinc (L' := fun x4_49 => [(4, .int x4_49), (3, .int (oI (fdo t go A W i goal))), (2, .int goal), (0, .ref p), (1, .int (nI B))]) (q := 52) dX6_doerOf_49 rfl rfl (by decide) (fun _ => rfl) (fun x4_49 ex4_49 => ?_)
      obtain rfl : x4_49 = nI (i + 1) := ex4_49.trans (nI_1 i)
      refine x_goto (q := 11) dX6_doerOf_52 (by decide) ?_
      have hfo : fdo t go A W i goal = none := (oI_m1 (fun d hd => by have := fdo_lt hd; omega)).mp c36
      rw [dpk, hfo] at hQ
      rw [hfo] at hU30
      rw [hfo]
      refine x_pick (L' := [(4, .int (nI (i + 1))), (3, .int (oI none)), (2, .int goal), (0, .ref p), (1, .int (nI B))]) [0, 1, 2, 3, 4] rfl ?_
      exact ih (i + 1) M30 t h30 none goal (by omega) hU30 ht (fun j hj => (fr30 j hj).trans (hf j hj)) hQ
    · obtain ⟨dd, hfo⟩ : ∃ dd, fdo t go A W i goal = some dd := by
        cases hq : fdo t go A W i goal with
        | none => exact absurd (by rw [hq]; rfl) c36
        | some d => exact ⟨d, rfl⟩
      rw [hfo] at hU30 y30_3
      rw [hfo, oI_some]
      refine x_iload_n (q := 40) dX6_doerOf_39 rfl rfl ?_
      refine x_aload_n (q := 41) dX6_doerOf_40 rfl rfl ?_
      refine x_getf (C := RX6) (T := TX6) (N := 10) (k := 5) (q := 44) y30_0 (by omega) rfl hiX6 (by decide) (by decide +kernel) rfl dX6_doerOf_41 rfl ?_
      refine x_iload (q := 46) dX6_doerOf_44 rfl rfl ?_
      refine x_iald (q := 47) y30_3 (by omega) (vp_in_nI (show i < 6 by omega) (by decide)) dX6_doerOf_46 rfl ?_
      refine x_isub (q := 48) dX6_doerOf_47 rfl ?_
      refine x_istore_n (L' := fun x2_48 => [(2, .int x2_48), (3, .int (nI dd)), (4, .int (nI i)), (0, .ref p), (1, .int (nI B))]) (q := 49) dX6_doerOf_48 rfl (by decide) (fun _ => rfl) (fun x2_48 ex2_48 => ?_)
      obtain rfl : x2_48 = goal - t 5 i := ex2_48.trans (by rw [nIc (show i < 6 by omega) (by decide)]; rfl)
      refine x_iinc (L' := fun x4_49 => [(4, .int x4_49), (2, .int (goal - t 5 i)), (3, .int (nI dd)), (0, .ref p), (1, .int (nI B))]) (q := 52) dX6_doerOf_49 rfl rfl (by decide) (fun _ => rfl) (fun x4_49 ex4_49 => ?_)
      obtain rfl : x4_49 = nI (i + 1) := ex4_49.trans (nI_1 i)
      refine x_goto (q := 11) dX6_doerOf_52 (by decide) ?_
      rw [dpk, hfo] at hQ
      refine x_pick (L' := [(4, .int (nI (i + 1))), (3, .int (oI (some dd))), (2, .int (goal - t 5 i)), (0, .ref p), (1, .int (nI B))]) [0, 2, 1, 3, 4] rfl ?_
      exact ih (i + 1) M30 (lftS t dd i) h30 (some dd) (goal - t 5 i) (by omega) hU30 (fun z h1 h2 => by unfold lftS; rw [if_neg h1]; exact ht z h1 h2) (fun j hj => (fr30 j hj).trans (hf j hj)) hQ

set_option maxHeartbeats 4000000 in
set_option maxRecDepth 100000 in
theorem c_Pl_do {n : Nat} {M : Nat → xE} {p B W A : Nat} {t : Nat → Nat → Int32} {go : Nat → Nat} (hp : p + 7 < n) (hA : A ≤ 5) (hW : W ≤ 6) (hA0 : t 1 0 = nI A) (hW0 : t 2 0 = nI W) (hgo : ∀ U, U < 2 ^ W → t 8 U = nI (go U)) (hgol : ∀ U, go U ≤ 1000) (hB : B < W) (hT : oX6 p t M) : xMet mX6_doerOf [.ref p, .int (nI B)] n M (fun r M' => some (.int (oI (doX t go A W B))) = r ∧ (∃ t', oX6 p t' M' ∧ ∀ z, z ≠ 3 → z ≠ 9 → t' z = t z) ∧ xfr p (p + 8) M M') := by
  have hT0 := hT
  obtain ⟨tp0, tp1, tp2, tp3, tp4, tp5, tp6, tp7⟩ := hT
  refine xMet.of _ (by decide) rfl (Nat.le_of_ble_eq_true rfl) ?_
  refine x_aload_n (q := 1) dX6_doerOf_0 rfl rfl ?_
  refine x_iconst (v := 0) (q := 2) dX6_doerOf_1 rfl (by decide) ?_
  refine x_callV (q := 5) (ci := 6) (c_Pl_from (go := go) (A := A) (W := W) (f := 0) hp hA hW (Nat.zero_le _) hA0 hW0 hgo hgol hT0) eX6_doerOf_98 gX6_doerOf_X6_mostFrom tp0 (by omega) rfl rfl rfl (Nat.le_of_ble_eq_true rfl) ⟨Nat.le_refl _, Nat.le_refl _⟩ dX6_doerOf_2 rfl rfl (fun r2 M2 p2 => ?_)
  obtain ⟨rfl, ⟨h2, hV2⟩, fr2⟩ := p2
  have hU2 := hV2
  obtain ⟨y2_0, y2_1, y2_2, y2_3, y2_4, y2_5, y2_6, y2_7⟩ := hV2
  refine x_istore_n (L' := fun x2_5 => [(2, .int x2_5), (0, .ref p), (1, .int (nI B))]) (q := 6) dX6_doerOf_5 rfl (by decide) (fun _ => rfl) (fun x2_5 ex2_5 => ?_)
  refine x_iconst (v := -1) (q := 7) dX6_doerOf_6 rfl (by decide) ?_
  refine x_istore_n (L' := fun x3_7 => [(3, .int x3_7), (2, .int x2_5), (0, .ref p), (1, .int (nI B))]) (q := 8) dX6_doerOf_7 rfl (by decide) (fun _ => rfl) (fun x3_7 ex3_7 => ?_)
  refine x_iconst (v := 0) (q := 9) dX6_doerOf_8 rfl (by decide) ?_
  refine x_istore (L' := fun x4_9 => [(4, .int x4_9), (3, .int x3_7), (2, .int x2_5), (0, .ref p), (1, .int (nI B))]) (q := 11) dX6_doerOf_9 rfl (by decide) (fun _ => rfl) (fun x4_9 ex4_9 => ?_)
  rw [ex2_5, ex3_7, ex4_9]
  refine x_pick (L' := [(4, .int 0), (3, .int (-1)), (2, .int (nI (plM t go A W 0))), (0, .ref p), (1, .int (nI B))]) [0, 1, 2, 3, 4] rfl ?_
  exact l_Pl_do (t0 := t) (M0 := M) hp hA hW hB hA0 hW0 hgo hgol (B + 1) 0 M2 t h2 none _ (by omega) hU2 (fun _ _ _ => rfl) fr2 (fun M t' h1 h2 h3 => ⟨rfl, ⟨t', h1, h2⟩, h3⟩)

def tL (t : Nat → Nat → Int32) (len : Int32) : Nat → Nat → Int32 := fun k => if k = 3 then (fun _ => len) else t k
set_option maxHeartbeats 4000000 in
set_option maxRecDepth 100000 in
theorem c_Pl_len {n : Nat} {M : Nat → xE} {p W A : Nat} {len : Int32} {t : Nat → Nat → Int32} {go : Nat → Nat} (hp : p + 7 < n) (hA : A ≤ 5) (hW : W ≤ 6) (hA0 : t 1 0 = nI A) (hW0 : t 2 0 = nI W) (hgo : ∀ U, U < 2 ^ W → t 8 U = nI (go U)) (hgol : ∀ U, go U ≤ 1000) (hT : oX6 p t M) : xMet mX6_mostWithLength [.ref p, .int len] n M (fun r M' => some (.int (nI (plM (tL t len) go A W 0))) = r ∧ (∃ t', oX6 p t' M' ∧ ∀ z, z ≠ 3 → z ≠ 9 → t' z = t z) ∧ xfr p (p + 8) M M') := by
  obtain ⟨tp0, tp1, tp2, tp3, tp4, tp5, tp6, tp7⟩ := hT
  have hiX6 : ∀ w ∈ wsX60, w ∈ wsX6_mostWithLength := by decide +kernel
  refine xMet.of _ (by decide) rfl (Nat.le_of_ble_eq_true rfl) ?_
  refine x_aload_n (q := 1) dX6_mostWithLength_0 rfl rfl ?_
  refine x_getf (C := RX6) (T := TX6) (N := 10) (k := 3) (q := 4) tp0 (by omega) rfl hiX6 (by decide) (by decide +kernel) rfl dX6_mostWithLength_1 rfl ?_
  refine x_iload_n (q := 5) dX6_mostWithLength_4 rfl rfl ?_
  refine x_callS (q := 8) (c_fillI (by omega) (by decide) tp1) eX6_mostWithLength_84 gX6_mostWithLength_J7_fill_53178 rfl (Nat.le_of_ble_eq_true rfl) ⟨Nat.le_refl _, Nat.le_refl _⟩ dX6_mostWithLength_5 rfl rfl (fun r5 M5 p5 => ?_)
  obtain ⟨rfl, w5, o5⟩ := p5
  refine x_aload_n (q := 9) dX6_mostWithLength_8 rfl rfl ?_
  refine x_iconst (v := 0) (q := 10) dX6_mostWithLength_9 rfl (by decide) ?_
  have hv1_1_p := ((o5 (p) (by omega)).trans tp0)
  have hv1_2_p2 := ((o5 (p + 2) (by omega)).trans tp2)
  have hv1_3_p3 := ((o5 (p + 3) (by omega)).trans tp3)
  have hv1_4_p4 := ((o5 (p + 4) (by omega)).trans tp4)
  have hv1_5_p5 := ((o5 (p + 5) (by omega)).trans tp5)
  have hv1_6_p6 := ((o5 (p + 6) (by omega)).trans tp6)
  have hv1_7_p7 := ((o5 (p + 7) (by omega)).trans tp7)
  have hV : oX6 p (tL t len) M5 := ⟨hv1_1_p, w5, hv1_2_p2, hv1_3_p3, hv1_4_p4, hv1_5_p5, hv1_6_p6, hv1_7_p7⟩
  refine x_callV (q := 13) (ci := 6) (c_Pl_from (t := tL t len) (go := go) (A := A) (W := W) (f := 0) hp hA hW (Nat.zero_le _) hA0 hW0 hgo hgol hV) eX6_mostWithLength_98 gX6_mostWithLength_X6_mostFrom hv1_1_p (by omega) rfl rfl rfl (Nat.le_of_ble_eq_true rfl) ⟨Nat.le_refl _, Nat.le_refl _⟩ dX6_mostWithLength_10 rfl rfl (fun r10 M10 p10 => ?_)
  obtain ⟨rfl, ⟨h10, hU10⟩, fr10⟩ := p10
  refine x_iret dX6_mostWithLength_13 rfl rfl (Nat.le_refl _) ?_
  exact ⟨rfl, ⟨_, hU10, fun z h1 h2 => by show (if z = 9 then h10 else tL t len z) = _; rw [if_neg h2]; unfold tL; rw [if_neg h1]⟩, fun j hj => (fr10 j hj).trans (o5 j (by omega))⟩

def bsr (m : Nat → Nat) (goal : Nat) : Nat → Nat → Nat → Nat
  | 0, _, hi => hi
  | k + 1, lo, hi => if lo < hi then (if m ((lo + hi) / 2) < goal then bsr m goal k ((lo + hi) / 2 + 1) hi else bsr m goal k lo ((lo + hi) / 2)) else hi
set_option maxHeartbeats 4000000 in
set_option maxRecDepth 100000 in
theorem l_Pl_short {n p W A goal : Nat} {t0 : Nat → Nat → Int32} {go : Nat → Nat} {Q : Option Value → (Nat → xE) → Prop} {M0 : Nat → xE} (hp : p + 7 < n) (hA : A ≤ 5) (hW : W ≤ 6) (hgl : goal ≤ 5000) (hA0 : t0 1 0 = nI A) (hW0 : t0 2 0 = nI W) (hgo : ∀ U, U < 2 ^ W → t0 8 U = nI (go U)) (hgol : ∀ U, go U ≤ 1000) : ∀ (k s lo hi : Nat) (M : Nat → xE) (t : Nat → Nat → Int32), hi ≤ lo + k → s + k ≤ 98 → hi ≤ 99 ∧ lo ≤ 99 → oX6 p t M → (∀ z, z ≠ 3 → z ≠ 9 → t z = t0 z) → xfr p (p + 8) M0 M → (∀ (M : Nat → xE) (t' : Nat → Nat → Int32), oX6 p t' M → (∀ z, z ≠ 3 → z ≠ 9 → t' z = t0 z) → xfr p (p + 8) M0 M → Q (some (.int (nI (bsr (fun len => plM (tL t0 (nI len)) go A W 0) goal k lo hi)))) M) → X mX6_shortestLength 0 0 15 [(4, .int (nI s)), (2, .int (nI lo)), (3, .int (nI hi)), (1, .int (nI goal)), (0, .ref p)] [] n M Q := by
  intro k
  induction k with
  | zero =>
    intro s lo hi M t hk hs hb hT ht hf hQ
    refine x_iload (q := 17) dX6_shortestLength_15 rfl rfl ?_
    refine x_bipush (v := 99) (q := 19) dX6_shortestLength_17 rfl (by decide) ?_
    refine x_icmp_ge (t := 61) (q := 22) dX6_shortestLength_19 (by decide) rfl (fun c19 => absurd c19 (nI_ge (a := s) (b := 99) (by omega) (by omega))) (fun c19 => ?_)
    refine x_iload_n (q := 23) dX6_shortestLength_22 rfl rfl ?_
    refine x_iload_n (q := 24) dX6_shortestLength_23 rfl rfl ?_
    refine x_icmp_ge (t := 61) (q := 27) dX6_shortestLength_24 (by decide) rfl (fun c24 => ?_) (fun c24 => absurd (nI_le (show hi ≤ lo by omega) (by omega)) c24)
    refine x_iload_n (q := 62) dX6_shortestLength_61 rfl rfl ?_
    refine x_iret dX6_shortestLength_62 rfl rfl (Nat.le_refl _) ?_
    exact hQ M t hT ht hf
  | succ k ih =>
    intro s lo hi M t hk hs hb hT ht hf hQ
    have e1 := ht 1 (by decide) (by decide)
    have e2 := ht 2 (by decide) (by decide)
    have e4 := ht 4 (by decide) (by decide)
    have e6 := ht 6 (by decide) (by decide)
    have e7 := ht 7 (by decide) (by decide)
    have e8 := ht 8 (by decide) (by decide)
    have kA0 : t 1 0 = nI A := by rw [e1]; exact hA0
    have kW0 : t 2 0 = nI W := by rw [e2]; exact hW0
    have kgo : ∀ U, U < 2 ^ W → t 8 U = nI (go U) := fun U hU => by rw [e8]; exact hgo U hU
    have hmid : (nI lo + nI hi) / 2 = nI ((lo + hi) / 2) := by rw [nI_add, show (2 : Int32) = nI 2 from rfl, pk_div (by omega) (by decide) (by decide)]
    have hml := plM_le (t := tL t0 (nI ((lo + hi) / 2))) (W := W) (f := 0) hgol hA
    refine x_iload (q := 17) dX6_shortestLength_15 rfl rfl ?_
    refine x_bipush (v := 99) (q := 19) dX6_shortestLength_17 rfl (by decide) ?_
    refine x_icmp_ge (t := 61) (q := 22) dX6_shortestLength_19 (by decide) rfl (fun c19 => absurd c19 (nI_ge (a := s) (b := 99) (by omega) (by omega))) (fun c19 => ?_)
    refine x_iload_n (q := 23) dX6_shortestLength_22 rfl rfl ?_
    refine x_iload_n (q := 24) dX6_shortestLength_23 rfl rfl ?_
    refine x_icmp_ge (t := 61) (q := 27) dX6_shortestLength_24 (by decide) rfl (fun c24 => ?_) (fun c24 => ?_)
    · refine x_iload_n (q := 62) dX6_shortestLength_61 rfl rfl ?_
      refine x_iret dX6_shortestLength_62 rfl rfl (Nat.le_refl _) ?_
      rw [bsr, if_neg (fun h => absurd c24 (nI_ge h (by omega)))] at hQ
      exact hQ M t hT ht hf
    · have hlt : lo < hi := Nat.lt_of_not_le (fun h => c24 (nI_le h (by omega)))
      refine x_iload_n (q := 28) dX6_shortestLength_27 rfl rfl ?_
      refine x_iload_n (q := 29) dX6_shortestLength_28 rfl rfl ?_
      refine x_iadd (q := 30) dX6_shortestLength_29 rfl ?_
      refine x_iconst (v := 2) (q := 31) dX6_shortestLength_30 rfl (by decide) ?_
      refine x_idiv (q := 32) dX6_shortestLength_31 rfl (by decide) ?_
      refine x_istore (L' := fun x5_32 => [(5, .int x5_32), (4, .int (nI s)), (2, .int (nI lo)), (3, .int (nI hi)), (1, .int (nI goal)), (0, .ref p)]) (q := 34) dX6_shortestLength_32 rfl (by decide) (fun _ => rfl) (fun x5_32 ex5_32 => ?_)
      obtain rfl : x5_32 = nI ((lo + hi) / 2) := ex5_32.trans hmid
      refine x_aload_n (q := 35) dX6_shortestLength_34 rfl rfl ?_
      refine x_iload (q := 37) dX6_shortestLength_35 rfl rfl ?_
      refine x_callV (q := 40) (ci := 6) (c_Pl_len (t := t) (len := nI ((lo + hi) / 2)) (go := go) hp hA hW kA0 kW0 kgo hgol hT) eX6_shortestLength_104 gX6_shortestLength_X6_mostWithLength hT.1 (by omega) rfl rfl rfl (Nat.le_of_ble_eq_true rfl) ⟨Nat.le_refl _, Nat.le_refl _⟩ dX6_shortestLength_37 rfl rfl (fun r37 M37 p37 => ?_)
      obtain ⟨rfl, ⟨t37, hU37, ht37⟩, fr37⟩ := p37
      rw [show plM (tL t (nI ((lo + hi) / 2))) go A W 0 = plM (tL t0 (nI ((lo + hi) / 2))) go A W 0 from plM_tb (fun a U => by unfold ftB tL; simp [e4, e6, e7]) (by unfold tL; simp)]
      refine x_iload_n (q := 41) dX6_shortestLength_40 rfl rfl ?_
      refine x_icmp_lt (t := 50) (q := 44) dX6_shortestLength_41 (by decide) rfl (fun c41 => ?_) (fun c41 => ?_)
      · refine x_iload (q := 52) dX6_shortestLength_50 rfl rfl ?_
        refine x_iconst (v := 1) (q := 53) dX6_shortestLength_52 rfl (by decide) ?_
        refine x_iadd (q := 54) dX6_shortestLength_53 rfl ?_
        refine x_istore_n (L' := fun x2_54 => [(2, .int x2_54), (5, .int (nI ((lo + hi) / 2))), (4, .int (nI s)), (3, .int (nI hi)), (1, .int (nI goal)), (0, .ref p)]) (q := 55) dX6_shortestLength_54 rfl (by decide) (fun _ => rfl) (fun x2_54 ex2_54 => ?_)
        obtain rfl : x2_54 = nI ((lo + hi) / 2 + 1) := ex2_54.trans (nI_1 _)
        refine x_iinc (L' := fun x4_55 => [(4, .int x4_55), (2, .int (nI ((lo + hi) / 2 + 1))), (5, .int (nI ((lo + hi) / 2))), (3, .int (nI hi)), (1, .int (nI goal)), (0, .ref p)]) (q := 58) dX6_shortestLength_55 rfl rfl (by decide) (fun _ => rfl) (fun x4_55 ex4_55 => ?_)
        obtain rfl : x4_55 = nI (s + 1) := ex4_55.trans (nI_1 _)
        refine x_goto (q := 15) dX6_shortestLength_58 (by decide) ?_
        rw [bsr, if_pos hlt, if_pos ((nI_ltI (by omega) (by omega)).mp c41)] at hQ
        refine x_pick (L' := [(4, .int (nI (s + 1))), (2, .int (nI ((lo + hi) / 2 + 1))), (3, .int (nI hi)), (1, .int (nI goal)), (0, .ref p)]) [0, 1, 3, 4, 5] rfl ?_
        exact ih (s + 1) ((lo + hi) / 2 + 1) hi M37 t37 (by omega) (by omega) (by omega) hU37 (fun z h1 h2 => (ht37 z h1 h2).trans (ht z h1 h2)) (fun j hj => (fr37 j hj).trans (hf j hj)) hQ
      · refine x_iload (q := 46) dX6_shortestLength_44 rfl rfl ?_
        refine x_istore_n (L' := fun x3_46 => [(3, .int x3_46), (5, .int (nI ((lo + hi) / 2))), (4, .int (nI s)), (2, .int (nI lo)), (1, .int (nI goal)), (0, .ref p)]) (q := 47) dX6_shortestLength_46 rfl (by decide) (fun _ => rfl) (fun x3_46 ex3_46 => ?_)
        obtain rfl : x3_46 = nI ((lo + hi) / 2) := ex3_46
        refine x_goto (q := 55) dX6_shortestLength_47 (by decide) ?_
        refine x_iinc (L' := fun x4_55 => [(4, .int x4_55), (3, .int (nI ((lo + hi) / 2))), (5, .int (nI ((lo + hi) / 2))), (2, .int (nI lo)), (1, .int (nI goal)), (0, .ref p)]) (q := 58) dX6_shortestLength_55 rfl rfl (by decide) (fun _ => rfl) (fun x4_55 ex4_55 => ?_)
        obtain rfl : x4_55 = nI (s + 1) := ex4_55.trans (nI_1 _)
        refine x_goto (q := 15) dX6_shortestLength_58 (by decide) ?_
        rw [bsr, if_pos hlt, if_neg (fun h => c41 ((nI_ltI (by omega) (by omega)).mpr h))] at hQ
        refine x_pick (L' := [(4, .int (nI (s + 1))), (2, .int (nI lo)), (3, .int (nI ((lo + hi) / 2))), (1, .int (nI goal)), (0, .ref p)]) [0, 3, 1, 4, 5] rfl ?_
        exact ih (s + 1) lo ((lo + hi) / 2) M37 t37 (by omega) (by omega) (by omega) hU37 (fun z h1 h2 => (ht37 z h1 h2).trans (ht z h1 h2)) (fun j hj => (fr37 j hj).trans (hf j hj)) hQ
def shX (t : Nat → Nat → Int32) (go : Nat → Nat) (A W : Nat) : Nat := bsr (fun len => plM (tL t (nI len)) go A W 0) (plM (tL t (nI 99)) go A W 0) 98 1 99
set_option maxHeartbeats 4000000 in
set_option maxRecDepth 100000 in
theorem c_Pl_short {n : Nat} {M : Nat → xE} {p W A : Nat} {t : Nat → Nat → Int32} {go : Nat → Nat} (hp : p + 7 < n) (hA : A ≤ 5) (hW : W ≤ 6) (hA0 : t 1 0 = nI A) (hW0 : t 2 0 = nI W) (hgo : ∀ U, U < 2 ^ W → t 8 U = nI (go U)) (hgol : ∀ U, go U ≤ 1000) (hT : oX6 p t M) : xMet mX6_shortestLength [.ref p] n M (fun r M' => some (.int (nI (shX t go A W))) = r ∧ (∃ t', oX6 p t' M' ∧ ∀ z, z ≠ 3 → z ≠ 9 → t' z = t z) ∧ xfr p (p + 8) M M') := by
  refine xMet.of _ (by decide) rfl (Nat.le_of_ble_eq_true rfl) ?_
  refine x_aload_n (q := 1) dX6_shortestLength_0 rfl rfl ?_
  refine x_bipush (v := 99) (q := 3) dX6_shortestLength_1 rfl (by decide) ?_
  refine x_callV (q := 6) (ci := 6) (c_Pl_len (len := 99) (go := go) hp hA hW hA0 hW0 hgo hgol hT) eX6_shortestLength_104 gX6_shortestLength_X6_mostWithLength hT.1 (by omega) rfl rfl rfl (Nat.le_of_ble_eq_true rfl) ⟨Nat.le_refl _, Nat.le_refl _⟩ dX6_shortestLength_3 rfl rfl (fun r3 M3 p3 => ?_)
  obtain ⟨rfl, ⟨t3, hU3, ht3⟩, fr3⟩ := p3
  refine x_istore_n (L' := fun x1_6 => [(1, .int x1_6), (0, .ref p)]) (q := 7) dX6_shortestLength_6 rfl (by decide) (fun _ => rfl) (fun x1_6 ex1_6 => ?_)
  refine x_iconst (v := 1) (q := 8) dX6_shortestLength_7 rfl (by decide) ?_
  refine x_istore_n (L' := fun x2_8 => [(2, .int x2_8), (1, .int x1_6), (0, .ref p)]) (q := 9) dX6_shortestLength_8 rfl (by decide) (fun _ => rfl) (fun x2_8 ex2_8 => ?_)
  refine x_bipush (v := 99) (q := 11) dX6_shortestLength_9 rfl (by decide) ?_
  refine x_istore_n (L' := fun x3_11 => [(3, .int x3_11), (2, .int x2_8), (1, .int x1_6), (0, .ref p)]) (q := 12) dX6_shortestLength_11 rfl (by decide) (fun _ => rfl) (fun x3_11 ex3_11 => ?_)
  refine x_iconst (v := 0) (q := 13) dX6_shortestLength_12 rfl (by decide) ?_
  refine x_istore (L' := fun x4_13 => [(4, .int x4_13), (3, .int x3_11), (2, .int x2_8), (1, .int x1_6), (0, .ref p)]) (q := 15) dX6_shortestLength_13 rfl (by decide) (fun _ => rfl) (fun x4_13 ex4_13 => ?_)
  subst ex1_6
  subst ex2_8
  subst ex3_11
  subst ex4_13
  refine x_pick (L' := [(4, .int 0), (2, .int 1), (3, .int 99), (1, .int (nI (plM (tL t (nI 99)) go A W 0))), (0, .ref p)]) [0, 2, 1, 3, 4] rfl ?_
  exact l_Pl_short (t0 := t) (M0 := M) hp hA hW (plM_le hgol hA) hA0 hW0 hgo hgol 98 0 1 99 M3 t3 (by omega) (by omega) (by omega) hU3 ht3 fr3 (fun M t' h1 h2 h3 => ⟨rfl, ⟨t', h1, h2⟩, h3⟩)
