def kPairs (τ δ : Nat → Nat → Int32) (P : Nat) (a : Int32) : Int32 := if inB a 3 = true then (if a = 0 then nI (coM τ δ P) else if a = 1 then fpA (coP τ δ P) else fpB (coP τ δ P)) else -3
set_option maxHeartbeats 4000000 in
set_option maxRecDepth 100000 in
theorem c_pairs {n : Nat} {M : Nat → xE} {kb : Int32} (hn : 98 < n) (hX : oX10 kb M) {τ : Nat → Nat → Int32} (hT : oX8 1 τ M) {δ : Nat → Nat → Int32} (hD : oX3 25 δ M) {P : Nat} (hP : P ≤ 5) (hP0 : τ 0 0 = nI P) (hCo : oCo M) {a : Int32} : xMet mX10_pairs [.ref 0, .int a] n M (fun r M' => some (.int (kPairs τ δ P a)) = r ∧ oCo M' ∧ xfr 90 93 M M') := by
  have hCo0 := hCo
  obtain ⟨to, hLo, hz⟩ := hCo
  have hT0 := hT
  have hD0 := hD
  obtain ⟨tp0, tp1, tp2, tp3, tp4, tp5, tp6, tp7, tp8, tp9, tp10⟩ := hT
  obtain ⟨dp0, dp1, dp2, dp3⟩ := hD
  have hiX10 : ∀ w ∈ wsX100, w ∈ wsX10_pairs := by decide +kernel
  have hiX2 : ∀ w ∈ wsX20, w ∈ wsX10_pairs := by decide +kernel
  refine xMet.of _ (by decide) rfl (Nat.le_of_ble_eq_true rfl) ?_
  refine x_iload_n (q := 1) dX10_pairs_0 rfl rfl ?_
  refine x_iconst (v := 0) (q := 2) dX10_pairs_1 rfl (by decide) ?_
  refine x_iconst (v := 2) (q := 3) dX10_pairs_2 rfl (by decide) ?_
  refine x_callS (q := 6) c_isOutside eX10_pairs_94 gX10_pairs_X10_isOutside rfl (Nat.le_of_ble_eq_true rfl) ⟨Nat.le_refl _, Nat.le_refl _⟩ dX10_pairs_3 rfl rfl (fun r3 M3 p3 => ?_)
  obtain ⟨rfl, p3⟩ := p3
  rcases p3 with ⟨b3, rfl⟩ | ⟨b3, rfl⟩
  · refine x_if_eq (t := 12) (q := 9) dX10_pairs_6 (by decide) rfl (fun c6 => absurd c6 (by decide)) (fun c6 => ?_)
    refine x_bipush (v := -3) (q := 11) dX10_pairs_9 rfl (by decide) ?_
    refine x_iret dX10_pairs_11 rfl rfl (Nat.le_refl _) ?_
    refine ⟨?_, hCo0, fun j hj => rfl⟩
    unfold kPairs
    rw [if_neg (show ¬ inB a 3 = true by rw [outB (k := 2) (by decide) b3]; decide)]
  · refine x_if_eq (t := 12) (q := 9) dX10_pairs_6 (by decide) rfl (fun c6 => ?_) (fun c6 => absurd c6 (by decide))
    refine x_aload_n (q := 13) dX10_pairs_12 rfl rfl ?_
    refine x_getf (C := RX10) (T := TX10) (N := 12) (k := 8) (q := 16) hX (by omega) rfl hiX10 (by decide) (by decide +kernel) rfl dX10_pairs_13 rfl ?_
    refine x_aload_n (q := 17) dX10_pairs_16 rfl rfl ?_
    refine x_getf (C := RX10) (T := TX10) (N := 12) (k := 0) (q := 20) hX (by omega) rfl hiX10 (by decide) (by decide +kernel) rfl dX10_pairs_17 rfl ?_
    refine x_aload_n (q := 21) dX10_pairs_20 rfl rfl ?_
    refine x_getf (C := RX10) (T := TX10) (N := 12) (k := 2) (q := 24) hX (by omega) rfl hiX10 (by decide) (by decide +kernel) rfl dX10_pairs_21 rfl ?_
    refine x_callV (q := 27) (ci := 2) (c_Co_take (p := 90) (q := 1) (d := 25) (by omega) (by omega) (by omega) (by omega) (by omega) hP hP0 hz hLo hT0 hD0) eX10_pairs_287 gX10_pairs_X2_takeUp hLo.1 (by omega) rfl rfl rfl (Nat.le_of_ble_eq_true rfl) ⟨Nat.le_refl _, Nat.le_refl _⟩ dX10_pairs_24 rfl rfl (fun r24 M24 p24 => ?_)
    obtain ⟨rfl, ⟨t9, hU24, z0, z1, z2, z3⟩, fr24⟩ := p24
    refine x_iload_n (q := 28) dX10_pairs_27 rfl rfl ?_
    refine x_if_ne (t := 39) (q := 31) dX10_pairs_28 (by decide) rfl (fun c28 => ?_) (fun c28 => ?_)
    · refine x_iload_n (q := 40) dX10_pairs_39 rfl rfl ?_
      refine x_iconst (v := 1) (q := 41) dX10_pairs_40 rfl (by decide) ?_
      refine x_icmp_ne (t := 54) (q := 44) dX10_pairs_41 (by decide) rfl (fun c41 => ?_) (fun c41 => ?_)
      · refine x_aload_n (q := 55) dX10_pairs_54 rfl rfl ?_
        have hv1_1_0 := ((fr24 (0) (by omega)).trans hX)
        refine x_getf (C := RX10) (T := TX10) (N := 12) (k := 8) (q := 58) hv1_1_0 (by omega) rfl hiX10 (by decide) (by decide +kernel) rfl dX10_pairs_55 rfl ?_
        refine x_getf (C := RX2) (T := TX2) (N := 5) (k := 2) (q := 61) hU24.1 (by omega) rfl hiX2 (by decide) (by decide +kernel) rfl dX10_pairs_58 rfl ?_
        refine x_iret dX10_pairs_61 rfl rfl (Nat.le_refl _) ?_
        refine ⟨?_, ⟨t9, hU24, z0⟩, fr24⟩
        unfold kPairs
        rw [if_pos (outT (k := 2) (by decide) b3), if_neg c28]
        first
          | rw [if_pos c41, z2]
          | rw [if_neg c41, z3]
      · refine x_aload_n (q := 45) dX10_pairs_44 rfl rfl ?_
        have hv1_1_0 := ((fr24 (0) (by omega)).trans hX)
        refine x_getf (C := RX10) (T := TX10) (N := 12) (k := 8) (q := 48) hv1_1_0 (by omega) rfl hiX10 (by decide) (by decide +kernel) rfl dX10_pairs_45 rfl ?_
        refine x_getf (C := RX2) (T := TX2) (N := 5) (k := 1) (q := 51) hU24.1 (by omega) rfl hiX2 (by decide) (by decide +kernel) rfl dX10_pairs_48 rfl ?_
        refine x_goto (q := 61) dX10_pairs_51 (by decide) ?_
        refine x_iret dX10_pairs_61 rfl rfl (Nat.le_refl _) ?_
        refine ⟨?_, ⟨t9, hU24, z0⟩, fr24⟩
        unfold kPairs
        rw [if_pos (outT (k := 2) (by decide) b3), if_neg c28]
        first
          | rw [if_pos c41, z2]
          | rw [if_neg c41, z3]
    · refine x_aload_n (q := 32) dX10_pairs_31 rfl rfl ?_
      have hv1_1_0 := ((fr24 (0) (by omega)).trans hX)
      refine x_getf (C := RX10) (T := TX10) (N := 12) (k := 8) (q := 35) hv1_1_0 (by omega) rfl hiX10 (by decide) (by decide +kernel) rfl dX10_pairs_32 rfl ?_
      refine x_getf (C := RX2) (T := TX2) (N := 5) (k := 0) (q := 38) hU24.1 (by omega) rfl hiX2 (by decide) (by decide +kernel) rfl dX10_pairs_35 rfl ?_
      refine x_iret dX10_pairs_38 rfl rfl (Nat.le_refl _) ?_
      refine ⟨?_, ⟨t9, hU24, z0⟩, fr24⟩
      unfold kPairs
      rw [if_pos (outT (k := 2) (by decide) b3), if_pos c28, z1]

def kBallot (m P : Nat) : Bool := decide (m / 10 ^ P = 0) && decide (sC m P = 2 ^ P - 1)
def baPut (m P B : Nat) (s : Nat → Int32) : Nat → Int32 := fun j => if 5 * B ≤ j ∧ j < 5 * B + P then nI (dg m (P - 1 - (j - 5 * B))) else s j
theorem baPut_eq {m P B : Nat} {s h : Nat → Int32} : va_cpy (rowF m P P h) s 0 (5 * B) P = baPut m P B s := by
  funext j
  unfold va_cpy baPut
  by_cases e : 5 * B ≤ j ∧ j < 5 * B + P
  · rw [if_pos e, if_pos e, Nat.zero_add]
    unfold rowF
    rw [if_pos (by omega)]
  · rw [if_neg e, if_neg e]
set_option maxHeartbeats 4000000 in
set_option maxRecDepth 100000 in
theorem c_ballot {n : Nat} {M : Nat → xE} {kb : Int32} (hn : 98 < n) (hX : oX10 kb M) {τ : Nat → Nat → Int32} (hT : oX8 1 τ M) {P : Nat} (hP : P ≤ 5) (hP0 : τ 0 0 = nI P) {B : Nat} {s : Nat → Int32} (hB : B ≤ 9) (hBa : oBa B s M) {a : Int32} : xMet mX10_ballot [.ref 0, .int a] n M (fun r M' => (a < 0 ∧ M = M' ∧ some (.int (-3)) = r) ∨ ∃ m : Nat, m < 2 ^ 31 ∧ a = nI m ∧ xfr 95 99 M M' ∧ (if kBallot m P = true then (if P = 0 then (some (.int (-4)) = r ∧ oBa B s M') else (if B < 9 then (some (.int (nI (B + 1))) = r ∧ oBa (B + 1) (baPut m P B s) M') else (some (.int (-5)) = r ∧ oBa B s M'))) else (some (.int (-3)) = r ∧ oBa B s M'))) := by
  have hBa0 := hBa
  obtain ⟨tb, hLb, hb0, hb1⟩ := hBa
  have hLb0 := hLb
  obtain ⟨bp0, bp1, bp2, bp3⟩ := hLb
  rw [hb0] at bp0
  have hT0 := hT
  obtain ⟨tp0, tp1, tp2, tp3, tp4, tp5, tp6, tp7, tp8, tp9, tp10⟩ := hT
  rw [hP0] at tp0
  have hiX0 : ∀ w ∈ wsX00, w ∈ wsX10_ballot := by decide +kernel
  have hiX10 : ∀ w ∈ wsX100, w ∈ wsX10_ballot := by decide +kernel
  have hiX8 : ∀ w ∈ wsX80, w ∈ wsX10_ballot := by decide +kernel
  refine xMet.of _ (by decide) rfl (Nat.le_of_ble_eq_true rfl) ?_
  refine x_aload_n (q := 1) dX10_ballot_0 rfl rfl ?_
  refine x_getf (C := RX10) (T := TX10) (N := 12) (k := 10) (q := 4) hX (by omega) rfl hiX10 (by decide) (by decide +kernel) rfl dX10_ballot_1 rfl ?_
  refine x_iload_n (q := 5) dX10_ballot_4 rfl rfl ?_
  refine x_aload_n (q := 6) dX10_ballot_5 rfl rfl ?_
  refine x_getf (C := RX10) (T := TX10) (N := 12) (k := 0) (q := 9) hX (by omega) rfl hiX10 (by decide) (by decide +kernel) rfl dX10_ballot_6 rfl ?_
  refine x_getf (C := RX8) (T := TX8) (N := 15) (k := 0) (q := 12) tp0 (by omega) rfl hiX8 (by decide) (by decide +kernel) rfl dX10_ballot_9 rfl ?_
  refine x_callV (q := 15) (ci := 0) (c_Bal_row (p := 95) (by omega) hLb0 hP) eX10_ballot_300 gX10_ballot_X0_isRowOfAll bp0 (by omega) rfl rfl rfl (Nat.le_of_ble_eq_true rfl) ⟨Nat.le_refl _, Nat.le_refl _⟩ dX10_ballot_12 rfl rfl (fun r12 M12 p12 => ?_)
  rcases p12 with ⟨hneg, rfl, rfl⟩ | ⟨m, hm, rfl, hU12, fr12, p12⟩
  · refine x_if_ne (t := 21) (q := 18) dX10_ballot_15 (by decide) rfl (fun c15 => absurd c15 (by decide)) (fun c15 => ?_)
    refine x_bipush (v := -3) (q := 20) dX10_ballot_18 rfl (by decide) ?_
    refine x_iret dX10_ballot_20 rfl rfl (Nat.le_refl _) ?_
    exact Or.inl ⟨hneg, rfl, rfl⟩
  · have hcell : M12 95 = .inr (0, [.int (nI B), .ref (95 + 1), .ref (95 + 2), .ref (95 + 3)]) := by rw [hU12.1, ← hb0]; rfl
    rcases p12 with ⟨b12, rfl⟩ | ⟨b12, rfl⟩
    · refine x_if_ne (t := 21) (q := 18) dX10_ballot_15 (by decide) rfl (fun c15 => ?_) (fun c15 => absurd c15 (by decide))
      refine x_aload_n (q := 22) dX10_ballot_21 rfl rfl ?_
      have hv1_1_0 := ((fr12 (0) (by omega)).trans hX)
      refine x_getf (C := RX10) (T := TX10) (N := 12) (k := 0) (q := 25) hv1_1_0 (by omega) rfl hiX10 (by decide) (by decide +kernel) rfl dX10_ballot_22 rfl ?_
      have hv1_2_1 := ((fr12 (1) (by omega)).trans tp0)
      refine x_getf (C := RX8) (T := TX8) (N := 15) (k := 0) (q := 28) hv1_2_1 (by omega) rfl hiX8 (by decide) (by decide +kernel) rfl dX10_ballot_25 rfl ?_
      refine x_if_ne (t := 34) (q := 31) dX10_ballot_28 (by decide) rfl (fun c28 => ?_) (fun c28 => ?_)
      · refine x_aload_n (q := 35) dX10_ballot_34 rfl rfl ?_
        refine x_getf (C := RX10) (T := TX10) (N := 12) (k := 10) (q := 38) hv1_1_0 (by omega) rfl hiX10 (by decide) (by decide +kernel) rfl dX10_ballot_35 rfl ?_
        refine x_aload_n (q := 39) dX10_ballot_38 rfl rfl ?_
        refine x_getf (C := RX10) (T := TX10) (N := 12) (k := 0) (q := 42) hv1_1_0 (by omega) rfl hiX10 (by decide) (by decide +kernel) rfl dX10_ballot_39 rfl ?_
        refine x_getf (C := RX8) (T := TX8) (N := 15) (k := 0) (q := 45) hv1_2_1 (by omega) rfl hiX8 (by decide) (by decide +kernel) rfl dX10_ballot_42 rfl ?_
        refine x_callV (q := 48) (ci := 0) (c_Bal_add (p := 95) (t := fun k => if k = 2 then rowF m P P (tb 2) else tb k) (B := B) (by omega) hU12 hP hB hb0) eX10_ballot_303 gX10_ballot_X0_add hcell (by omega) rfl rfl rfl (Nat.le_of_ble_eq_true rfl) ⟨Nat.le_refl _, Nat.le_refl _⟩ dX10_ballot_45 rfl rfl (fun r45 M45 p45 => ?_)
        rcases p45 with ⟨d45, rfl, hU45, fr45⟩ | ⟨d45, rfl, rfl⟩
        · refine x_if_eq (t := 61) (q := 51) dX10_ballot_48 (by decide) rfl (fun c48 => absurd c48 (by decide)) (fun c48 => ?_)
          refine x_aload_n (q := 52) dX10_ballot_51 rfl rfl ?_
          have hv2_3_0 := ((fr45 (0) (by omega)).trans hv1_1_0)
          refine x_getf (C := RX10) (T := TX10) (N := 12) (k := 10) (q := 55) hv2_3_0 (by omega) rfl hiX10 (by decide) (by decide +kernel) rfl dX10_ballot_52 rfl ?_
          refine x_getf (C := RX0) (T := TX0) (N := 4) (k := 0) (q := 58) hU45.1 (by omega) rfl hiX0 (by decide) (by decide +kernel) rfl dX10_ballot_55 rfl ?_
          refine x_goto (q := 63) dX10_ballot_58 (by decide) ?_
          refine x_iret dX10_ballot_63 rfl rfl (Nat.le_refl _) ?_
          refine Or.inr ⟨m, hm, rfl, fun j hj => (fr45 j hj).trans (fr12 j hj), ?_⟩
          rw [if_pos (show kBallot m P = true by unfold kBallot; rw [Bool.and_eq_true, decide_eq_true_iff, decide_eq_true_iff]; exact b12), if_neg (fun h => c28 (by rw [h]; rfl)), if_pos d45]
          exact ⟨rfl, ⟨_, hU45, rfl, by rw [← baPut_eq (h := tb 2), ← hb1]; rfl⟩⟩
        · refine x_if_eq (t := 61) (q := 51) dX10_ballot_48 (by decide) rfl (fun c48 => ?_) (fun c48 => absurd c48 (by decide))
          refine x_bipush (v := -5) (q := 63) dX10_ballot_61 rfl (by decide) ?_
          refine x_iret dX10_ballot_63 rfl rfl (Nat.le_refl _) ?_
          refine Or.inr ⟨m, hm, rfl, fr12, ?_⟩
          rw [if_pos (show kBallot m P = true by unfold kBallot; rw [Bool.and_eq_true, decide_eq_true_iff, decide_eq_true_iff]; exact b12), if_neg (fun h => c28 (by rw [h]; rfl)), if_neg (by omega)]
          exact ⟨rfl, ⟨_, hU12, hb0, hb1⟩⟩
      · refine x_bipush (v := -4) (q := 33) dX10_ballot_31 rfl (by decide) ?_
        refine x_iret dX10_ballot_33 rfl rfl (Nat.le_refl _) ?_
        refine Or.inr ⟨m, hm, rfl, fr12, ?_⟩
        rw [if_pos (show kBallot m P = true by unfold kBallot; rw [Bool.and_eq_true, decide_eq_true_iff, decide_eq_true_iff]; exact b12), if_pos ((nI_eq (by omega) (by decide)).mp (show nI P = nI 0 from c28))]
        exact ⟨rfl, ⟨_, hU12, hb0, hb1⟩⟩
    · refine x_if_ne (t := 21) (q := 18) dX10_ballot_15 (by decide) rfl (fun c15 => absurd c15 (by decide)) (fun c15 => ?_)
      refine x_bipush (v := -3) (q := 20) dX10_ballot_18 rfl (by decide) ?_
      refine x_iret dX10_ballot_20 rfl rfl (Nat.le_refl _) ?_
      refine Or.inr ⟨m, hm, rfl, fr12, ?_⟩
      rw [if_neg (fun h => b12 (by unfold kBallot at h; rw [Bool.and_eq_true, decide_eq_true_iff, decide_eq_true_iff] at h; exact h))]
      exact ⟨rfl, ⟨_, hU12, hb0, hb1⟩⟩

def kMayor (s : Nat → Int32) (B P : Nat) (a : Int32) : Int32 := if inB a 2 = true then (if B = 0 then -1 else if a = 0 then nI (lom (vC s B) P) else nI (lom (fun j => pts s (nI j) P B) P)) else -3
def kPoints (s : Nat → Int32) (B P : Nat) (a : Int32) : Int32 := if inB a P = true then pts s a P B else -2
def kSwing (s : Nat → Int32) (B P : Nat) : Int32 := if B = 0 then 0 else bset (bsw s B P) B
set_option maxHeartbeats 4000000 in
set_option maxRecDepth 100000 in
theorem c_mayor {n : Nat} {M : Nat → xE} {kb : Int32} (hn : 98 < n) (hX : oX10 kb M) {τ : Nat → Nat → Int32} (hT : oX8 1 τ M) {P : Nat} (hP : P ≤ 5) (hP0 : τ 0 0 = nI P) {B : Nat} {s : Nat → Int32} (hB : B ≤ 9) (hBa : oBa B s M) (hs : ∀ b, b < B → ∀ j, j < P → vp_in (s (5 * b + j)) 5) (hPB : B = 0 ∨ 0 < P) {a : Int32} : xMet mX10_mayor [.ref 0, .int a] n M (fun r M' => some (.int (kMayor s B P a)) = r ∧ oBa B s M' ∧ xfr 95 99 M M') := by
  have hBa0 := hBa
  obtain ⟨tb, hLb, hb0, hb1⟩ := hBa
  have hLb0 := hLb
  obtain ⟨bp0, bp1, bp2, bp3⟩ := hLb
  rw [hb0] at bp0
  subst hb1
  have hT0 := hT
  obtain ⟨tp0, tp1, tp2, tp3, tp4, tp5, tp6, tp7, tp8, tp9, tp10⟩ := hT
  rw [hP0] at tp0
  have hiX0 : ∀ w ∈ wsX00, w ∈ wsX10_mayor := by decide +kernel
  have hiX10 : ∀ w ∈ wsX100, w ∈ wsX10_mayor := by decide +kernel
  have hiX8 : ∀ w ∈ wsX80, w ∈ wsX10_mayor := by decide +kernel
  refine xMet.of _ (by decide) rfl (Nat.le_of_ble_eq_true rfl) ?_
  refine x_iload_n (q := 1) dX10_mayor_0 rfl rfl ?_
  refine x_iconst (v := 0) (q := 2) dX10_mayor_1 rfl (by decide) ?_
  refine x_iconst (v := 1) (q := 3) dX10_mayor_2 rfl (by decide) ?_
  refine x_callS (q := 6) c_isOutside eX10_mayor_94 gX10_mayor_X10_isOutside rfl (Nat.le_of_ble_eq_true rfl) ⟨Nat.le_refl _, Nat.le_refl _⟩ dX10_mayor_3 rfl rfl (fun r3 M3 p3 => ?_)
  obtain ⟨rfl, p3⟩ := p3
  rcases p3 with ⟨b3, rfl⟩ | ⟨b3, rfl⟩
  · refine x_if_eq (t := 12) (q := 9) dX10_mayor_6 (by decide) rfl (fun c6 => absurd c6 (by decide)) (fun c6 => ?_)
    refine x_bipush (v := -3) (q := 11) dX10_mayor_9 rfl (by decide) ?_
    refine x_iret dX10_mayor_11 rfl rfl (Nat.le_refl _) ?_
    refine ⟨?_, hBa0, fun j hj => rfl⟩
    unfold kMayor
    rw [if_neg (show ¬ inB a 2 = true by rw [outB (k := 1) (by decide) b3]; decide)]
  · refine x_if_eq (t := 12) (q := 9) dX10_mayor_6 (by decide) rfl (fun c6 => ?_) (fun c6 => absurd c6 (by decide))
    refine x_aload_n (q := 13) dX10_mayor_12 rfl rfl ?_
    refine x_getf (C := RX10) (T := TX10) (N := 12) (k := 10) (q := 16) hX (by omega) rfl hiX10 (by decide) (by decide +kernel) rfl dX10_mayor_13 rfl ?_
    refine x_getf (C := RX0) (T := TX0) (N := 4) (k := 0) (q := 19) bp0 (by omega) rfl hiX0 (by decide) (by decide +kernel) rfl dX10_mayor_16 rfl ?_
    refine x_if_ne (t := 24) (q := 22) dX10_mayor_19 (by decide) rfl (fun c19 => ?_) (fun c19 => ?_)
    · refine x_iload_n (q := 25) dX10_mayor_24 rfl rfl ?_
      refine x_if_ne (t := 45) (q := 28) dX10_mayor_25 (by decide) rfl (fun c25 => ?_) (fun c25 => ?_)
      · refine x_aload_n (q := 46) dX10_mayor_45 rfl rfl ?_
        refine x_getf (C := RX10) (T := TX10) (N := 12) (k := 10) (q := 49) hX (by omega) rfl hiX10 (by decide) (by decide +kernel) rfl dX10_mayor_46 rfl ?_
        refine x_aload_n (q := 50) dX10_mayor_49 rfl rfl ?_
        refine x_getf (C := RX10) (T := TX10) (N := 12) (k := 0) (q := 53) hX (by omega) rfl hiX10 (by decide) (by decide +kernel) rfl dX10_mayor_50 rfl ?_
        refine x_getf (C := RX8) (T := TX8) (N := 15) (k := 0) (q := 56) tp0 (by omega) rfl hiX8 (by decide) (by decide +kernel) rfl dX10_mayor_53 rfl ?_
        have hB0 : ¬ B = 0 := fun h => c19 (by rw [h]; rfl)
        refine x_callV (q := 59) (ci := 0) (c_Bal_mayor1 (p := 95) (by omega) hLb0 hP hB hb0) eX10_mayor_307 gX10_mayor_X0_mayorByPoints bp0 (by omega) rfl rfl rfl (Nat.le_of_ble_eq_true rfl) ⟨Nat.le_refl _, Nat.le_refl _⟩ dX10_mayor_56 rfl rfl (fun r56 M56 p56 => ?_)
        obtain ⟨rfl, hU56, fr56⟩ := p56
        refine x_iret dX10_mayor_59 rfl rfl (Nat.le_refl _) ?_
        refine ⟨?_, ⟨_, hU56, hb0, rfl⟩, fr56⟩
        unfold kMayor
        rw [if_pos (outT (k := 1) (by decide) b3), if_neg hB0]
        first
          | rw [if_pos c25]
          | rw [if_neg c25]
      · refine x_aload_n (q := 29) dX10_mayor_28 rfl rfl ?_
        refine x_getf (C := RX10) (T := TX10) (N := 12) (k := 10) (q := 32) hX (by omega) rfl hiX10 (by decide) (by decide +kernel) rfl dX10_mayor_29 rfl ?_
        refine x_aload_n (q := 33) dX10_mayor_32 rfl rfl ?_
        refine x_getf (C := RX10) (T := TX10) (N := 12) (k := 0) (q := 36) hX (by omega) rfl hiX10 (by decide) (by decide +kernel) rfl dX10_mayor_33 rfl ?_
        refine x_getf (C := RX8) (T := TX8) (N := 15) (k := 0) (q := 39) tp0 (by omega) rfl hiX8 (by decide) (by decide +kernel) rfl dX10_mayor_36 rfl ?_
        have hB0 : ¬ B = 0 := fun h => c19 (by rw [h]; rfl)
        refine x_callV (q := 42) (ci := 0) (c_Bal_mayor0 (p := 95) (by omega) hLb0 hP hB hb0 (fun b hb => hs b hb 0 (by omega))) eX10_mayor_304 gX10_mayor_X0_mayorByFirsts bp0 (by omega) rfl rfl rfl (Nat.le_of_ble_eq_true rfl) ⟨Nat.le_refl _, Nat.le_refl _⟩ dX10_mayor_39 rfl rfl (fun r39 M39 p39 => ?_)
        obtain ⟨rfl, hU39, fr39⟩ := p39
        refine x_goto (q := 59) dX10_mayor_42 (by decide) ?_
        refine x_iret dX10_mayor_59 rfl rfl (Nat.le_refl _) ?_
        refine ⟨?_, ⟨_, hU39, hb0, rfl⟩, fr39⟩
        unfold kMayor
        rw [if_pos (outT (k := 1) (by decide) b3), if_neg hB0]
        first
          | rw [if_pos c25]
          | rw [if_neg c25]
    · refine x_iconst (v := -1) (q := 23) dX10_mayor_22 rfl (by decide) ?_
      refine x_iret dX10_mayor_23 rfl rfl (Nat.le_refl _) ?_
      refine ⟨?_, hBa0, fun j hj => rfl⟩
      unfold kMayor
      rw [if_pos (outT (k := 1) (by decide) b3), if_pos ((nI_eq (by omega) (by decide)).mp (show nI B = nI 0 from c19))]

set_option maxHeartbeats 4000000 in
set_option maxRecDepth 100000 in
theorem c_points {n : Nat} {M : Nat → xE} {kb : Int32} (hn : 98 < n) (hX : oX10 kb M) {τ : Nat → Nat → Int32} (hT : oX8 1 τ M) {P : Nat} (hP : P ≤ 5) (hP0 : τ 0 0 = nI P) {B : Nat} {s : Nat → Int32} (hB : B ≤ 9) (hBa : oBa B s M) {a : Int32} : xMet mX10_points [.ref 0, .int a] n M (fun r M' => some (.int (kPoints s B P a)) = r ∧ oBa B s M' ∧ xfr 95 99 M M') := by
  have hBa0 := hBa
  obtain ⟨tb, hLb, hb0, hb1⟩ := hBa
  have hLb0 := hLb
  obtain ⟨bp0, bp1, bp2, bp3⟩ := hLb
  rw [hb0] at bp0
  subst hb1
  have hT1 := hT
  have hT0 := hT
  obtain ⟨tp0, tp1, tp2, tp3, tp4, tp5, tp6, tp7, tp8, tp9, tp10⟩ := hT
  rw [hP0] at tp0
  have hiX10 : ∀ w ∈ wsX100, w ∈ wsX10_points := by decide +kernel
  have hiX8 : ∀ w ∈ wsX80, w ∈ wsX10_points := by decide +kernel
  refine xMet.of _ (by decide) rfl (Nat.le_of_ble_eq_true rfl) ?_
  refine x_aload_n (q := 1) dX10_points_0 rfl rfl ?_
  refine x_iload_n (q := 2) dX10_points_1 rfl rfl ?_
  refine x_callV (q := 5) (ci := 10) (c_noOne hn hX hT1 hP hP0) eX10_points_125 gX10_points_X10_isNoOne hX (by omega) rfl rfl rfl (Nat.le_of_ble_eq_true rfl) ⟨Nat.le_refl _, Nat.le_refl _⟩ dX10_points_2 rfl rfl (fun r2 M2 p2 => ?_)
  obtain ⟨rfl, p2⟩ := p2
  rcases p2 with ⟨b2, rfl⟩ | ⟨b2, rfl⟩
  · refine x_if_eq (t := 13) (q := 8) dX10_points_5 (by decide) rfl (fun c5 => absurd c5 (by decide)) (fun c5 => ?_)
    refine x_bipush (v := -2) (q := 10) dX10_points_8 rfl (by decide) ?_
    refine x_goto (q := 28) dX10_points_10 (by decide) ?_
    refine x_iret dX10_points_28 rfl rfl (Nat.le_refl _) ?_
    refine ⟨?_, hBa0, fun j hj => rfl⟩
    unfold kPoints
    rw [if_neg (show ¬ inB a P = true by rw [b2]; decide)]
  · have v2 := inV b2
    have va : vp_in a 5 := by rw [vp_in_iff] at v2 ⊢; omega
    refine x_if_eq (t := 13) (q := 8) dX10_points_5 (by decide) rfl (fun c5 => ?_) (fun c5 => absurd c5 (by decide))
    refine x_aload_n (q := 14) dX10_points_13 rfl rfl ?_
    refine x_getf (C := RX10) (T := TX10) (N := 12) (k := 10) (q := 17) hX (by omega) rfl hiX10 (by decide) (by decide +kernel) rfl dX10_points_14 rfl ?_
    refine x_iload_n (q := 18) dX10_points_17 rfl rfl ?_
    refine x_aload_n (q := 19) dX10_points_18 rfl rfl ?_
    refine x_getf (C := RX10) (T := TX10) (N := 12) (k := 0) (q := 22) hX (by omega) rfl hiX10 (by decide) (by decide +kernel) rfl dX10_points_19 rfl ?_
    refine x_getf (C := RX8) (T := TX8) (N := 15) (k := 0) (q := 25) tp0 (by omega) rfl hiX8 (by decide) (by decide +kernel) rfl dX10_points_22 rfl ?_
    refine x_callV (q := 28) (ci := 0) (c_Bal_pts (p := 95) (by omega) hLb0 hP hB hb0) eX10_points_310 gX10_points_X0_pointsOf bp0 (by omega) rfl rfl rfl (Nat.le_of_ble_eq_true rfl) ⟨Nat.le_refl _, Nat.le_refl _⟩ dX10_points_25 rfl rfl (fun r25 M25 p25 => ?_)
    obtain ⟨rfl, rfl⟩ := p25
    refine x_iret dX10_points_28 rfl rfl (Nat.le_refl _) ?_
    refine ⟨?_, hBa0, fun j hj => rfl⟩
    unfold kPoints
    rw [if_pos (inT b2)]

set_option maxHeartbeats 4000000 in
set_option maxRecDepth 100000 in
theorem c_swing {n : Nat} {M : Nat → xE} {kb : Int32} (hn : 98 < n) (hX : oX10 kb M) {τ : Nat → Nat → Int32} (hT : oX8 1 τ M) {P : Nat} (hP : P ≤ 5) (hP0 : τ 0 0 = nI P) {B : Nat} {s : Nat → Int32} (hB : B ≤ 9) (hBa : oBa B s M) (hs : ∀ b, b < B → ∀ j, j < P → vp_in (s (5 * b + j)) 5) (hPB : B = 0 ∨ 0 < P) : xMet mX10_swing [.ref 0] n M (fun r M' => some (.int (kSwing s B P)) = r ∧ oBa B s M' ∧ xfr 95 99 M M') := by
  have hBa0 := hBa
  obtain ⟨tb, hLb, hb0, hb1⟩ := hBa
  have hLb0 := hLb
  obtain ⟨bp0, bp1, bp2, bp3⟩ := hLb
  rw [hb0] at bp0
  subst hb1
  have hT0 := hT
  obtain ⟨tp0, tp1, tp2, tp3, tp4, tp5, tp6, tp7, tp8, tp9, tp10⟩ := hT
  rw [hP0] at tp0
  have hiX0 : ∀ w ∈ wsX00, w ∈ wsX10_swing := by decide +kernel
  have hiX10 : ∀ w ∈ wsX100, w ∈ wsX10_swing := by decide +kernel
  have hiX8 : ∀ w ∈ wsX80, w ∈ wsX10_swing := by decide +kernel
  refine xMet.of _ (by decide) rfl (Nat.le_of_ble_eq_true rfl) ?_
  refine x_aload_n (q := 1) dX10_swing_0 rfl rfl ?_
  refine x_getf (C := RX10) (T := TX10) (N := 12) (k := 10) (q := 4) hX (by omega) rfl hiX10 (by decide) (by decide +kernel) rfl dX10_swing_1 rfl ?_
  refine x_getf (C := RX0) (T := TX0) (N := 4) (k := 0) (q := 7) bp0 (by omega) rfl hiX0 (by decide) (by decide +kernel) rfl dX10_swing_4 rfl ?_
  refine x_if_ne (t := 14) (q := 10) dX10_swing_7 (by decide) rfl (fun c7 => ?_) (fun c7 => ?_)
  · refine x_aload_n (q := 15) dX10_swing_14 rfl rfl ?_
    refine x_getf (C := RX10) (T := TX10) (N := 12) (k := 10) (q := 18) hX (by omega) rfl hiX10 (by decide) (by decide +kernel) rfl dX10_swing_15 rfl ?_
    refine x_aload_n (q := 19) dX10_swing_18 rfl rfl ?_
    refine x_getf (C := RX10) (T := TX10) (N := 12) (k := 0) (q := 22) hX (by omega) rfl hiX10 (by decide) (by decide +kernel) rfl dX10_swing_19 rfl ?_
    refine x_getf (C := RX8) (T := TX8) (N := 15) (k := 0) (q := 25) tp0 (by omega) rfl hiX8 (by decide) (by decide +kernel) rfl dX10_swing_22 rfl ?_
    have hB0 : ¬ B = 0 := fun h => c7 (by rw [h]; rfl)
    refine x_callV (q := 28) (ci := 0) (c_Bal_swing (p := 95) (by omega) hLb0 hP (by omega) hB hb0 hs) eX10_swing_313 gX10_swing_X0_swingBits bp0 (by omega) rfl rfl rfl (Nat.le_of_ble_eq_true rfl) ⟨Nat.le_refl _, Nat.le_refl _⟩ dX10_swing_25 rfl rfl (fun r25 M25 p25 => ?_)
    obtain ⟨rfl, hU25, fr25⟩ := p25
    refine x_iret dX10_swing_28 rfl rfl (Nat.le_refl _) ?_
    refine ⟨?_, ⟨_, hU25, hb0, rfl⟩, fr25⟩
    unfold kSwing
    rw [if_neg hB0]
  · refine x_iconst (v := 0) (q := 11) dX10_swing_10 rfl (by decide) ?_
    refine x_goto (q := 28) dX10_swing_11 (by decide) ?_
    refine x_iret dX10_swing_28 rfl rfl (Nat.le_refl _) ?_
    refine ⟨?_, hBa0, fun j hj => rfl⟩
    unfold kSwing
    rw [if_pos ((nI_eq (by omega) (by decide)).mp (show nI B = nI 0 from c7))]

def kCount (τ δ : Nat → Nat → Int32) (W B0 B1 B2 sz tx : Nat) (b : Int32) : Int32 := if b = 0 then τ 0 0 else if b = 1 then τ 3 0 else if b = 2 then τ 8 0 else if b = 3 then τ 12 0 else if b = 4 then δ 0 0 else if b = 5 then δ 1 0 else if b = 6 then δ 2 0 else if b = 7 then bset (fun k => decide (0 < δ 9 k)) W else if b = 8 then δ 3 0 else if b = 9 then nI B0 else if b = 10 then nI B1 else if b = 11 then nI B2 else if b = 12 then nI sz else if b = 13 then nI tx else -3
set_option maxHeartbeats 4000000 in
set_option maxRecDepth 100000 in
theorem c_count {n : Nat} {M : Nat → xE} {kb : Int32} (hn : 98 < n) (hX : oX10 kb M) {τ : Nat → Nat → Int32} (hT : oX8 1 τ M) {δ : Nat → Nat → Int32} (hD : oX3 25 δ M) {W : Nat} (hW : W ≤ 6) (hW0 : τ 3 0 = nI W) {tw tc tx : Nat → Nat → Int32} {tbl : Nat → Nat → Int32} {u : Nat → Nat → Int64} {sz nx B0 B1 B2 xs : Nat} {Dp : Nat → Nat → Nat → Int32} (hPa : oPast 29 sz nx Dp M) (hWo : oX9 93 tw M) (h9 : tw 0 0 = nI B0) (hLb : oX0 95 tbl M) (h10 : tbl 0 0 = nI B1) (hLc : oX1 83 tc u M) (h11 : tc 0 0 = nI B2) (hTx : oX7 12 tx M) (h13 : tx 2 0 = nI xs) {b : Int32} : xMet mX10_count [.ref 0, .int b] n M (fun r M' => M = M' ∧ some (.int (kCount τ δ W B0 B1 B2 sz xs b)) = r) := by
  have hT0 := hT
  have hD0 := hD
  obtain ⟨tp0, tp1, tp2, tp3, tp4, tp5, tp6, tp7, tp8, tp9, tp10⟩ := hT
  obtain ⟨dp0, dp1, dp2, dp3⟩ := hD
  have hiX0 : ∀ w ∈ wsX00, w ∈ wsX10_count := by decide +kernel
  have hiX1 : ∀ w ∈ wsX10, w ∈ wsX10_count := by decide +kernel
  have hiX10 : ∀ w ∈ wsX100, w ∈ wsX10_count := by decide +kernel
  have hiX3 : ∀ w ∈ wsX30, w ∈ wsX10_count := by decide +kernel
  have hiX5 : ∀ w ∈ wsX50, w ∈ wsX10_count := by decide +kernel
  have hiX7 : ∀ w ∈ wsX70, w ∈ wsX10_count := by decide +kernel
  have hiX8 : ∀ w ∈ wsX80, w ∈ wsX10_count := by decide +kernel
  have hiX9 : ∀ w ∈ wsX90, w ∈ wsX10_count := by decide +kernel
  refine xMet.of _ (by decide) rfl (Nat.le_of_ble_eq_true rfl) ?_
  refine x_iload_n (q := 1) dX10_count_0 rfl rfl ?_
  by_cases hs1 : vp_in b 14
  · obtain ⟨k1, hk1, ek1⟩ := vp_in_of hs1 (by decide)
    rcases (show k1 = 0 ∨ k1 = 1 ∨ k1 = 2 ∨ k1 = 3 ∨ k1 = 4 ∨ k1 = 5 ∨ k1 = 6 ∨ k1 = 7 ∨ k1 = 8 ∨ k1 = 9 ∨ k1 = 10 ∨ k1 = 11 ∨ k1 = 12 ∨ k1 = 13 by omega) with ej | ej | ej | ej | ej | ej | ej | ej | ej | ej | ej | ej | ej | ej
    · rw [ej] at ek1
      refine x_tableIn (t := 72) (off := 71) dX10_count_1 (by rw [ek1]; decide) (by rw [ek1]; decide) (by rw [ek1]; decide +kernel) (by decide) ?_
      refine x_aload_n (q := 73) dX10_count_72 rfl rfl ?_
      refine x_getf (C := RX10) (T := TX10) (N := 12) (k := 0) (q := 76) hX (by omega) rfl hiX10 (by decide) (by decide +kernel) rfl dX10_count_73 rfl ?_
      refine x_getf (C := RX8) (T := TX8) (N := 15) (k := 0) (q := 79) tp0 (by omega) rfl hiX8 (by decide) (by decide +kernel) rfl dX10_count_76 rfl ?_
      refine x_iret dX10_count_79 rfl rfl (Nat.le_refl _) ?_
      refine ⟨rfl, ?_⟩
      unfold kCount
      rw [ek1]
      first | done | rfl
    · rw [ej] at ek1
      refine x_tableIn (t := 80) (off := 79) dX10_count_1 (by rw [ek1]; decide) (by rw [ek1]; decide) (by rw [ek1]; decide +kernel) (by decide) ?_
      refine x_aload_n (q := 81) dX10_count_80 rfl rfl ?_
      refine x_getf (C := RX10) (T := TX10) (N := 12) (k := 0) (q := 84) hX (by omega) rfl hiX10 (by decide) (by decide +kernel) rfl dX10_count_81 rfl ?_
      refine x_getf (C := RX8) (T := TX8) (N := 15) (k := 3) (q := 87) tp0 (by omega) rfl hiX8 (by decide) (by decide +kernel) rfl dX10_count_84 rfl ?_
      refine x_iret dX10_count_87 rfl rfl (Nat.le_refl _) ?_
      refine ⟨rfl, ?_⟩
      unfold kCount
      rw [ek1]
      first | done | rfl
    · rw [ej] at ek1
      refine x_tableIn (t := 88) (off := 87) dX10_count_1 (by rw [ek1]; decide) (by rw [ek1]; decide) (by rw [ek1]; decide +kernel) (by decide) ?_
      refine x_aload_n (q := 89) dX10_count_88 rfl rfl ?_
      refine x_getf (C := RX10) (T := TX10) (N := 12) (k := 0) (q := 92) hX (by omega) rfl hiX10 (by decide) (by decide +kernel) rfl dX10_count_89 rfl ?_
      refine x_getf (C := RX8) (T := TX8) (N := 15) (k := 8) (q := 95) tp0 (by omega) rfl hiX8 (by decide) (by decide +kernel) rfl dX10_count_92 rfl ?_
      refine x_iret dX10_count_95 rfl rfl (Nat.le_refl _) ?_
      refine ⟨rfl, ?_⟩
      unfold kCount
      rw [ek1]
      first | done | rfl
    · rw [ej] at ek1
      refine x_tableIn (t := 96) (off := 95) dX10_count_1 (by rw [ek1]; decide) (by rw [ek1]; decide) (by rw [ek1]; decide +kernel) (by decide) ?_
      refine x_aload_n (q := 97) dX10_count_96 rfl rfl ?_
      refine x_getf (C := RX10) (T := TX10) (N := 12) (k := 0) (q := 100) hX (by omega) rfl hiX10 (by decide) (by decide +kernel) rfl dX10_count_97 rfl ?_
      refine x_getf (C := RX8) (T := TX8) (N := 15) (k := 12) (q := 103) tp0 (by omega) rfl hiX8 (by decide) (by decide +kernel) rfl dX10_count_100 rfl ?_
      refine x_iret dX10_count_103 rfl rfl (Nat.le_refl _) ?_
      refine ⟨rfl, ?_⟩
      unfold kCount
      rw [ek1]
      first | done | rfl
    · rw [ej] at ek1
      refine x_tableIn (t := 104) (off := 103) dX10_count_1 (by rw [ek1]; decide) (by rw [ek1]; decide) (by rw [ek1]; decide +kernel) (by decide) ?_
      refine x_aload_n (q := 105) dX10_count_104 rfl rfl ?_
      refine x_getf (C := RX10) (T := TX10) (N := 12) (k := 2) (q := 108) hX (by omega) rfl hiX10 (by decide) (by decide +kernel) rfl dX10_count_105 rfl ?_
      refine x_getf (C := RX3) (T := TX3) (N := 10) (k := 0) (q := 111) dp0 (by omega) rfl hiX3 (by decide) (by decide +kernel) rfl dX10_count_108 rfl ?_
      refine x_iret dX10_count_111 rfl rfl (Nat.le_refl _) ?_
      refine ⟨rfl, ?_⟩
      unfold kCount
      rw [ek1]
      first | done | rfl
    · rw [ej] at ek1
      refine x_tableIn (t := 112) (off := 111) dX10_count_1 (by rw [ek1]; decide) (by rw [ek1]; decide) (by rw [ek1]; decide +kernel) (by decide) ?_
      refine x_aload_n (q := 113) dX10_count_112 rfl rfl ?_
      refine x_getf (C := RX10) (T := TX10) (N := 12) (k := 2) (q := 116) hX (by omega) rfl hiX10 (by decide) (by decide +kernel) rfl dX10_count_113 rfl ?_
      refine x_getf (C := RX3) (T := TX3) (N := 10) (k := 1) (q := 119) dp0 (by omega) rfl hiX3 (by decide) (by decide +kernel) rfl dX10_count_116 rfl ?_
      refine x_iret dX10_count_119 rfl rfl (Nat.le_refl _) ?_
      refine ⟨rfl, ?_⟩
      unfold kCount
      rw [ek1]
      first | done | rfl
    · rw [ej] at ek1
      refine x_tableIn (t := 120) (off := 119) dX10_count_1 (by rw [ek1]; decide) (by rw [ek1]; decide) (by rw [ek1]; decide +kernel) (by decide) ?_
      refine x_aload_n (q := 121) dX10_count_120 rfl rfl ?_
      refine x_getf (C := RX10) (T := TX10) (N := 12) (k := 2) (q := 124) hX (by omega) rfl hiX10 (by decide) (by decide +kernel) rfl dX10_count_121 rfl ?_
      refine x_getf (C := RX3) (T := TX3) (N := 10) (k := 2) (q := 127) dp0 (by omega) rfl hiX3 (by decide) (by decide +kernel) rfl dX10_count_124 rfl ?_
      refine x_iret dX10_count_127 rfl rfl (Nat.le_refl _) ?_
      refine ⟨rfl, ?_⟩
      unfold kCount
      rw [ek1]
      first | done | rfl
    · rw [ej] at ek1
      refine x_tableIn (t := 128) (off := 127) dX10_count_1 (by rw [ek1]; decide) (by rw [ek1]; decide) (by rw [ek1]; decide +kernel) (by decide) ?_
      refine x_aload_n (q := 129) dX10_count_128 rfl rfl ?_
      refine x_getf (C := RX10) (T := TX10) (N := 12) (k := 2) (q := 132) hX (by omega) rfl hiX10 (by decide) (by decide +kernel) rfl dX10_count_129 rfl ?_
      refine x_aload_n (q := 133) dX10_count_132 rfl rfl ?_
      refine x_getf (C := RX10) (T := TX10) (N := 12) (k := 0) (q := 136) hX (by omega) rfl hiX10 (by decide) (by decide +kernel) rfl dX10_count_133 rfl ?_
      refine x_getf (C := RX8) (T := TX8) (N := 15) (k := 3) (q := 139) tp0 (by omega) rfl hiX8 (by decide) (by decide +kernel) rfl dX10_count_136 rfl ?_
      rw [hW0]
      refine x_callV (q := 142) (ci := 3) (c_Day_holding (p := 25) (N := W) (by omega) hW hD0) eX10_count_319 gX10_count_X3_holdingBits dp0 (by omega) rfl rfl rfl (Nat.le_of_ble_eq_true rfl) ⟨Nat.le_refl _, Nat.le_refl _⟩ dX10_count_139 rfl rfl (fun r139 M139 p139 => ?_)
      obtain ⟨rfl, rfl⟩ := p139
      refine x_iret dX10_count_142 rfl rfl (Nat.le_refl _) ?_
      refine ⟨rfl, ?_⟩
      unfold kCount
      rw [ek1]
      first | done | rfl
    · rw [ej] at ek1
      refine x_tableIn (t := 143) (off := 142) dX10_count_1 (by rw [ek1]; decide) (by rw [ek1]; decide) (by rw [ek1]; decide +kernel) (by decide) ?_
      refine x_aload_n (q := 144) dX10_count_143 rfl rfl ?_
      refine x_getf (C := RX10) (T := TX10) (N := 12) (k := 2) (q := 147) hX (by omega) rfl hiX10 (by decide) (by decide +kernel) rfl dX10_count_144 rfl ?_
      refine x_getf (C := RX3) (T := TX3) (N := 10) (k := 3) (q := 150) dp0 (by omega) rfl hiX3 (by decide) (by decide +kernel) rfl dX10_count_147 rfl ?_
      refine x_iret dX10_count_150 rfl rfl (Nat.le_refl _) ?_
      refine ⟨rfl, ?_⟩
      unfold kCount
      rw [ek1]
      first | done | rfl
    · rw [ej] at ek1
      refine x_tableIn (t := 151) (off := 150) dX10_count_1 (by rw [ek1]; decide) (by rw [ek1]; decide) (by rw [ek1]; decide +kernel) (by decide) ?_
      refine x_aload_n (q := 152) dX10_count_151 rfl rfl ?_
      refine x_getf (C := RX10) (T := TX10) (N := 12) (k := 9) (q := 155) hX (by omega) rfl hiX10 (by decide) (by decide +kernel) rfl dX10_count_152 rfl ?_
      refine x_getf (C := RX9) (T := TX9) (N := 2) (k := 0) (q := 158) hWo.1 (by omega) rfl hiX9 (by decide) (by decide +kernel) rfl dX10_count_155 rfl ?_
      refine x_iret dX10_count_158 rfl rfl (Nat.le_refl _) ?_
      refine ⟨rfl, ?_⟩
      unfold kCount
      rw [ek1]
      rw [h9]
      rfl
    · rw [ej] at ek1
      refine x_tableIn (t := 159) (off := 158) dX10_count_1 (by rw [ek1]; decide) (by rw [ek1]; decide) (by rw [ek1]; decide +kernel) (by decide) ?_
      refine x_aload_n (q := 160) dX10_count_159 rfl rfl ?_
      refine x_getf (C := RX10) (T := TX10) (N := 12) (k := 10) (q := 163) hX (by omega) rfl hiX10 (by decide) (by decide +kernel) rfl dX10_count_160 rfl ?_
      refine x_getf (C := RX0) (T := TX0) (N := 4) (k := 0) (q := 166) hLb.1 (by omega) rfl hiX0 (by decide) (by decide +kernel) rfl dX10_count_163 rfl ?_
      refine x_iret dX10_count_166 rfl rfl (Nat.le_refl _) ?_
      refine ⟨rfl, ?_⟩
      unfold kCount
      rw [ek1]
      rw [h10]
      rfl
    · rw [ej] at ek1
      refine x_tableIn (t := 167) (off := 166) dX10_count_1 (by rw [ek1]; decide) (by rw [ek1]; decide) (by rw [ek1]; decide +kernel) (by decide) ?_
      refine x_aload_n (q := 168) dX10_count_167 rfl rfl ?_
      refine x_getf (C := RX10) (T := TX10) (N := 12) (k := 7) (q := 171) hX (by omega) rfl hiX10 (by decide) (by decide +kernel) rfl dX10_count_168 rfl ?_
      refine x_getf (C := RX1) (T := TX1) (N := 7) (k := 0) (q := 174) hLc.1 (by omega) rfl hiX1 (by decide) (by decide +kernel) rfl dX10_count_171 rfl ?_
      refine x_iret dX10_count_174 rfl rfl (Nat.le_refl _) ?_
      refine ⟨rfl, ?_⟩
      unfold kCount
      rw [ek1]
      rw [h11]
      rfl
    · rw [ej] at ek1
      refine x_tableIn (t := 175) (off := 174) dX10_count_1 (by rw [ek1]; decide) (by rw [ek1]; decide) (by rw [ek1]; decide +kernel) (by decide) ?_
      refine x_aload_n (q := 176) dX10_count_175 rfl rfl ?_
      refine x_getf (C := RX10) (T := TX10) (N := 12) (k := 3) (q := 179) hX (by omega) rfl hiX10 (by decide) (by decide +kernel) rfl dX10_count_176 rfl ?_
      refine x_getf (C := RX5) (T := TX5) (N := 3) (k := 0) (q := 182) hPa.1 (by omega) rfl hiX5 (by decide) (by decide +kernel) rfl dX10_count_179 rfl ?_
      refine x_iret dX10_count_182 rfl rfl (Nat.le_refl _) ?_
      refine ⟨rfl, ?_⟩
      unfold kCount
      rw [ek1]
      first | done | rfl
    · rw [ej] at ek1
      refine x_tableIn (t := 183) (off := 182) dX10_count_1 (by rw [ek1]; decide) (by rw [ek1]; decide) (by rw [ek1]; decide +kernel) (by decide) ?_
      refine x_aload_n (q := 184) dX10_count_183 rfl rfl ?_
      refine x_getf (C := RX10) (T := TX10) (N := 12) (k := 1) (q := 187) hX (by omega) rfl hiX10 (by decide) (by decide +kernel) rfl dX10_count_184 rfl ?_
      refine x_getf (C := RX7) (T := TX7) (N := 8) (k := 2) (q := 190) hTx.1 (by omega) rfl hiX7 (by decide) (by decide +kernel) rfl dX10_count_187 rfl ?_
      refine x_iret dX10_count_190 rfl rfl (Nat.le_refl _) ?_
      refine ⟨rfl, ?_⟩
      unfold kCount
      rw [ek1]
      rw [h13]
      rfl
  · refine x_tableOut (t := 191) dX10_count_1 (by rw [vp_in_iff] at hs1; omega) (by decide) ?_
    refine x_bipush (v := -3) (q := 193) dX10_count_191 rfl (by decide) ?_
    refine x_iret dX10_count_193 rfl rfl (Nat.le_refl _) ?_
    refine ⟨rfl, ?_⟩
    unfold kCount
    rw [if_neg (show ¬ b = 0 from xne hs1 0 (by decide) (by decide)), if_neg (show ¬ b = 1 from xne hs1 1 (by decide) (by decide)), if_neg (show ¬ b = 2 from xne hs1 2 (by decide) (by decide)), if_neg (show ¬ b = 3 from xne hs1 3 (by decide) (by decide)), if_neg (show ¬ b = 4 from xne hs1 4 (by decide) (by decide)), if_neg (show ¬ b = 5 from xne hs1 5 (by decide) (by decide)), if_neg (show ¬ b = 6 from xne hs1 6 (by decide) (by decide)), if_neg (show ¬ b = 7 from xne hs1 7 (by decide) (by decide)), if_neg (show ¬ b = 8 from xne hs1 8 (by decide) (by decide)), if_neg (show ¬ b = 9 from xne hs1 9 (by decide) (by decide)), if_neg (show ¬ b = 10 from xne hs1 10 (by decide) (by decide)), if_neg (show ¬ b = 11 from xne hs1 11 (by decide) (by decide)), if_neg (show ¬ b = 12 from xne hs1 12 (by decide) (by decide)), if_neg (show ¬ b = 13 from xne hs1 13 (by decide) (by decide))]

