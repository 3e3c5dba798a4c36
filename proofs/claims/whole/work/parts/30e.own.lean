def kOdds (τ δ : Nat → Nat → Int32) (a b c : Int32) : Int64 := if inB a 4 = true then (if inB b 10 = true then (if inB c 2 = true then cPart (gIt τ (w1 (δ 1 0).toNatClampNeg) b.toNatClampNeg) a.toNatClampNeg c else -3) else -3) else -2
def kLikely (τ tc : Nat → Nat → Int32) (B : Nat) (a b c : Int32) : Int64 := if inB a 4 = true then (if inB b 10 = true then (if inB c 2 = true then (if sum4 (lkW τ tc B b.toNatClampNeg) 4 = 0 then -4 else cPart (lkW τ tc B b.toNatClampNeg) a.toNatClampNeg c) else -3) else -3) else -2
set_option maxHeartbeats 4000000 in
set_option maxRecDepth 100000 in
theorem c_odds {n : Nat} {M : Nat → xE} {kb : Int32} (hn : 98 < n) (hX : oX10 kb M) {τ : Nat → Nat → Int32} (hT : oX8 1 τ M) {δ : Nat → Nat → Int32} (hD : oX3 25 δ M) (hWd : ∀ k, k < 4 → vp_in (τ 13 k) 4) {tc : Nat → Nat → Int32} (hCh : oCh tc M) (hw0 : vp_in (δ 1 0) 4) {a b c : Int32} : xMet mX10_odds [.ref 0, .int a, .int b, .int c] n M (fun r M' => some (.long (kOdds τ δ a b c)) = r ∧ oCh tc M' ∧ xfr 83 90 M M') := by
  have hCh0 := hCh
  obtain ⟨uc, hLc⟩ := hCh
  have hT0 := hT
  have hD0 := hD
  obtain ⟨tp0, tp1, tp2, tp3, tp4, tp5, tp6, tp7, tp8, tp9, tp10⟩ := hT
  obtain ⟨dp0, dp1, dp2, dp3⟩ := hD
  have hiX10 : ∀ w ∈ wsX100, w ∈ wsX10_odds := by decide +kernel
  have hiX3 : ∀ w ∈ wsX30, w ∈ wsX10_odds := by decide +kernel
  refine xMet.of _ (by decide) rfl (Nat.le_of_ble_eq_true rfl) ?_
  refine x_iload_n (q := 1) dX10_odds_0 rfl rfl ?_
  refine x_callS (q := 4) c_isNoWorld eX10_odds_249 gX10_odds_X10_isNoWorld rfl (Nat.le_of_ble_eq_true rfl) ⟨Nat.le_refl _, Nat.le_refl _⟩ dX10_odds_1 rfl rfl (fun r1 M1 p1 => ?_)
  obtain ⟨rfl, p1⟩ := p1
  rcases p1 with ⟨b1, rfl⟩ | ⟨b1, rfl⟩
  · refine x_if_eq (t := 11) (q := 7) dX10_odds_4 (by decide) rfl (fun c4 => absurd c4 (by decide)) (fun c4 => ?_)
    refine x_ldc2 (v := -2) (q := 10) (by decide +kernel) dX10_odds_7 rfl ?_
    refine x_lret dX10_odds_10 rfl rfl (Nat.le_refl _) ?_
    refine ⟨?_, hCh0, fun j hj => rfl⟩
    unfold kOdds
    rw [if_neg (show ¬ inB a 4 = true by rw [inF b1]; decide)]
  · have va : vp_in a 4 := by rw [vp_in_iff] at b1 ⊢; exact Decidable.not_not.mp b1
    refine x_if_eq (t := 11) (q := 7) dX10_odds_4 (by decide) rfl (fun c4 => ?_) (fun c4 => absurd c4 (by decide))
    refine x_iload_n (q := 12) dX10_odds_11 rfl rfl ?_
    refine x_iconst (v := 0) (q := 13) dX10_odds_12 rfl (by decide) ?_
    refine x_bipush (v := 9) (q := 15) dX10_odds_13 rfl (by decide) ?_
    refine x_callS (q := 18) c_isOutside eX10_odds_94 gX10_odds_X10_isOutside rfl (Nat.le_of_ble_eq_true rfl) ⟨Nat.le_refl _, Nat.le_refl _⟩ dX10_odds_15 rfl rfl (fun r15 M15 p15 => ?_)
    obtain ⟨rfl, p15⟩ := p15
    rcases p15 with ⟨b15, rfl⟩ | ⟨b15, rfl⟩
    · refine x_if_ne (t := 30) (q := 21) dX10_odds_18 (by decide) rfl (fun c18 => ?_) (fun c18 => absurd c18 (by decide))
      refine x_ldc2 (v := -3) (q := 33) (by decide +kernel) dX10_odds_30 rfl ?_
      refine x_lret dX10_odds_33 rfl rfl (Nat.le_refl _) ?_
      refine ⟨?_, hCh0, fun j hj => rfl⟩
      unfold kOdds
      rw [if_pos (inB_t.mpr va), if_neg (show ¬ inB b 10 = true by rw [outB (k := 9) (by decide) b15]; decide)]
    · refine x_if_ne (t := 30) (q := 21) dX10_odds_18 (by decide) rfl (fun c18 => absurd c18 (by decide)) (fun c18 => ?_)
      refine x_iload_n (q := 22) dX10_odds_21 rfl rfl ?_
      refine x_iconst (v := 0) (q := 23) dX10_odds_22 rfl (by decide) ?_
      refine x_iconst (v := 1) (q := 24) dX10_odds_23 rfl (by decide) ?_
      refine x_callS (q := 27) c_isOutside eX10_odds_94 gX10_odds_X10_isOutside rfl (Nat.le_of_ble_eq_true rfl) ⟨Nat.le_refl _, Nat.le_refl _⟩ dX10_odds_24 rfl rfl (fun r24 M24 p24 => ?_)
      obtain ⟨rfl, p24⟩ := p24
      rcases p24 with ⟨b24, rfl⟩ | ⟨b24, rfl⟩
      · refine x_if_eq (t := 34) (q := 30) dX10_odds_27 (by decide) rfl (fun c27 => absurd c27 (by decide)) (fun c27 => ?_)
        refine x_ldc2 (v := -3) (q := 33) (by decide +kernel) dX10_odds_30 rfl ?_
        refine x_lret dX10_odds_33 rfl rfl (Nat.le_refl _) ?_
        refine ⟨?_, hCh0, fun j hj => rfl⟩
        unfold kOdds
        rw [if_pos (inB_t.mpr va), if_pos (outT (k := 9) (by decide) b15), if_neg (show ¬ inB c 2 = true by rw [outB (k := 1) (by decide) b24]; decide)]
      · refine x_if_eq (t := 34) (q := 30) dX10_odds_27 (by decide) rfl (fun c27 => ?_) (fun c27 => absurd c27 (by decide))
        refine x_aload_n (q := 35) dX10_odds_34 rfl rfl ?_
        refine x_getf (C := RX10) (T := TX10) (N := 12) (k := 7) (q := 38) hX (by omega) rfl hiX10 (by decide) (by decide +kernel) rfl dX10_odds_35 rfl ?_
        refine x_aload_n (q := 39) dX10_odds_38 rfl rfl ?_
        refine x_getf (C := RX10) (T := TX10) (N := 12) (k := 0) (q := 42) hX (by omega) rfl hiX10 (by decide) (by decide +kernel) rfl dX10_odds_39 rfl ?_
        refine x_aload_n (q := 43) dX10_odds_42 rfl rfl ?_
        refine x_getf (C := RX10) (T := TX10) (N := 12) (k := 2) (q := 46) hX (by omega) rfl hiX10 (by decide) (by decide +kernel) rfl dX10_odds_43 rfl ?_
        refine x_getf (C := RX3) (T := TX3) (N := 10) (k := 1) (q := 49) dp0 (by omega) rfl hiX3 (by decide) (by decide +kernel) rfl dX10_odds_46 rfl ?_
        refine x_iload_n (q := 50) dX10_odds_49 rfl rfl ?_
        obtain ⟨N9, hN9, rfl⟩ := vp_in_of (inB_t.mp (outT (k := 9) (by decide) b15)) (by decide)
        refine x_callV (q := 53) (ci := 1) (c_Ch_ahead (p := 83) (q := 1) (N := N9) (by omega) (by omega) (by omega) (by omega) hw0 hWd hLc hT0) eX10_odds_259 gX10_odds_X1_lookAhead hLc.1 (by omega) rfl rfl rfl (Nat.le_of_ble_eq_true rfl) ⟨Nat.le_refl _, Nat.le_refl _⟩ dX10_odds_50 rfl rfl (fun r50 M50 p50 => ?_)
        obtain ⟨rfl, ⟨u9, hU50, e9⟩, fr50⟩ := p50
        refine x_aload_n (q := 54) dX10_odds_53 rfl rfl ?_
        have hv1_1_0 := ((fr50 (0) (by omega)).trans hX)
        refine x_getf (C := RX10) (T := TX10) (N := 12) (k := 7) (q := 57) hv1_1_0 (by omega) rfl hiX10 (by decide) (by decide +kernel) rfl dX10_odds_54 rfl ?_
        refine x_iload_n (q := 58) dX10_odds_57 rfl rfl ?_
        refine x_iload_n (q := 59) dX10_odds_58 rfl rfl ?_
        refine x_callV (q := 62) (ci := 1) (c_Ch_part (p := 83) (by omega) hU50 va) eX10_odds_263 gX10_odds_X1_partOf hU50.1 (by omega) rfl rfl rfl (Nat.le_of_ble_eq_true rfl) ⟨Nat.le_refl _, Nat.le_refl _⟩ dX10_odds_59 rfl rfl (fun r59 M59 p59 => ?_)
        obtain ⟨rfl, rfl⟩ := p59
        refine x_lret dX10_odds_62 rfl rfl (Nat.le_refl _) ?_
        refine ⟨?_, ⟨u9, hU50⟩, fr50⟩
        unfold kOdds
        rw [if_pos (inB_t.mpr va), if_pos (outT (k := 9) (by decide) b15), if_pos (outT (k := 1) (by decide) b24), nI_clamp (show N9 < 2 ^ 31 by omega), e9]

set_option maxHeartbeats 4000000 in
set_option maxRecDepth 100000 in
theorem c_likely {n : Nat} {M : Nat → xE} {kb : Int32} (hn : 98 < n) (hX : oX10 kb M) {τ : Nat → Nat → Int32} (hT : oX8 1 τ M) (hWd : ∀ k, k < 4 → vp_in (τ 13 k) 4) {tc : Nat → Nat → Int32} (hCh : oCh tc M) {B : Nat} (hB : B ≤ 6) (hB0 : tc 0 0 = nI B) {a b c : Int32} : xMet mX10_likely [.ref 0, .int a, .int b, .int c] n M (fun r M' => some (.long (kLikely τ tc B a b c)) = r ∧ oCh tc M' ∧ xfr 83 90 M M') := by
  have hCh0 := hCh
  obtain ⟨uc, hLc⟩ := hCh
  have hT0 := hT
  obtain ⟨tp0, tp1, tp2, tp3, tp4, tp5, tp6, tp7, tp8, tp9, tp10⟩ := hT
  have hiX10 : ∀ w ∈ wsX100, w ∈ wsX10_likely := by decide +kernel
  refine xMet.of _ (by decide) rfl (Nat.le_of_ble_eq_true rfl) ?_
  refine x_iload_n (q := 1) dX10_likely_0 rfl rfl ?_
  refine x_callS (q := 4) c_isNoWorld eX10_likely_249 gX10_likely_X10_isNoWorld rfl (Nat.le_of_ble_eq_true rfl) ⟨Nat.le_refl _, Nat.le_refl _⟩ dX10_likely_1 rfl rfl (fun r1 M1 p1 => ?_)
  obtain ⟨rfl, p1⟩ := p1
  rcases p1 with ⟨b1, rfl⟩ | ⟨b1, rfl⟩
  · refine x_if_eq (t := 11) (q := 7) dX10_likely_4 (by decide) rfl (fun c4 => absurd c4 (by decide)) (fun c4 => ?_)
    refine x_ldc2 (v := -2) (q := 10) (by decide +kernel) dX10_likely_7 rfl ?_
    refine x_lret dX10_likely_10 rfl rfl (Nat.le_refl _) ?_
    refine ⟨?_, hCh0, fun j hj => rfl⟩
    unfold kLikely
    rw [if_neg (show ¬ inB a 4 = true by rw [inF b1]; decide)]
  · have va : vp_in a 4 := by rw [vp_in_iff] at b1 ⊢; exact Decidable.not_not.mp b1
    refine x_if_eq (t := 11) (q := 7) dX10_likely_4 (by decide) rfl (fun c4 => ?_) (fun c4 => absurd c4 (by decide))
    refine x_iload_n (q := 12) dX10_likely_11 rfl rfl ?_
    refine x_iconst (v := 0) (q := 13) dX10_likely_12 rfl (by decide) ?_
    refine x_bipush (v := 9) (q := 15) dX10_likely_13 rfl (by decide) ?_
    refine x_callS (q := 18) c_isOutside eX10_likely_94 gX10_likely_X10_isOutside rfl (Nat.le_of_ble_eq_true rfl) ⟨Nat.le_refl _, Nat.le_refl _⟩ dX10_likely_15 rfl rfl (fun r15 M15 p15 => ?_)
    obtain ⟨rfl, p15⟩ := p15
    rcases p15 with ⟨b15, rfl⟩ | ⟨b15, rfl⟩
    · refine x_if_ne (t := 30) (q := 21) dX10_likely_18 (by decide) rfl (fun c18 => ?_) (fun c18 => absurd c18 (by decide))
      refine x_ldc2 (v := -3) (q := 33) (by decide +kernel) dX10_likely_30 rfl ?_
      refine x_lret dX10_likely_33 rfl rfl (Nat.le_refl _) ?_
      refine ⟨?_, hCh0, fun j hj => rfl⟩
      unfold kLikely
      rw [if_pos (inB_t.mpr va), if_neg (show ¬ inB b 10 = true by rw [outB (k := 9) (by decide) b15]; decide)]
    · refine x_if_ne (t := 30) (q := 21) dX10_likely_18 (by decide) rfl (fun c18 => absurd c18 (by decide)) (fun c18 => ?_)
      refine x_iload_n (q := 22) dX10_likely_21 rfl rfl ?_
      refine x_iconst (v := 0) (q := 23) dX10_likely_22 rfl (by decide) ?_
      refine x_iconst (v := 1) (q := 24) dX10_likely_23 rfl (by decide) ?_
      refine x_callS (q := 27) c_isOutside eX10_likely_94 gX10_likely_X10_isOutside rfl (Nat.le_of_ble_eq_true rfl) ⟨Nat.le_refl _, Nat.le_refl _⟩ dX10_likely_24 rfl rfl (fun r24 M24 p24 => ?_)
      obtain ⟨rfl, p24⟩ := p24
      rcases p24 with ⟨b24, rfl⟩ | ⟨b24, rfl⟩
      · refine x_if_eq (t := 34) (q := 30) dX10_likely_27 (by decide) rfl (fun c27 => absurd c27 (by decide)) (fun c27 => ?_)
        refine x_ldc2 (v := -3) (q := 33) (by decide +kernel) dX10_likely_30 rfl ?_
        refine x_lret dX10_likely_33 rfl rfl (Nat.le_refl _) ?_
        refine ⟨?_, hCh0, fun j hj => rfl⟩
        unfold kLikely
        rw [if_pos (inB_t.mpr va), if_pos (outT (k := 9) (by decide) b15), if_neg (show ¬ inB c 2 = true by rw [outB (k := 1) (by decide) b24]; decide)]
      · refine x_if_eq (t := 34) (q := 30) dX10_likely_27 (by decide) rfl (fun c27 => ?_) (fun c27 => absurd c27 (by decide))
        refine x_aload_n (q := 35) dX10_likely_34 rfl rfl ?_
        refine x_getf (C := RX10) (T := TX10) (N := 12) (k := 7) (q := 38) hX (by omega) rfl hiX10 (by decide) (by decide +kernel) rfl dX10_likely_35 rfl ?_
        refine x_aload_n (q := 39) dX10_likely_38 rfl rfl ?_
        refine x_getf (C := RX10) (T := TX10) (N := 12) (k := 0) (q := 42) hX (by omega) rfl hiX10 (by decide) (by decide +kernel) rfl dX10_likely_39 rfl ?_
        refine x_iload_n (q := 43) dX10_likely_42 rfl rfl ?_
        obtain ⟨N9, hN9, rfl⟩ := vp_in_of (inB_t.mp (outT (k := 9) (by decide) b15)) (by decide)
        refine x_callV (q := 46) (ci := 1) (c_Ch_back (p := 83) (q := 1) (N := N9) (B := B) (by omega) (by omega) (by omega) (by omega) hB hB0 hWd hLc hT0) eX10_likely_270 gX10_likely_X1_lookBack hLc.1 (by omega) rfl rfl rfl (Nat.le_of_ble_eq_true rfl) ⟨Nat.le_refl _, Nat.le_refl _⟩ dX10_likely_43 rfl rfl (fun r43 M43 p43 => ?_)
        obtain ⟨rfl, ⟨u9, hU43, e9⟩, fr43⟩ := p43
        refine x_aload_n (q := 47) dX10_likely_46 rfl rfl ?_
        have hv1_1_0 := ((fr43 (0) (by omega)).trans hX)
        refine x_getf (C := RX10) (T := TX10) (N := 12) (k := 7) (q := 50) hv1_1_0 (by omega) rfl hiX10 (by decide) (by decide +kernel) rfl dX10_likely_47 rfl ?_
        refine x_callV (q := 53) (ci := 1) (c_Ch_total (p := 83) (by omega) hU43) eX10_likely_274 gX10_likely_X1_total hU43.1 (by omega) rfl rfl rfl (Nat.le_of_ble_eq_true rfl) ⟨Nat.le_refl _, Nat.le_refl _⟩ dX10_likely_50 rfl rfl (fun r50 M50 p50 => ?_)
        obtain ⟨rfl, rfl⟩ := p50
        refine x_lconst (v := 0) (q := 54) dX10_likely_53 rfl (by decide) ?_
        refine x_lcmp (q := 55) dX10_likely_54 rfl ?_
        refine x_if_ne (t := 64) (q := 58) dX10_likely_55 (by decide) rfl (fun c55 => ?_) (fun c55 => ?_)
        · refine x_aload_n (q := 65) dX10_likely_64 rfl rfl ?_
          refine x_getf (C := RX10) (T := TX10) (N := 12) (k := 7) (q := 68) hv1_1_0 (by omega) rfl hiX10 (by decide) (by decide +kernel) rfl dX10_likely_65 rfl ?_
          refine x_iload_n (q := 69) dX10_likely_68 rfl rfl ?_
          refine x_iload_n (q := 70) dX10_likely_69 rfl rfl ?_
          refine x_callV (q := 73) (ci := 1) (c_Ch_part (p := 83) (by omega) hU43 va) eX10_likely_263 gX10_likely_X1_partOf hU43.1 (by omega) rfl rfl rfl (Nat.le_of_ble_eq_true rfl) ⟨Nat.le_refl _, Nat.le_refl _⟩ dX10_likely_70 rfl rfl (fun r70 M70 p70 => ?_)
          obtain ⟨rfl, rfl⟩ := p70
          refine x_lret dX10_likely_73 rfl rfl (Nat.le_refl _) ?_
          refine ⟨?_, ⟨u9, hU43⟩, fr43⟩
          unfold kLikely
          rw [if_pos (inB_t.mpr va), if_pos (outT (k := 9) (by decide) b15), if_pos (outT (k := 1) (by decide) b24), nI_clamp (show N9 < 2 ^ 31 by omega), ← e9, if_neg (fun h => c55 (lcmp0.mpr h))]
        · refine x_ldc2 (v := -4) (q := 61) (by decide +kernel) dX10_likely_58 rfl ?_
          refine x_goto (q := 73) dX10_likely_61 (by decide) ?_
          refine x_lret dX10_likely_73 rfl rfl (Nat.le_refl _) ?_
          refine ⟨?_, ⟨u9, hU43⟩, fr43⟩
          unfold kLikely
          rw [if_pos (inB_t.mpr va), if_pos (outT (k := 9) (by decide) b15), if_pos (outT (k := 1) (by decide) b24), nI_clamp (show N9 < 2 ^ 31 by omega), ← e9, if_pos (lcmp0.mp c55)]

def chSign (tc : Nat → Nat → Int32) (B : Nat) (a b c : Int32) : Nat → Nat → Int32 := fun i => if i = 0 then (fun _ => nI (B + 1)) else if i = 1 then upd (tc 1) B a else if i = 2 then upd (tc 2) B b else if i = 3 then upd (tc 3) B c else tc i
set_option maxHeartbeats 4000000 in
set_option maxRecDepth 100000 in
theorem c_sign {n : Nat} {M : Nat → xE} {kb : Int32} (hn : 98 < n) (hX : oX10 kb M) {tc : Nat → Nat → Int32} (hCh : oCh tc M) {B : Nat} (hB : B ≤ 6) (hB0 : tc 0 0 = nI B) {a b c : Int32} : xMet mX10_sign [.ref 0, .int a, .int b, .int c] n M (fun r M' => if inB a 4 = true then (if inB b 10 = true then (if inB c 2 = true then (if B < 6 then (some (.int (nI (B + 1))) = r ∧ oCh (chSign tc B a b c) M' ∧ xfr 83 90 M M') else (M = M' ∧ some (.int (-5)) = r)) else (M = M' ∧ some (.int (-3)) = r)) else (M = M' ∧ some (.int (-3)) = r)) else (M = M' ∧ some (.int (-2)) = r)) := by
  have hCh0 := hCh
  obtain ⟨uc, hLc⟩ := hCh
  have hiX1 : ∀ w ∈ wsX10, w ∈ wsX10_sign := by decide +kernel
  have hiX10 : ∀ w ∈ wsX100, w ∈ wsX10_sign := by decide +kernel
  refine xMet.of _ (by decide) rfl (Nat.le_of_ble_eq_true rfl) ?_
  refine x_iload_n (q := 1) dX10_sign_0 rfl rfl ?_
  refine x_callS (q := 4) c_isNoWorld eX10_sign_249 gX10_sign_X10_isNoWorld rfl (Nat.le_of_ble_eq_true rfl) ⟨Nat.le_refl _, Nat.le_refl _⟩ dX10_sign_1 rfl rfl (fun r1 M1 p1 => ?_)
  obtain ⟨rfl, p1⟩ := p1
  rcases p1 with ⟨b1, rfl⟩ | ⟨b1, rfl⟩
  · refine x_if_eq (t := 10) (q := 7) dX10_sign_4 (by decide) rfl (fun c4 => absurd c4 (by decide)) (fun c4 => ?_)
    refine x_bipush (v := -2) (q := 9) dX10_sign_7 rfl (by decide) ?_
    refine x_iret dX10_sign_9 rfl rfl (Nat.le_refl _) ?_
    rw [if_neg (show ¬ inB a 4 = true by rw [inF b1]; decide)]
    exact ⟨rfl, rfl⟩
  · have va : vp_in a 4 := by rw [vp_in_iff] at b1 ⊢; exact Decidable.not_not.mp b1
    refine x_if_eq (t := 10) (q := 7) dX10_sign_4 (by decide) rfl (fun c4 => ?_) (fun c4 => absurd c4 (by decide))
    refine x_iload_n (q := 11) dX10_sign_10 rfl rfl ?_
    refine x_iconst (v := 0) (q := 12) dX10_sign_11 rfl (by decide) ?_
    refine x_bipush (v := 9) (q := 14) dX10_sign_12 rfl (by decide) ?_
    refine x_callS (q := 17) c_isOutside eX10_sign_94 gX10_sign_X10_isOutside rfl (Nat.le_of_ble_eq_true rfl) ⟨Nat.le_refl _, Nat.le_refl _⟩ dX10_sign_14 rfl rfl (fun r14 M14 p14 => ?_)
    obtain ⟨rfl, p14⟩ := p14
    rcases p14 with ⟨b14, rfl⟩ | ⟨b14, rfl⟩
    · refine x_if_ne (t := 29) (q := 20) dX10_sign_17 (by decide) rfl (fun c17 => ?_) (fun c17 => absurd c17 (by decide))
      refine x_bipush (v := -3) (q := 31) dX10_sign_29 rfl (by decide) ?_
      refine x_iret dX10_sign_31 rfl rfl (Nat.le_refl _) ?_
      rw [if_pos (inB_t.mpr va), if_neg (show ¬ inB b 10 = true by rw [outB (k := 9) (by decide) b14]; decide)]
      exact ⟨rfl, rfl⟩
    · refine x_if_ne (t := 29) (q := 20) dX10_sign_17 (by decide) rfl (fun c17 => absurd c17 (by decide)) (fun c17 => ?_)
      refine x_iload_n (q := 21) dX10_sign_20 rfl rfl ?_
      refine x_iconst (v := 0) (q := 22) dX10_sign_21 rfl (by decide) ?_
      refine x_iconst (v := 1) (q := 23) dX10_sign_22 rfl (by decide) ?_
      refine x_callS (q := 26) c_isOutside eX10_sign_94 gX10_sign_X10_isOutside rfl (Nat.le_of_ble_eq_true rfl) ⟨Nat.le_refl _, Nat.le_refl _⟩ dX10_sign_23 rfl rfl (fun r23 M23 p23 => ?_)
      obtain ⟨rfl, p23⟩ := p23
      rcases p23 with ⟨b23, rfl⟩ | ⟨b23, rfl⟩
      · refine x_if_eq (t := 32) (q := 29) dX10_sign_26 (by decide) rfl (fun c26 => absurd c26 (by decide)) (fun c26 => ?_)
        refine x_bipush (v := -3) (q := 31) dX10_sign_29 rfl (by decide) ?_
        refine x_iret dX10_sign_31 rfl rfl (Nat.le_refl _) ?_
        rw [if_pos (inB_t.mpr va), if_pos (outT (k := 9) (by decide) b14), if_neg (show ¬ inB c 2 = true by rw [outB (k := 1) (by decide) b23]; decide)]
        exact ⟨rfl, rfl⟩
      · refine x_if_eq (t := 32) (q := 29) dX10_sign_26 (by decide) rfl (fun c26 => ?_) (fun c26 => absurd c26 (by decide))
        refine x_aload_n (q := 33) dX10_sign_32 rfl rfl ?_
        refine x_getf (C := RX10) (T := TX10) (N := 12) (k := 7) (q := 36) hX (by omega) rfl hiX10 (by decide) (by decide +kernel) rfl dX10_sign_33 rfl ?_
        refine x_iload_n (q := 37) dX10_sign_36 rfl rfl ?_
        refine x_iload_n (q := 38) dX10_sign_37 rfl rfl ?_
        refine x_iload_n (q := 39) dX10_sign_38 rfl rfl ?_
        refine x_callV (q := 42) (ci := 1) (c_Ch_add (p := 83) (B := B) (by omega) hLc hB hB0) eX10_sign_267 gX10_sign_X1_addSign hLc.1 (by omega) rfl rfl rfl (Nat.le_of_ble_eq_true rfl) ⟨Nat.le_refl _, Nat.le_refl _⟩ dX10_sign_39 rfl rfl (fun r39 M39 p39 => ?_)
        rcases p39 with ⟨d39, rfl, hU39, fr39⟩ | ⟨d39, rfl, rfl⟩
        · refine x_if_eq (t := 55) (q := 45) dX10_sign_42 (by decide) rfl (fun c42 => absurd c42 (by decide)) (fun c42 => ?_)
          refine x_aload_n (q := 46) dX10_sign_45 rfl rfl ?_
          have hv1_1_0 := ((fr39 (0) (by omega)).trans hX)
          refine x_getf (C := RX10) (T := TX10) (N := 12) (k := 7) (q := 49) hv1_1_0 (by omega) rfl hiX10 (by decide) (by decide +kernel) rfl dX10_sign_46 rfl ?_
          refine x_getf (C := RX1) (T := TX1) (N := 7) (k := 0) (q := 52) hU39.1 (by omega) rfl hiX1 (by decide) (by decide +kernel) rfl dX10_sign_49 rfl ?_
          refine x_goto (q := 57) dX10_sign_52 (by decide) ?_
          refine x_iret dX10_sign_57 rfl rfl (Nat.le_refl _) ?_
          rw [if_pos (inB_t.mpr va), if_pos (outT (k := 9) (by decide) b14), if_pos (outT (k := 1) (by decide) b23), if_pos d39]
          exact ⟨rfl, ⟨uc, hU39⟩, fr39⟩
        · refine x_if_eq (t := 55) (q := 45) dX10_sign_42 (by decide) rfl (fun c42 => ?_) (fun c42 => absurd c42 (by decide))
          refine x_bipush (v := -5) (q := 57) dX10_sign_55 rfl (by decide) ?_
          refine x_iret dX10_sign_57 rfl rfl (Nat.le_refl _) ?_
          rw [if_pos (inB_t.mpr va), if_pos (outT (k := 9) (by decide) b14), if_pos (outT (k := 1) (by decide) b23), if_neg (show ¬ B < 6 by omega)]
          exact ⟨rfl, rfl⟩

set_option maxHeartbeats 4000000 in
set_option maxRecDepth 100000 in
theorem c_forget {n : Nat} {M : Nat → xE} {kb : Int32} (hn : 98 < n) (hX : oX10 kb M) {tc : Nat → Nat → Int32} (hCh : oCh tc M) {B : Nat} (hB : B ≤ 6) (hB0 : tc 0 0 = nI B) : xMet mX10_forget [.ref 0] n M (fun r M' => some (.int (nI B)) = r ∧ oCh (fun i => if i = 0 then (fun _ => 0) else tc i) M' ∧ xfr 83 90 M M') := by
  have hCh0 := hCh
  obtain ⟨uc, hLc⟩ := hCh
  obtain ⟨cp0, cp1, cp2, cp3, cp4, cp5, cp6⟩ := hLc
  rw [hB0] at cp0
  have hiX1 : ∀ w ∈ wsX10, w ∈ wsX10_forget := by decide +kernel
  have hiX10 : ∀ w ∈ wsX100, w ∈ wsX10_forget := by decide +kernel
  refine xMet.of _ (by decide) rfl (Nat.le_of_ble_eq_true rfl) ?_
  refine x_aload_n (q := 1) dX10_forget_0 rfl rfl ?_
  refine x_getf (C := RX10) (T := TX10) (N := 12) (k := 7) (q := 4) hX (by omega) rfl hiX10 (by decide) (by decide +kernel) rfl dX10_forget_1 rfl ?_
  refine x_getf (C := RX1) (T := TX1) (N := 7) (k := 0) (q := 7) cp0 (by omega) rfl hiX1 (by decide) (by decide +kernel) rfl dX10_forget_4 rfl ?_
  refine x_istore_n (L' := fun x1_7 => [(1, .int x1_7), (0, .ref 0)]) (q := 8) dX10_forget_7 rfl (by decide) (fun _ => rfl) (fun x1_7 ex1_7 => ?_)
  obtain rfl : x1_7 = nI B := ex1_7
  refine x_aload_n (q := 9) dX10_forget_8 rfl rfl ?_
  refine x_getf (C := RX10) (T := TX10) (N := 12) (k := 7) (q := 12) hX (by omega) rfl hiX10 (by decide) (by decide +kernel) rfl dX10_forget_9 rfl ?_
  refine x_iconst (v := 0) (q := 13) dX10_forget_12 rfl (by decide) ?_
  refine x_put (C := RX1) (T := TX1) (N := 7) (k := 0) (q := 16) (ty := .int) tyX1_ok nmX1 cp0 (by omega) rfl hiX1 (by decide) (by decide +kernel) rfl (by decide +kernel) (fun _ => rfl) (fun _ => rfl) (Nat.le_of_ble_eq_true rfl) dX10_forget_13 rfl (fun M13 w13 o13 => ?_)
  refine x_iload_n (q := 17) dX10_forget_16 rfl rfl ?_
  refine x_iret dX10_forget_17 rfl rfl (Nat.le_refl _) ?_
  have hv1_1_84 := ((o13 (84) (by omega)).trans cp1)
  have hv1_2_85 := ((o13 (85) (by omega)).trans cp2)
  have hv1_3_86 := ((o13 (86) (by omega)).trans cp3)
  have hv1_4_87 := ((o13 (87) (by omega)).trans cp4)
  have hv1_5_88 := ((o13 (88) (by omega)).trans cp5)
  have hv1_6_89 := ((o13 (89) (by omega)).trans cp6)
  exact ⟨rfl, ⟨uc, ⟨w13, hv1_1_84, hv1_2_85, hv1_3_86, hv1_4_87, hv1_5_88, hv1_6_89⟩⟩, (fun j hj => ((o13 j (by omega)).trans rfl))⟩

def kMeant (tw : Nat → Nat → Int32) (B : Nat) (a b : Int32) : Int32 := if inB a 64 = true then (if inB b 7 = true then bset (fun k => decide (jBit (tw 1 k ^^^ a) ≤ b)) B else -3) else -3
def kBears (tw : Nat → Nat → Int32) (B : Nat) : Int32 := if B = 0 then -1 else if B = 1 then 6 else (wOut (fun u v => jBit (tw 1 u ^^^ tw 1 v)) B - 1) / 2
def wAdd (tw : Nat → Nat → Int32) (B : Nat) (a : Int32) : Nat → Nat → Int32 := fun i => if i = 0 then (fun _ => nI (B + 1)) else upd (tw 1) B a
set_option maxHeartbeats 4000000 in
set_option maxRecDepth 100000 in
theorem c_meant {n : Nat} {M : Nat → xE} {kb : Int32} (hn : 98 < n) (hX : oX10 kb M) {tw : Nat → Nat → Int32} (hWo : oX9 93 tw M) {B : Nat} (hB : B ≤ 6) (hB0 : tw 0 0 = nI B) {a b : Int32} : xMet mX10_meant [.ref 0, .int a, .int b] n M (fun r M' => M = M' ∧ some (.int (kMeant tw B a b)) = r) := by
  have hiX10 : ∀ w ∈ wsX100, w ∈ wsX10_meant := by decide +kernel
  refine xMet.of _ (by decide) rfl (Nat.le_of_ble_eq_true rfl) ?_
  refine x_iload_n (q := 1) dX10_meant_0 rfl rfl ?_
  refine x_iconst (v := 0) (q := 2) dX10_meant_1 rfl (by decide) ?_
  refine x_bipush (v := 63) (q := 4) dX10_meant_2 rfl (by decide) ?_
  refine x_callS (q := 7) c_isOutside eX10_meant_94 gX10_meant_X10_isOutside rfl (Nat.le_of_ble_eq_true rfl) ⟨Nat.le_refl _, Nat.le_refl _⟩ dX10_meant_4 rfl rfl (fun r4 M4 p4 => ?_)
  obtain ⟨rfl, p4⟩ := p4
  rcases p4 with ⟨b4, rfl⟩ | ⟨b4, rfl⟩
  · refine x_if_ne (t := 20) (q := 10) dX10_meant_7 (by decide) rfl (fun c7 => ?_) (fun c7 => absurd c7 (by decide))
    refine x_bipush (v := -3) (q := 22) dX10_meant_20 rfl (by decide) ?_
    refine x_iret dX10_meant_22 rfl rfl (Nat.le_refl _) ?_
    refine ⟨rfl, ?_⟩
    unfold kMeant
    rw [if_neg (show ¬ inB a 64 = true by rw [outB (k := 63) (by decide) b4]; decide)]
  · refine x_if_ne (t := 20) (q := 10) dX10_meant_7 (by decide) rfl (fun c7 => absurd c7 (by decide)) (fun c7 => ?_)
    refine x_iload_n (q := 11) dX10_meant_10 rfl rfl ?_
    refine x_iconst (v := 0) (q := 12) dX10_meant_11 rfl (by decide) ?_
    refine x_bipush (v := 6) (q := 14) dX10_meant_12 rfl (by decide) ?_
    refine x_callS (q := 17) c_isOutside eX10_meant_94 gX10_meant_X10_isOutside rfl (Nat.le_of_ble_eq_true rfl) ⟨Nat.le_refl _, Nat.le_refl _⟩ dX10_meant_14 rfl rfl (fun r14 M14 p14 => ?_)
    obtain ⟨rfl, p14⟩ := p14
    rcases p14 with ⟨b14, rfl⟩ | ⟨b14, rfl⟩
    · refine x_if_eq (t := 23) (q := 20) dX10_meant_17 (by decide) rfl (fun c17 => absurd c17 (by decide)) (fun c17 => ?_)
      refine x_bipush (v := -3) (q := 22) dX10_meant_20 rfl (by decide) ?_
      refine x_iret dX10_meant_22 rfl rfl (Nat.le_refl _) ?_
      refine ⟨rfl, ?_⟩
      unfold kMeant
      rw [if_pos (outT (k := 63) (by decide) b4), if_neg (show ¬ inB b 7 = true by rw [outB (k := 6) (by decide) b14]; decide)]
    · refine x_if_eq (t := 23) (q := 20) dX10_meant_17 (by decide) rfl (fun c17 => ?_) (fun c17 => absurd c17 (by decide))
      refine x_aload_n (q := 24) dX10_meant_23 rfl rfl ?_
      refine x_getf (C := RX10) (T := TX10) (N := 12) (k := 9) (q := 27) hX (by omega) rfl hiX10 (by decide) (by decide +kernel) rfl dX10_meant_24 rfl ?_
      refine x_iload_n (q := 28) dX10_meant_27 rfl rfl ?_
      refine x_iload_n (q := 29) dX10_meant_28 rfl rfl ?_
      refine x_callV (q := 32) (ci := 9) (c_Word_within (p := 93) (by omega) hWo hB hB0) eX10_meant_280 gX10_meant_X9_within hWo.1 (by omega) rfl rfl rfl (Nat.le_of_ble_eq_true rfl) ⟨Nat.le_refl _, Nat.le_refl _⟩ dX10_meant_29 rfl rfl (fun r29 M29 p29 => ?_)
      obtain ⟨rfl, rfl⟩ := p29
      refine x_iret dX10_meant_32 rfl rfl (Nat.le_refl _) ?_
      refine ⟨rfl, ?_⟩
      unfold kMeant
      rw [if_pos (outT (k := 63) (by decide) b4), if_pos (outT (k := 6) (by decide) b14)]

set_option maxHeartbeats 4000000 in
set_option maxRecDepth 100000 in
theorem c_bears {n : Nat} {M : Nat → xE} {kb : Int32} (hn : 98 < n) (hX : oX10 kb M) {tw : Nat → Nat → Int32} (hWo : oX9 93 tw M) {B : Nat} (hB : B ≤ 6) (hB0 : tw 0 0 = nI B) : xMet mX10_bears [.ref 0] n M (fun r M' => M = M' ∧ some (.int (kBears tw B)) = r) := by
  have hWo0 := hWo
  obtain ⟨wp0, wp1⟩ := hWo
  rw [hB0] at wp0
  have hiX10 : ∀ w ∈ wsX100, w ∈ wsX10_bears := by decide +kernel
  have hiX9 : ∀ w ∈ wsX90, w ∈ wsX10_bears := by decide +kernel
  refine xMet.of _ (by decide) rfl (Nat.le_of_ble_eq_true rfl) ?_
  refine x_aload_n (q := 1) dX10_bears_0 rfl rfl ?_
  refine x_getf (C := RX10) (T := TX10) (N := 12) (k := 9) (q := 4) hX (by omega) rfl hiX10 (by decide) (by decide +kernel) rfl dX10_bears_1 rfl ?_
  refine x_getf (C := RX9) (T := TX9) (N := 2) (k := 0) (q := 7) wp0 (by omega) rfl hiX9 (by decide) (by decide +kernel) rfl dX10_bears_4 rfl ?_
  refine x_if_ne (t := 14) (q := 10) dX10_bears_7 (by decide) rfl (fun c7 => ?_) (fun c7 => ?_)
  · refine x_aload_n (q := 15) dX10_bears_14 rfl rfl ?_
    refine x_getf (C := RX10) (T := TX10) (N := 12) (k := 9) (q := 18) hX (by omega) rfl hiX10 (by decide) (by decide +kernel) rfl dX10_bears_15 rfl ?_
    refine x_callV (q := 21) (ci := 9) (c_Word_alter (p := 93) (by omega) hWo0 hB hB0) eX10_bears_284 gX10_bears_X9_alterings wp0 (by omega) rfl rfl rfl (Nat.le_of_ble_eq_true rfl) ⟨Nat.le_refl _, Nat.le_refl _⟩ dX10_bears_18 rfl rfl (fun r18 M18 p18 => ?_)
    obtain ⟨rfl, rfl⟩ := p18
    refine x_iret dX10_bears_21 rfl rfl (Nat.le_refl _) ?_
    refine ⟨rfl, ?_⟩
    unfold kBears
    first
      | rw [if_pos ((nI_eq (by omega) (by decide)).mp (show nI B = nI 0 from c7))]
      | rw [if_neg (fun h => c7 (by rw [h]; rfl))]
  · refine x_iconst (v := -1) (q := 11) dX10_bears_10 rfl (by decide) ?_
    refine x_goto (q := 21) dX10_bears_11 (by decide) ?_
    refine x_iret dX10_bears_21 rfl rfl (Nat.le_refl _) ?_
    refine ⟨rfl, ?_⟩
    unfold kBears
    first
      | rw [if_pos ((nI_eq (by omega) (by decide)).mp (show nI B = nI 0 from c7))]
      | rw [if_neg (fun h => c7 (by rw [h]; rfl))]

set_option maxHeartbeats 4000000 in
set_option maxRecDepth 100000 in
theorem c_wording {n : Nat} {M : Nat → xE} {kb : Int32} (hn : 98 < n) (hX : oX10 kb M) {tw : Nat → Nat → Int32} (hWo : oX9 93 tw M) {B : Nat} (hB : B ≤ 6) (hB0 : tw 0 0 = nI B) {a : Int32} : xMet mX10_wording [.ref 0, .int a] n M (fun r M' => if inB a 64 = true then (if bset (fun k => decide (jBit (tw 1 k ^^^ a) ≤ 0)) B = 0 then (if B < 6 then (some (.int (nI (B + 1))) = r ∧ oX9 93 (wAdd tw B a) M' ∧ xfr 93 95 M M') else (M = M' ∧ some (.int (-5)) = r)) else (M = M' ∧ some (.int (-4)) = r)) else (M = M' ∧ some (.int (-3)) = r)) := by
  have hiX10 : ∀ w ∈ wsX100, w ∈ wsX10_wording := by decide +kernel
  have hiX9 : ∀ w ∈ wsX90, w ∈ wsX10_wording := by decide +kernel
  refine xMet.of _ (by decide) rfl (Nat.le_of_ble_eq_true rfl) ?_
  refine x_iload_n (q := 1) dX10_wording_0 rfl rfl ?_
  refine x_iconst (v := 0) (q := 2) dX10_wording_1 rfl (by decide) ?_
  refine x_bipush (v := 63) (q := 4) dX10_wording_2 rfl (by decide) ?_
  refine x_callS (q := 7) c_isOutside eX10_wording_94 gX10_wording_X10_isOutside rfl (Nat.le_of_ble_eq_true rfl) ⟨Nat.le_refl _, Nat.le_refl _⟩ dX10_wording_4 rfl rfl (fun r4 M4 p4 => ?_)
  obtain ⟨rfl, p4⟩ := p4
  rcases p4 with ⟨b4, rfl⟩ | ⟨b4, rfl⟩
  · refine x_if_eq (t := 13) (q := 10) dX10_wording_7 (by decide) rfl (fun c7 => absurd c7 (by decide)) (fun c7 => ?_)
    refine x_bipush (v := -3) (q := 12) dX10_wording_10 rfl (by decide) ?_
    refine x_iret dX10_wording_12 rfl rfl (Nat.le_refl _) ?_
    rw [if_neg (show ¬ inB a 64 = true by rw [outB (k := 63) (by decide) b4]; decide)]
    exact ⟨rfl, rfl⟩
  · refine x_if_eq (t := 13) (q := 10) dX10_wording_7 (by decide) rfl (fun c7 => ?_) (fun c7 => absurd c7 (by decide))
    refine x_aload_n (q := 14) dX10_wording_13 rfl rfl ?_
    refine x_getf (C := RX10) (T := TX10) (N := 12) (k := 9) (q := 17) hX (by omega) rfl hiX10 (by decide) (by decide +kernel) rfl dX10_wording_14 rfl ?_
    refine x_iload_n (q := 18) dX10_wording_17 rfl rfl ?_
    refine x_iconst (v := 0) (q := 19) dX10_wording_18 rfl (by decide) ?_
    refine x_callV (q := 22) (ci := 9) (c_Word_within (p := 93) (by omega) hWo hB hB0) eX10_wording_280 gX10_wording_X9_within hWo.1 (by omega) rfl rfl rfl (Nat.le_of_ble_eq_true rfl) ⟨Nat.le_refl _, Nat.le_refl _⟩ dX10_wording_19 rfl rfl (fun r19 M19 p19 => ?_)
    obtain ⟨rfl, rfl⟩ := p19
    refine x_if_eq (t := 28) (q := 25) dX10_wording_22 (by decide) rfl (fun c22 => ?_) (fun c22 => ?_)
    · refine x_aload_n (q := 29) dX10_wording_28 rfl rfl ?_
      refine x_getf (C := RX10) (T := TX10) (N := 12) (k := 9) (q := 32) hX (by omega) rfl hiX10 (by decide) (by decide +kernel) rfl dX10_wording_29 rfl ?_
      refine x_iload_n (q := 33) dX10_wording_32 rfl rfl ?_
      refine x_callV (q := 36) (ci := 9) (c_Word_add (p := 93) (by omega) hWo (by rw [hB0]; exact vp_in_nI (by omega) (by decide))) eX10_wording_283 gX10_wording_X9_add hWo.1 (by omega) rfl rfl rfl (Nat.le_of_ble_eq_true rfl) ⟨Nat.le_refl _, Nat.le_refl _⟩ dX10_wording_33 rfl rfl (fun r33 M33 p33 => ?_)
      rcases p33 with ⟨d33, rfl, hU33, fr33⟩ | ⟨d33, rfl, rfl⟩
      · have hb6 : B < 6 := by rw [hB0, xin (by decide)] at d33; exact (nI_ltI (b := 6) (by omega) (by decide)).mp (xlt_nle.mp d33.2)
        refine x_if_eq (t := 49) (q := 39) dX10_wording_36 (by decide) rfl (fun c36 => absurd c36 (by decide)) (fun c36 => ?_)
        refine x_aload_n (q := 40) dX10_wording_39 rfl rfl ?_
        have hv1_1_0 := ((fr33 (0) (by omega)).trans hX)
        refine x_getf (C := RX10) (T := TX10) (N := 12) (k := 9) (q := 43) hv1_1_0 (by omega) rfl hiX10 (by decide) (by decide +kernel) rfl dX10_wording_40 rfl ?_
        refine x_getf (C := RX9) (T := TX9) (N := 2) (k := 0) (q := 46) hU33.1 (by omega) rfl hiX9 (by decide) (by decide +kernel) rfl dX10_wording_43 rfl ?_
        refine x_goto (q := 51) dX10_wording_46 (by decide) ?_
        refine x_iret dX10_wording_51 rfl rfl (Nat.le_refl _) ?_
        rw [if_pos (outT (k := 63) (by decide) b4), if_pos c22, if_pos hb6]
        exact ⟨by rw [hB0]; exact congrArg (fun x => some (Value.int x)) (nI_1 B).symm, ⟨by rw [hU33.1, hB0, nI_1]; rfl, by rw [hU33.2, hB0, nI_clamp (by omega)]; rfl⟩, fr33⟩
      · have hb6 : ¬ B < 6 := fun h => d33 (by rw [hB0]; exact vp_in_nI h (by decide))
        refine x_if_eq (t := 49) (q := 39) dX10_wording_36 (by decide) rfl (fun c36 => ?_) (fun c36 => absurd c36 (by decide))
        refine x_bipush (v := -5) (q := 51) dX10_wording_49 rfl (by decide) ?_
        refine x_iret dX10_wording_51 rfl rfl (Nat.le_refl _) ?_
        rw [if_pos (outT (k := 63) (by decide) b4), if_pos c22, if_neg hb6]
        exact ⟨rfl, rfl⟩
    · refine x_bipush (v := -4) (q := 27) dX10_wording_25 rfl (by decide) ?_
      refine x_iret dX10_wording_27 rfl rfl (Nat.le_refl _) ?_
      rw [if_pos (outT (k := 63) (by decide) b4), if_neg c22]
      exact ⟨rfl, rfl⟩

