set_option maxHeartbeats 4000000 in
set_option maxRecDepth 100000 in
theorem l_Bal_firsts {n p B : Nat} {t : Nat → Nat → Int32} {Q : Option Value → (Nat → xE) → Prop} {M0 : Nat → xE} (hp : p + 3 < n) (hB : B ≤ 9) (h0 : t 0 0 = nI B) (hs : ∀ b, b < B → vp_in (t 1 (5 * b)) 5) (hQ : ∀ M, oX0 p (fun k => if k = 3 then vC (t 1) B else t k) M → xfr p (p + 4) M0 M → Q none M) : ∀ (k i : Nat) (M : Nat → xE), i + k = B → (oX0 p (fun k => if k = 3 then vC (t 1) i else t k) M) → (xfr p (p + 4) M0 M) → X mX0_countFirsts 0 0 10 [(1, .int (nI i)), (0, .ref p)] [] n M (Q) := by
  have hiX0 : ∀ w ∈ wsX00, w ∈ wsX0_countFirsts := by decide +kernel
  intro k
  induction k with
  | zero =>
    intro i M hik hT hf
    have hT0 := hT
    obtain ⟨tp0, tp1, tp2, tp3⟩ := hT
    have tp0 : M p = .inr (0, [.int (nI B), .ref (p + 1), .ref (p + 2), .ref (p + 3)]) := by rw [tp0, ← h0]; rfl
    refine x_iload_n (q := 11) dX0_countFirsts_10 rfl rfl ?_
    refine x_aload_n (q := 12) dX0_countFirsts_11 rfl rfl ?_
    refine x_getf (C := RX0) (T := TX0) (N := 4) (k := 0) (q := 15) tp0 (by omega) rfl hiX0 (by decide) (by decide +kernel) rfl dX0_countFirsts_12 rfl ?_
    refine x_icmp_ge (t := 39) (q := 18) dX0_countFirsts_15 (by decide) rfl (fun c15 => ?_) (fun c15 => absurd (by rw [show i = B by omega]; exact nI_le (Nat.le_refl _) (by omega)) c15)
    refine x_vret dX0_countFirsts_39 rfl rfl (Nat.le_refl _) ?_
    have e9 : i = B := by omega
    subst e9
    exact hQ M hT0 hf
  | succ k ih =>
    intro i M hik hT hf
    have hT0 := hT
    obtain ⟨tp0, tp1, tp2, tp3⟩ := hT
    have tp0 : M p = .inr (0, [.int (nI B), .ref (p + 1), .ref (p + 2), .ref (p + 3)]) := by rw [tp0, ← h0]; rfl
    refine x_iload_n (q := 11) dX0_countFirsts_10 rfl rfl ?_
    refine x_aload_n (q := 12) dX0_countFirsts_11 rfl rfl ?_
    refine x_getf (C := RX0) (T := TX0) (N := 4) (k := 0) (q := 15) tp0 (by omega) rfl hiX0 (by decide) (by decide +kernel) rfl dX0_countFirsts_12 rfl ?_
    refine x_icmp_ge (t := 39) (q := 18) dX0_countFirsts_15 (by decide) rfl (fun c15 => absurd c15 (nI_ge (by omega) (by omega))) (fun c15 => ?_)
    refine x_aload_n (q := 19) dX0_countFirsts_18 rfl rfl ?_
    refine x_getf (C := RX0) (T := TX0) (N := 4) (k := 3) (q := 22) tp0 (by omega) rfl hiX0 (by decide) (by decide +kernel) rfl dX0_countFirsts_19 rfl ?_
    refine x_aload_n (q := 23) dX0_countFirsts_22 rfl rfl ?_
    refine x_iload_n (q := 24) dX0_countFirsts_23 rfl rfl ?_
    refine x_iconst (v := 0) (q := 25) dX0_countFirsts_24 rfl (by decide) ?_
    refine x_callV (q := 28) (ci := 0) (c_Bal_stand (t := (fun k => if k = 3 then vC (t 1) i else t k)) (B := i) (j := 0) hp hT0 (by omega) (by decide)) eX0_countFirsts_37 gX0_countFirsts_X0_standing tp0 (by omega) rfl rfl rfl (Nat.le_of_ble_eq_true rfl) ⟨Nat.le_refl _, Nat.le_refl _⟩ dX0_countFirsts_25 rfl rfl (fun r25 M25 p25 => ?_)
    obtain ⟨rfl, rfl⟩ := p25
    refine x_dup2 (q := 29) dX0_countFirsts_28 rfl rfl rfl ?_
    refine x_iald (q := 30) tp3 (by omega) (hs i (by omega)) dX0_countFirsts_29 rfl ?_
    refine x_iconst (v := 1) (q := 31) dX0_countFirsts_30 rfl (by decide) ?_
    refine x_iadd (q := 32) dX0_countFirsts_31 rfl ?_
    refine x_iast (q := 33) tp3 (by omega) (hs i (by omega)) dX0_countFirsts_32 rfl (fun M32 w32 o32 => ?_)
    refine x_iinc (L' := fun x1_33 => [(1, .int x1_33), (0, .ref p)]) (q := 36) dX0_countFirsts_33 rfl rfl (by decide) (fun _ => rfl) (fun x1_33 ex1_33 => ?_)
    refine x_goto (q := 10) dX0_countFirsts_36 (by decide) ?_
    rw [ex1_33, show nI i + Int32.ofInt 1 = nI (i + 1) from nI_1 i]
    have hs0 := hs i (by omega)
    refine x_loc (L' := [(1, .int (nI (i + 1))), (0, .ref p)]) (fun x hx => by simp only [List.mem_cons] at hx ⊢; rcases hx with h | h | h <;> simp_all) ?_
    exact ih (i + 1) M32 (by omega) ⟨(o32 _ (by omega)).trans (tp0.trans (by rw [← h0]; rfl)), (o32 _ (by omega)).trans tp1, (o32 _ (by omega)).trans tp2, w32⟩ (fun j hj => (o32 j (by omega)).trans (hf j hj))

set_option maxHeartbeats 4000000 in
set_option maxRecDepth 100000 in
theorem c_Bal_firsts {n : Nat} {M : Nat → xE} {p : Nat} {t : Nat → Nat → Int32} (hp : p + 3 < n) (hT : oX0 p t M) {B : Nat} (hB : B ≤ 9) (h0 : t 0 0 = nI B) (hs : ∀ b, b < B → vp_in (t 1 (5 * b)) 5) : xMet mX0_countFirsts [.ref p] n M (fun r M' => none = r ∧ oX0 p (fun k => if k = 3 then vC (t 1) B else t k) M' ∧ xfr p (p + 4) M M') := by
  obtain ⟨tp0, tp1, tp2, tp3⟩ := hT
  have hiX0 : ∀ w ∈ wsX00, w ∈ wsX0_countFirsts := by decide +kernel
  refine xMet.of _ (by decide) rfl (Nat.le_of_ble_eq_true rfl) ?_
  refine x_aload_n (q := 1) dX0_countFirsts_0 rfl rfl ?_
  refine x_getf (C := RX0) (T := TX0) (N := 4) (k := 3) (q := 4) tp0 (by omega) rfl hiX0 (by decide) (by decide +kernel) rfl dX0_countFirsts_1 rfl ?_
  refine x_iconst (v := 0) (q := 5) dX0_countFirsts_4 rfl (by decide) ?_
  refine x_callS (q := 8) (c_fillI (by omega) (by decide) tp3) eX0_countFirsts_31 gX0_countFirsts_J7_fill_53178 rfl (Nat.le_of_ble_eq_true rfl) ⟨Nat.le_refl _, Nat.le_refl _⟩ dX0_countFirsts_5 rfl rfl (fun r5 M5 p5 => ?_)
  obtain ⟨rfl, w5, o5⟩ := p5
  refine x_iconst (v := 0) (q := 9) dX0_countFirsts_8 rfl (by decide) ?_
  refine x_istore_n (L' := fun x1_9 => [(1, .int x1_9), (0, .ref p)]) (q := 10) dX0_countFirsts_9 rfl (by decide) (fun _ => rfl) (fun x1_9 ex1_9 => ?_)
  subst ex1_9
  exact l_Bal_firsts hp hB h0 hs (fun M h1 h2 => ⟨rfl, h1, h2⟩) B 0 M5 (by omega) ⟨(o5 _ (by omega)).trans tp0, (o5 _ (by omega)).trans tp1, (o5 _ (by omega)).trans tp2, w5⟩ (fun j hj => o5 j (by omega))

set_option maxHeartbeats 4000000 in
set_option maxRecDepth 100000 in
theorem l_Bal_least {n p P : Nat} {t : Nat → Nat → Int32} {Q : Option Value → (Nat → xE) → Prop} (hp : p + 3 < n) (hP : P ≤ 5) : ∀ (k i : Nat) (M : Nat → xE), i + k = P - 1 → (oX0 p t M) → (Q (some (.int (nI (lom (t 3) P)))) M) → X mX0_leastOfMost 0 0 4 [(3, .int (nI (i + 1))), (2, .int (nI (lom (t 3) (i + 1)))), (0, .ref p), (1, .int (nI P))] [] n M (Q) := by
  have hiX0 : ∀ w ∈ wsX00, w ∈ wsX0_leastOfMost := by decide +kernel
  intro k
  induction k with
  | zero =>
    intro i M hik hT hQ
    have hT0 := hT
    obtain ⟨tp0, tp1, tp2, tp3⟩ := hT
    refine x_iload_n (q := 5) dX0_leastOfMost_4 rfl rfl ?_
    refine x_iload_n (q := 6) dX0_leastOfMost_5 rfl rfl ?_
    refine x_icmp_ge (t := 32) (q := 9) dX0_leastOfMost_6 (by decide) rfl (fun c6 => ?_) (fun c6 => absurd (nI_le (show P ≤ i + 1 by omega) (by omega)) c6)
    refine x_iload_n (q := 33) dX0_leastOfMost_32 rfl rfl ?_
    refine x_iret dX0_leastOfMost_33 rfl rfl (Nat.le_refl _) ?_
    have e9 : lom (t 3) (i + 1) = lom (t 3) P := by
      rcases (show P = 0 ∨ P = i + 1 by omega) with h | h
      · rw [h, show i = 0 by omega]
        show (if 0 < 0 ∧ t 3 (lom (t 3) 0) < t 3 0 then 0 else lom (t 3) 0) = lom (t 3) 0
        rw [if_neg (by omega)]
      · rw [h]
    rw [e9]
    exact hQ
  | succ k ih =>
    intro i M hik hT hQ
    have hT0 := hT
    obtain ⟨tp0, tp1, tp2, tp3⟩ := hT
    refine x_iload_n (q := 5) dX0_leastOfMost_4 rfl rfl ?_
    refine x_iload_n (q := 6) dX0_leastOfMost_5 rfl rfl ?_
    refine x_icmp_ge (t := 32) (q := 9) dX0_leastOfMost_6 (by decide) rfl (fun c6 => absurd c6 (nI_ge (by omega) (by omega))) (fun c6 => ?_)
    refine x_aload_n (q := 10) dX0_leastOfMost_9 rfl rfl ?_
    refine x_getf (C := RX0) (T := TX0) (N := 4) (k := 3) (q := 13) tp0 (by omega) rfl hiX0 (by decide) (by decide +kernel) rfl dX0_leastOfMost_10 rfl ?_
    refine x_iload_n (q := 14) dX0_leastOfMost_13 rfl rfl ?_
    refine x_iald (q := 15) tp3 (by omega) (vp_in_nI (by omega) (by decide)) dX0_leastOfMost_14 rfl ?_
    refine x_aload_n (q := 16) dX0_leastOfMost_15 rfl rfl ?_
    refine x_getf (C := RX0) (T := TX0) (N := 4) (k := 3) (q := 19) tp0 (by omega) rfl hiX0 (by decide) (by decide +kernel) rfl dX0_leastOfMost_16 rfl ?_
    refine x_iload_n (q := 20) dX0_leastOfMost_19 rfl rfl ?_
    refine x_iald (q := 21) tp3 (by omega) (vp_in_nI (by have := lom_le (t 3) (i + 1); omega) (by decide)) dX0_leastOfMost_20 rfl ?_
    refine x_icmp_le (t := 26) (q := 24) dX0_leastOfMost_21 (by decide) rfl (fun c21 => ?_) (fun c21 => ?_)
    · refine x_iinc (L' := fun x3_26 => [(3, .int x3_26), (2, .int (nI (lom (t 3) (i + 1)))), (0, .ref p), (1, .int (nI P))]) (q := 29) dX0_leastOfMost_26 rfl rfl (by decide) (fun _ => rfl) (fun x3_26 ex3_26 => ?_)
      refine x_goto (q := 4) dX0_leastOfMost_29 (by decide) ?_
      rw [ex3_26, show nI (i + 1) + Int32.ofInt 1 = nI (i + 1 + 1) from nI_1 (i + 1)]
      rw [nIc (show i + 1 < 5 by omega) (by decide), nIc (show lom (t 3) (i + 1) < 5 by have := lom_le (t 3) (i + 1); omega) (by decide)] at c21
      have e9 : lom (t 3) (i + 1 + 1) = lom (t 3) (i + 1) := by
        rw [lom, if_neg (fun h => absurd h.2 (xle_nlt.mpr c21))]
      refine x_loc (L' := [(3, .int (nI (i + 1 + 1))), (2, .int (nI (lom (t 3) (i + 1 + 1)))), (0, .ref p), (1, .int (nI P))]) (fun x hx => by rw [e9] at hx; simp only [List.mem_cons] at hx ⊢; rcases hx with h | h | h | h | h <;> simp_all) ?_
      exact ih (i + 1) M (by omega) hT0 hQ
    · refine x_iload_n (q := 25) dX0_leastOfMost_24 rfl rfl ?_
      refine x_istore_n (L' := fun x2_25 => [(2, .int x2_25), (3, .int (nI (i + 1))), (0, .ref p), (1, .int (nI P))]) (q := 26) dX0_leastOfMost_25 rfl (by decide) (fun _ => rfl) (fun x2_25 ex2_25 => ?_)
      refine x_iinc (L' := fun x3_26 => [(3, .int x3_26), (2, .int x2_25), (0, .ref p), (1, .int (nI P))]) (q := 29) dX0_leastOfMost_26 rfl rfl (by decide) (fun _ => rfl) (fun x3_26 ex3_26 => ?_)
      refine x_goto (q := 4) dX0_leastOfMost_29 (by decide) ?_
      rw [ex3_26, show nI (i + 1) + Int32.ofInt 1 = nI (i + 1 + 1) from nI_1 (i + 1)]
      rw [nIc (show i + 1 < 5 by omega) (by decide), nIc (show lom (t 3) (i + 1) < 5 by have := lom_le (t 3) (i + 1); omega) (by decide)] at c21
      have e9 : lom (t 3) (i + 1 + 1) = i + 1 := by
        rw [lom, if_pos ⟨by omega, xlt_nle.mp c21⟩]
      refine x_loc (L' := [(3, .int (nI (i + 1 + 1))), (2, .int (nI (lom (t 3) (i + 1 + 1)))), (0, .ref p), (1, .int (nI P))]) (fun x hx => by rw [e9] at hx; simp only [List.mem_cons] at hx ⊢; rcases hx with h | h | h | h | h <;> simp_all) ?_
      exact ih (i + 1) M (by omega) hT0 hQ

set_option maxHeartbeats 4000000 in
set_option maxRecDepth 100000 in
theorem c_Bal_least {n : Nat} {M : Nat → xE} {p : Nat} {t : Nat → Nat → Int32} (hp : p + 3 < n) (hT : oX0 p t M) {P : Nat} (hP : P ≤ 5) : xMet mX0_leastOfMost [.ref p, .int (nI P)] n M (fun r M' => M = M' ∧ some (.int (nI (lom (t 3) P))) = r) := by
  refine xMet.of _ (by decide) rfl (Nat.le_of_ble_eq_true rfl) ?_
  refine x_iconst (v := 0) (q := 1) dX0_leastOfMost_0 rfl (by decide) ?_
  refine x_istore_n (L' := fun x2_1 => [(2, .int x2_1), (0, .ref p), (1, .int (nI P))]) (q := 2) dX0_leastOfMost_1 rfl (by decide) (fun _ => rfl) (fun x2_1 ex2_1 => ?_)
  refine x_iconst (v := 1) (q := 3) dX0_leastOfMost_2 rfl (by decide) ?_
  refine x_istore_n (L' := fun x3_3 => [(3, .int x3_3), (2, .int x2_1), (0, .ref p), (1, .int (nI P))]) (q := 4) dX0_leastOfMost_3 rfl (by decide) (fun _ => rfl) (fun x3_3 ex3_3 => ?_)
  subst ex2_1
  subst ex3_3
  exact l_Bal_least hp hP (P - 1) 0 M (by omega) hT ⟨rfl, rfl⟩

set_option maxHeartbeats 4000000 in
set_option maxRecDepth 100000 in
theorem c_Bal_mayor0 {n : Nat} {M : Nat → xE} {p : Nat} {t : Nat → Nat → Int32} (hp : p + 3 < n) (hT : oX0 p t M) {B P : Nat} (hP : P ≤ 5) (hB : B ≤ 9) (h0 : t 0 0 = nI B) (hs : ∀ b, b < B → vp_in (t 1 (5 * b)) 5) : xMet mX0_mayorByFirsts [.ref p, .int (nI P)] n M (fun r M' => some (.int (nI (lom (vC (t 1) B) P))) = r ∧ oX0 p (fun k => if k = 3 then vC (t 1) B else t k) M' ∧ xfr p (p + 4) M M') := by
  have hT0 := hT
  obtain ⟨tp0, tp1, tp2, tp3⟩ := hT
  refine xMet.of _ (by decide) rfl (Nat.le_of_ble_eq_true rfl) ?_
  refine x_aload_n (q := 1) dX0_mayorByFirsts_0 rfl rfl ?_
  refine x_callV (q := 4) (ci := 0) (c_Bal_firsts hp hT0 hB h0 hs) eX0_mayorByFirsts_41 gX0_mayorByFirsts_X0_countFirsts tp0 (by omega) rfl rfl rfl (Nat.le_of_ble_eq_true rfl) ⟨Nat.le_refl _, Nat.le_refl _⟩ dX0_mayorByFirsts_1 rfl rfl (fun r1 M1 p1 => ?_)
  obtain ⟨rfl, hT1, fr1⟩ := p1
  have hU1 := hT1
  obtain ⟨y1_0, y1_1, y1_2, y1_3⟩ := hT1
  refine x_aload_n (q := 5) dX0_mayorByFirsts_4 rfl rfl ?_
  refine x_iload_n (q := 6) dX0_mayorByFirsts_5 rfl rfl ?_
  refine x_callV (q := 9) (ci := 0) (c_Bal_least (t := (fun k => if k = 3 then vC (t 1) B else t k)) hp hU1 hP) eX0_mayorByFirsts_44 gX0_mayorByFirsts_X0_leastOfMost y1_0 (by omega) rfl rfl rfl (Nat.le_of_ble_eq_true rfl) ⟨Nat.le_refl _, Nat.le_refl _⟩ dX0_mayorByFirsts_6 rfl rfl (fun r6 M6 p6 => ?_)
  obtain ⟨rfl, rfl⟩ := p6
  refine x_iret dX0_mayorByFirsts_9 rfl rfl (Nat.le_refl _) ?_
  exact ⟨rfl, hU1, fr1⟩

set_option maxHeartbeats 4000000 in
set_option maxRecDepth 100000 in
theorem l_Bal_ptin {n p P B : Nat} {t : Nat → Nat → Int32} {a : Int32} {Q : Option Value → (Nat → xE) → Prop} (hp : p + 3 < n) (hP : P ≤ 5) (hB : B ≤ 9) (h0 : t 0 0 = nI B) {b : Nat} {c : Int32} (hb : b < B) : ∀ (k i : Nat) (M : Nat → xE), i + k = P → (oX0 p t M) → (X mX0_pointsOf 0 0 54 [(3, .int (ptIn (t 1) a P b c P)), (0, .ref p), (1, .int a), (2, .int (nI P)), (4, .int (nI b))] [] n M Q) → X mX0_pointsOf 0 0 17 [(5, .int (nI i)), (3, .int (ptIn (t 1) a P b c i)), (0, .ref p), (1, .int a), (2, .int (nI P)), (4, .int (nI b))] [] n M (Q) := by
  intro k
  induction k with
  | zero =>
    intro i M hik hT hk
    have hT0 := hT
    obtain ⟨tp0, tp1, tp2, tp3⟩ := hT
    refine x_iload (q := 19) dX0_pointsOf_17 rfl rfl ?_
    refine x_iload_n (q := 20) dX0_pointsOf_19 rfl rfl ?_
    refine x_icmp_ge (t := 54) (q := 23) dX0_pointsOf_20 (by decide) rfl (fun c20 => ?_) (fun c20 => absurd (by rw [show i = P by omega]; exact nI_le (Nat.le_refl _) (by omega)) c20)
    have e9 : i = P := by omega
    subst e9
    exact x_loc (L' := [(3, .int (ptIn (t 1) a i b c i)), (0, .ref p), (1, .int a), (2, .int (nI i)), (4, .int (nI b))]) (fun x hx => by simp only [List.mem_cons] at hx ⊢; rcases hx with h | h | h | h | h | h <;> simp_all) hk
  | succ k ih =>
    intro i M hik hT hk
    have hT0 := hT
    obtain ⟨tp0, tp1, tp2, tp3⟩ := hT
    refine x_iload (q := 19) dX0_pointsOf_17 rfl rfl ?_
    refine x_iload_n (q := 20) dX0_pointsOf_19 rfl rfl ?_
    refine x_icmp_ge (t := 54) (q := 23) dX0_pointsOf_20 (by decide) rfl (fun c20 => absurd c20 (nI_ge (by omega) (by omega))) (fun c20 => ?_)
    refine x_iload_n (q := 24) dX0_pointsOf_23 rfl rfl ?_
    refine x_aload_n (q := 25) dX0_pointsOf_24 rfl rfl ?_
    refine x_iload (q := 27) dX0_pointsOf_25 rfl rfl ?_
    refine x_iload (q := 29) dX0_pointsOf_27 rfl rfl ?_
    refine x_callV (q := 32) (ci := 0) (c_Bal_stand (B := b) (j := i) hp hT0 (by omega) (by omega)) eX0_pointsOf_37 gX0_pointsOf_X0_standing tp0 (by omega) rfl rfl rfl (Nat.le_of_ble_eq_true rfl) ⟨Nat.le_refl _, Nat.le_refl _⟩ dX0_pointsOf_29 rfl rfl (fun r29 M29 p29 => ?_)
    obtain ⟨rfl, rfl⟩ := p29
    refine x_iload_n (q := 33) dX0_pointsOf_32 rfl rfl ?_
    refine x_icmp_ne (t := 45) (q := 36) dX0_pointsOf_33 (by decide) rfl (fun c33 => ?_) (fun c33 => ?_)
    · refine x_iconst (v := 0) (q := 46) dX0_pointsOf_45 rfl (by decide) ?_
      refine x_iadd (q := 47) dX0_pointsOf_46 rfl ?_
      refine x_istore_n (L' := fun x3_47 => [(3, .int x3_47), (5, .int (nI i)), (0, .ref p), (1, .int a), (2, .int (nI P)), (4, .int (nI b))]) (q := 48) dX0_pointsOf_47 rfl (by decide) (fun _ => rfl) (fun x3_47 ex3_47 => ?_)
      refine x_iinc (L' := fun x5_48 => [(5, .int x5_48), (3, .int x3_47), (0, .ref p), (1, .int a), (2, .int (nI P)), (4, .int (nI b))]) (q := 51) dX0_pointsOf_48 rfl rfl (by decide) (fun _ => rfl) (fun x5_48 ex5_48 => ?_)
      refine x_goto (q := 17) dX0_pointsOf_51 (by decide) ?_
      rw [ex5_48, show nI i + Int32.ofInt 1 = nI (i + 1) from nI_1 i]
      have e9 : x3_47 = ptIn (t 1) a P b c (i + 1) := by
        rw [ptIn, ex3_47]; simp only [c33, if_true, if_false]
      refine x_loc (L' := [(5, .int (nI (i + 1))), (3, .int (ptIn (t 1) a P b c (i + 1))), (0, .ref p), (1, .int a), (2, .int (nI P)), (4, .int (nI b))]) (fun x hx => by simp only [List.mem_cons] at hx ⊢; rcases hx with h | h | h | h | h | h | h <;> simp_all) ?_
      exact ih (i + 1) M (by omega) hT0 hk
    · refine x_iload_n (q := 37) dX0_pointsOf_36 rfl rfl ?_
      refine x_iconst (v := 1) (q := 38) dX0_pointsOf_37 rfl (by decide) ?_
      refine x_isub (q := 39) dX0_pointsOf_38 rfl ?_
      refine x_iload (q := 41) dX0_pointsOf_39 rfl rfl ?_
      refine x_isub (q := 42) dX0_pointsOf_41 rfl ?_
      refine x_goto (q := 46) dX0_pointsOf_42 (by decide) ?_
      refine x_iadd (q := 47) dX0_pointsOf_46 rfl ?_
      refine x_istore_n (L' := fun x3_47 => [(3, .int x3_47), (5, .int (nI i)), (0, .ref p), (1, .int a), (2, .int (nI P)), (4, .int (nI b))]) (q := 48) dX0_pointsOf_47 rfl (by decide) (fun _ => rfl) (fun x3_47 ex3_47 => ?_)
      refine x_iinc (L' := fun x5_48 => [(5, .int x5_48), (3, .int x3_47), (0, .ref p), (1, .int a), (2, .int (nI P)), (4, .int (nI b))]) (q := 51) dX0_pointsOf_48 rfl rfl (by decide) (fun _ => rfl) (fun x5_48 ex5_48 => ?_)
      refine x_goto (q := 17) dX0_pointsOf_51 (by decide) ?_
      rw [ex5_48, show nI i + Int32.ofInt 1 = nI (i + 1) from nI_1 i]
      have e9 : x3_47 = ptIn (t 1) a P b c (i + 1) := by
        rw [ptIn, ex3_47]; simp only [c33, if_true, if_false]
      refine x_loc (L' := [(5, .int (nI (i + 1))), (3, .int (ptIn (t 1) a P b c (i + 1))), (0, .ref p), (1, .int a), (2, .int (nI P)), (4, .int (nI b))]) (fun x hx => by simp only [List.mem_cons] at hx ⊢; rcases hx with h | h | h | h | h | h | h <;> simp_all) ?_
      exact ih (i + 1) M (by omega) hT0 hk

set_option maxHeartbeats 4000000 in
set_option maxRecDepth 100000 in
theorem l_Bal_pts {n p P B : Nat} {t : Nat → Nat → Int32} {a : Int32} {Q : Option Value → (Nat → xE) → Prop} (hp : p + 3 < n) (hP : P ≤ 5) (hB : B ≤ 9) (h0 : t 0 0 = nI B) : ∀ (k i : Nat) (M : Nat → xE), i + k = B → (oX0 p t M) → (Q (some (.int (pts (t 1) a P B))) M) → X mX0_pointsOf 0 0 5 [(4, .int (nI i)), (3, .int (pts (t 1) a P i)), (0, .ref p), (1, .int a), (2, .int (nI P))] [] n M (Q) := by
  have hiX0 : ∀ w ∈ wsX00, w ∈ wsX0_pointsOf := by decide +kernel
  intro k
  induction k with
  | zero =>
    intro i M hik hT hQ
    have hT0 := hT
    obtain ⟨tp0, tp1, tp2, tp3⟩ := hT
    rw [h0] at tp0
    refine x_iload (q := 7) dX0_pointsOf_5 rfl rfl ?_
    refine x_aload_n (q := 8) dX0_pointsOf_7 rfl rfl ?_
    refine x_getf (C := RX0) (T := TX0) (N := 4) (k := 0) (q := 11) tp0 (by omega) rfl hiX0 (by decide) (by decide +kernel) rfl dX0_pointsOf_8 rfl ?_
    refine x_icmp_ge (t := 60) (q := 14) dX0_pointsOf_11 (by decide) rfl (fun c11 => ?_) (fun c11 => absurd (by rw [show i = B by omega]; exact nI_le (Nat.le_refl _) (by omega)) c11)
    refine x_iload_n (q := 61) dX0_pointsOf_60 rfl rfl ?_
    refine x_iret dX0_pointsOf_61 rfl rfl (Nat.le_refl _) ?_
    rw [show i = B by omega]
    exact hQ
  | succ k ih =>
    intro i M hik hT hQ
    have hT0 := hT
    obtain ⟨tp0, tp1, tp2, tp3⟩ := hT
    rw [h0] at tp0
    refine x_iload (q := 7) dX0_pointsOf_5 rfl rfl ?_
    refine x_aload_n (q := 8) dX0_pointsOf_7 rfl rfl ?_
    refine x_getf (C := RX0) (T := TX0) (N := 4) (k := 0) (q := 11) tp0 (by omega) rfl hiX0 (by decide) (by decide +kernel) rfl dX0_pointsOf_8 rfl ?_
    refine x_icmp_ge (t := 60) (q := 14) dX0_pointsOf_11 (by decide) rfl (fun c11 => absurd c11 (nI_ge (by omega) (by omega))) (fun c11 => ?_)
    refine x_iconst (v := 0) (q := 15) dX0_pointsOf_14 rfl (by decide) ?_
    refine x_istore (L' := fun x5_15 => [(5, .int x5_15), (4, .int (nI i)), (3, .int (pts (t 1) a P i)), (0, .ref p), (1, .int a), (2, .int (nI P))]) (q := 17) dX0_pointsOf_15 rfl (by decide) (fun _ => rfl) (fun x5_15 ex5_15 => ?_)
    subst ex5_15
    refine x_loc (L' := [(5, .int (nI 0)), (3, .int (ptIn (t 1) a P i (pts (t 1) a P i) 0)), (0, .ref p), (1, .int a), (2, .int (nI P)), (4, .int (nI i))]) (fun x hx => by simp only [List.mem_cons] at hx ⊢; rcases hx with h | h | h | h | h | h | h <;> simp_all [nI, ptIn]) ?_
    refine l_Bal_ptin hp hP hB h0 (show i < B by omega) P 0 M (by omega) hT0 ?_
    refine x_iinc (L' := fun x4_54 => [(4, .int x4_54), (3, .int (pts (t 1) a P (i + 1))), (0, .ref p), (1, .int a), (2, .int (nI P))]) (q := 57) dX0_pointsOf_54 rfl rfl (by decide) (fun _ => rfl) (fun x4_54 ex4_54 => ?_)
    refine x_goto (q := 5) dX0_pointsOf_57 (by decide) ?_
    rw [ex4_54, show nI i + Int32.ofInt 1 = nI (i + 1) from nI_1 i]
    
    refine x_loc (L' := [(4, .int (nI (i + 1))), (3, .int (pts (t 1) a P (i + 1))), (0, .ref p), (1, .int a), (2, .int (nI P))]) (fun x hx => by simp only [List.mem_cons] at hx ⊢; rcases hx with h | h | h | h | h | h <;> simp_all) ?_
    exact ih (i + 1) M (by omega) hT0 hQ
    

set_option maxHeartbeats 4000000 in
set_option maxRecDepth 100000 in
theorem c_Bal_pts {n : Nat} {M : Nat → xE} {p : Nat} {t : Nat → Nat → Int32} (hp : p + 3 < n) (hT : oX0 p t M) {B P : Nat} {a : Int32} (hP : P ≤ 5) (hB : B ≤ 9) (h0 : t 0 0 = nI B) : xMet mX0_pointsOf [.ref p, .int a, .int (nI P)] n M (fun r M' => M = M' ∧ some (.int (pts (t 1) a P B)) = r) := by
  refine xMet.of _ (by decide) rfl (Nat.le_of_ble_eq_true rfl) ?_
  refine x_iconst (v := 0) (q := 1) dX0_pointsOf_0 rfl (by decide) ?_
  refine x_istore_n (L' := fun x3_1 => [(3, .int x3_1), (0, .ref p), (1, .int a), (2, .int (nI P))]) (q := 2) dX0_pointsOf_1 rfl (by decide) (fun _ => rfl) (fun x3_1 ex3_1 => ?_)
  refine x_iconst (v := 0) (q := 3) dX0_pointsOf_2 rfl (by decide) ?_
  refine x_istore (L' := fun x4_3 => [(4, .int x4_3), (3, .int x3_1), (0, .ref p), (1, .int a), (2, .int (nI P))]) (q := 5) dX0_pointsOf_3 rfl (by decide) (fun _ => rfl) (fun x4_3 ex4_3 => ?_)
  subst ex3_1
  subst ex4_3
  exact l_Bal_pts hp hP hB h0 B 0 M (by omega) hT ⟨rfl, rfl⟩

def vPt (s : Nat → Int32) (P B : Nat) (h : Nat → Int32) (i : Nat) : Nat → Int32 := fun j => if j < i then pts s (nI j) P B else h j
theorem vPt_s (s : Nat → Int32) (P B : Nat) (h : Nat → Int32) (i : Nat) : upd (vPt s P B h i) i (pts s (nI i) P B) = vPt s P B h (i + 1) := by
  funext j
  unfold upd vPt
  by_cases e : j = i
  · subst e; simp
  · rw [if_neg e]
    by_cases h : j < i
    · rw [if_pos h, if_pos (by omega)]
    · rw [if_neg h, if_neg (by omega)]
theorem lom_cong {v w : Nat → Int32} : ∀ {k : Nat}, (∀ j, j < k → v j = w j) → lom v k = lom w k
  | 0, _ => rfl
  | k + 1, h => by
    have ih := lom_cong (v := v) (w := w) (k := k) (fun j hj => h j (by omega))
    rw [lom, lom, ih]
    by_cases hk : 0 < k
    · rw [h k (by omega), h (lom w k) (by have := lom_lt w k hk; omega)]
    · rw [if_neg (fun h => hk h.1), if_neg (fun h => hk h.1)]
set_option maxHeartbeats 4000000 in
set_option maxRecDepth 100000 in
theorem l_Bal_mayor1 {n p P B : Nat} {t : Nat → Nat → Int32} {Q : Option Value → (Nat → xE) → Prop} {M0 : Nat → xE} (hp : p + 3 < n) (hP : P ≤ 5) (hB : B ≤ 9) (h0 : t 0 0 = nI B) (hQ : ∀ M, oX0 p (fun k => if k = 3 then vPt (t 1) P B (t 3) P else t k) M → xfr p (p + 4) M0 M → Q (some (.int (nI (lom (vPt (t 1) P B (t 3) P) P)))) M) : ∀ (k i : Nat) (M : Nat → xE), i + k = P → (oX0 p (fun k => if k = 3 then vPt (t 1) P B (t 3) i else t k) M) → (xfr p (p + 4) M0 M) → X mX0_mayorByPoints 0 0 2 [(2, .int (nI i)), (0, .ref p), (1, .int (nI P))] [] n M (Q) := by
  have hiX0 : ∀ w ∈ wsX00, w ∈ wsX0_mayorByPoints := by decide +kernel
  intro k
  induction k with
  | zero =>
    intro i M hik hT hf
    have hT0 := hT
    obtain ⟨tp0, tp1, tp2, tp3⟩ := hT
    refine x_iload_n (q := 3) dX0_mayorByPoints_2 rfl rfl ?_
    refine x_iload_n (q := 4) dX0_mayorByPoints_3 rfl rfl ?_
    refine x_icmp_ge (t := 25) (q := 7) dX0_mayorByPoints_4 (by decide) rfl (fun c4 => ?_) (fun c4 => absurd (by rw [show i = P by omega]; exact nI_le (Nat.le_refl _) (by omega)) c4)
    have e9 : i = P := by omega
    subst e9
    refine x_aload_n (q := 26) dX0_mayorByPoints_25 rfl rfl ?_
    refine x_iload_n (q := 27) dX0_mayorByPoints_26 rfl rfl ?_
    refine x_callV (q := 30) (ci := 0) (c_Bal_least (t := (fun k => if k = 3 then vPt (t 1) i B (t 3) i else t k)) hp hT0 hP) eX0_mayorByPoints_44 gX0_mayorByPoints_X0_leastOfMost tp0 (by omega) rfl rfl rfl (Nat.le_of_ble_eq_true rfl) ⟨Nat.le_refl _, Nat.le_refl _⟩ dX0_mayorByPoints_27 rfl rfl (fun r27 M27 p27 => ?_)
    obtain ⟨rfl, rfl⟩ := p27
    refine x_iret dX0_mayorByPoints_30 rfl rfl (Nat.le_refl _) ?_
    exact hQ M hT0 hf
  | succ k ih =>
    intro i M hik hT hf
    have hT0 := hT
    obtain ⟨tp0, tp1, tp2, tp3⟩ := hT
    refine x_iload_n (q := 3) dX0_mayorByPoints_2 rfl rfl ?_
    refine x_iload_n (q := 4) dX0_mayorByPoints_3 rfl rfl ?_
    refine x_icmp_ge (t := 25) (q := 7) dX0_mayorByPoints_4 (by decide) rfl (fun c4 => absurd c4 (nI_ge (by omega) (by omega))) (fun c4 => ?_)
    refine x_aload_n (q := 8) dX0_mayorByPoints_7 rfl rfl ?_
    refine x_getf (C := RX0) (T := TX0) (N := 4) (k := 3) (q := 11) tp0 (by omega) rfl hiX0 (by decide) (by decide +kernel) rfl dX0_mayorByPoints_8 rfl ?_
    refine x_iload_n (q := 12) dX0_mayorByPoints_11 rfl rfl ?_
    refine x_aload_n (q := 13) dX0_mayorByPoints_12 rfl rfl ?_
    refine x_iload_n (q := 14) dX0_mayorByPoints_13 rfl rfl ?_
    refine x_iload_n (q := 15) dX0_mayorByPoints_14 rfl rfl ?_
    refine x_callV (q := 18) (ci := 0) (c_Bal_pts (t := (fun k => if k = 3 then vPt (t 1) P B (t 3) i else t k)) hp hT0 hP hB h0) eX0_mayorByPoints_48 gX0_mayorByPoints_X0_pointsOf tp0 (by omega) rfl rfl rfl (Nat.le_of_ble_eq_true rfl) ⟨Nat.le_refl _, Nat.le_refl _⟩ dX0_mayorByPoints_15 rfl rfl (fun r15 M15 p15 => ?_)
    obtain ⟨rfl, rfl⟩ := p15
    refine x_iast (q := 19) tp3 (by omega) (vp_in_nI (by omega) (by decide)) dX0_mayorByPoints_18 rfl (fun M18 w18 o18 => ?_)
    refine x_iinc (L' := fun x2_19 => [(2, .int x2_19), (0, .ref p), (1, .int (nI P))]) (q := 22) dX0_mayorByPoints_19 rfl rfl (by decide) (fun _ => rfl) (fun x2_19 ex2_19 => ?_)
    refine x_goto (q := 2) dX0_mayorByPoints_22 (by decide) ?_
    rw [ex2_19, show nI i + Int32.ofInt 1 = nI (i + 1) from nI_1 i]
    rw [nIc (show i < 5 by omega) (by decide)] at w18
    have w19 : M18 (p + 3) = .inl (0, 5, .inl (vPt (t 1) P B (t 3) (i + 1))) := by rw [w18, ← vPt_s]; rfl
    refine x_loc (L' := [(2, .int (nI (i + 1))), (0, .ref p), (1, .int (nI P))]) (fun x hx => by simp only [List.mem_cons] at hx ⊢; rcases hx with h | h | h | h <;> simp_all) ?_
    exact ih (i + 1) M18 (by omega) ⟨(o18 _ (by omega)).trans tp0, (o18 _ (by omega)).trans tp1, (o18 _ (by omega)).trans tp2, w19⟩ (fun j hj => (o18 j (by omega)).trans (hf j hj))

set_option maxHeartbeats 4000000 in
set_option maxRecDepth 100000 in
theorem c_Bal_mayor1 {n : Nat} {M : Nat → xE} {p : Nat} {t : Nat → Nat → Int32} (hp : p + 3 < n) (hT : oX0 p t M) {B P : Nat} (hP : P ≤ 5) (hB : B ≤ 9) (h0 : t 0 0 = nI B) : xMet mX0_mayorByPoints [.ref p, .int (nI P)] n M (fun r M' => some (.int (nI (lom (fun j => pts (t 1) (nI j) P B) P))) = r ∧ oX0 p (fun k => if k = 3 then vPt (t 1) P B (t 3) P else t k) M' ∧ xfr p (p + 4) M M') := by
  obtain ⟨tp0, tp1, tp2, tp3⟩ := hT
  refine xMet.of _ (by decide) rfl (Nat.le_of_ble_eq_true rfl) ?_
  refine x_iconst (v := 0) (q := 1) dX0_mayorByPoints_0 rfl (by decide) ?_
  refine x_istore_n (L' := fun x2_1 => [(2, .int x2_1), (0, .ref p), (1, .int (nI P))]) (q := 2) dX0_mayorByPoints_1 rfl (by decide) (fun _ => rfl) (fun x2_1 ex2_1 => ?_)
  subst ex2_1
  exact l_Bal_mayor1 hp hP hB h0 (fun M h1 h2 => ⟨by rw [lom_cong (fun j hj => show vPt (t 1) P B (t 3) P j = pts (t 1) (nI j) P B from if_pos hj)], h1, h2⟩) P 0 M (by omega) ⟨tp0, tp1, tp2, by rw [tp3]; congr 3⟩ (fun j _ => rfl)

