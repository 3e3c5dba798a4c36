set_option maxHeartbeats 4000000 in
set_option maxRecDepth 100000 in
theorem l_Ch_rin {n p r c B s : Nat} {ago : Int32} {t : Nat → Nat → Int32} {u : Nat → Nat → Int64} {h : Nat → Int64} {Q : Option Value → (Nat → xE) → Prop} {M0 : Nat → xE} (hr : r = p + 4 ∨ r = p + 5) (hp : p + 6 < n) (hB : B ≤ 6) (h0 : t 0 0 = nI B) (hs : s < B) (hk : ∀ M : Nat → xE, M r = .inl (1, 4, .inr (.inl (rIn t ago s h 4))) → (∀ j, j ≠ r → M j = M0 j) → X mX1_ruleOut 0 0 69 [(3, .int (nI s)), (0, .ref p), (1, .ref r), (2, .int ago)] [] n M Q) : ∀ (k i : Nat) (M : Nat → xE), i + k = 4 → (M p = .inr (1, [.int (nI B), .ref (p + 1), .ref (p + 2), .ref (p + 3), .ref (p + 4), .ref (p + 5), .ref (p + 6)])) → (M (p + 1) = .inl (0, 6, .inl (t 1))) → (M (p + 2) = .inl (0, 6, .inl (t 2))) → (M (p + 3) = .inl (0, 6, .inl (t 3))) → (M r = .inl (1, 4, .inr (.inl (rIn t ago s h i)))) → (∀ j, j ≠ r → M j = M0 j) → X mX1_ruleOut 0 0 13 [(4, .int (nI i)), (3, .int (nI s)), (0, .ref p), (1, .ref r), (2, .int ago)] [] n M (Q) := by
  have hiX1 : ∀ w ∈ wsX10, w ∈ wsX1_ruleOut := by decide +kernel
  intro k
  induction k with
  | zero =>
    intro i M hik hA h1 h2 h3 hR hf
    refine x_iload (q := 15) dX1_ruleOut_13 rfl rfl ?_
    refine x_iconst (v := 4) (q := 16) dX1_ruleOut_15 rfl (by decide) ?_
    refine x_icmp_ge (t := 69) (q := 19) dX1_ruleOut_16 (by decide) rfl (fun c16 => ?_) (fun c16 => absurd (by rw [show i = 4 by omega]; exact nI_le (Nat.le_refl _) (by omega)) c16)
    have e9 : i = 4 := by omega
    subst e9
    refine x_pick (L' := [(3, .int (nI s)), (0, .ref p), (1, .ref r), (2, .int ago)]) [1, 2, 3, 4] rfl ?_
    exact hk M hR hf
  | succ k ih =>
    intro i M hik hA h1 h2 h3 hR hf
    refine x_iload (q := 15) dX1_ruleOut_13 rfl rfl ?_
    refine x_iconst (v := 4) (q := 16) dX1_ruleOut_15 rfl (by decide) ?_
    refine x_icmp_ge (t := 69) (q := 19) dX1_ruleOut_16 (by decide) rfl (fun c16 => absurd c16 (nI_ge (a := i) (b := 4) (by omega) (by omega))) (fun c16 => ?_)
    refine x_iload (q := 21) dX1_ruleOut_19 rfl rfl ?_
    refine x_aload_n (q := 22) dX1_ruleOut_21 rfl rfl ?_
    refine x_getf (C := RX1) (T := TX1) (N := 7) (k := 1) (q := 25) hA (by omega) rfl hiX1 (by decide) (by decide +kernel) rfl dX1_ruleOut_22 rfl ?_
    refine x_iload_n (q := 26) dX1_ruleOut_25 rfl rfl ?_
    refine x_iald (q := 27) h1 (by omega) (vp_in_nI (show s < 6 by omega) (by decide)) dX1_ruleOut_26 rfl ?_
    refine x_icmp_ne (t := 34) (q := 30) dX1_ruleOut_27 (by decide) rfl (fun c27 => ?_) (fun c27 => ?_)
    · refine x_iconst (v := 0) (q := 35) dX1_ruleOut_34 rfl (by decide) ?_
      refine x_istore (L' := fun x5_35 => [(5, .int x5_35), (4, .int (nI i)), (3, .int (nI s)), (0, .ref p), (1, .ref r), (2, .int ago)]) (q := 37) dX1_ruleOut_35 rfl (by decide) (fun _ => rfl) (fun x5_35 ex5_35 => ?_)
      rw [show x5_35 = 0 from ex5_35]
      refine x_aload_n (q := 38) dX1_ruleOut_37 rfl rfl ?_
      refine x_getf (C := RX1) (T := TX1) (N := 7) (k := 2) (q := 41) hA (by omega) rfl hiX1 (by decide) (by decide +kernel) rfl dX1_ruleOut_38 rfl ?_
      refine x_iload_n (q := 42) dX1_ruleOut_41 rfl rfl ?_
      refine x_iald (q := 43) h2 (by omega) (vp_in_nI (show s < 6 by omega) (by decide)) dX1_ruleOut_42 rfl ?_
      refine x_iload_n (q := 44) dX1_ruleOut_43 rfl rfl ?_
      refine x_icmp_ne (t := 63) (q := 47) dX1_ruleOut_44 (by decide) rfl (fun c44 => ?_) (fun c44 => ?_)
      · refine x_iinc (L' := fun x4_63 => [(4, .int x4_63), (5, .int (0)), (3, .int (nI s)), (0, .ref p), (1, .ref r), (2, .int ago)]) (q := 66) dX1_ruleOut_63 rfl rfl (by decide) (fun _ => rfl) (fun x4_63 ex4_63 => ?_)
        obtain rfl : x4_63 = nI (i + 1) := ex4_63.trans (nI_1 i)
        refine x_goto (q := 13) dX1_ruleOut_66 (by decide) ?_
        rw [(nIc (show s < 6 by omega) (by decide))] at c27 c44
        have hb : rOfB t ago s i = false := by
          unfold rOfB
          rw [decide_eq_false c44, Bool.false_and]
        have hR2 : M r = .inl (1, 4, .inr (.inl (rIn t ago s h (i + 1)))) := by rw [hR, rIn, if_neg (by rw [hb]; decide)]
        refine x_pick (L' := [(4, .int (nI (i + 1))), (3, .int (nI s)), (0, .ref p), (1, .ref r), (2, .int ago)]) [0, 2, 3, 4, 5] rfl ?_
        exact ih (i + 1) M (by omega) (hA) (h1) (h2) (h3) hR2 hf
      · refine x_iload (q := 49) dX1_ruleOut_47 rfl rfl ?_
        refine x_aload_n (q := 50) dX1_ruleOut_49 rfl rfl ?_
        refine x_getf (C := RX1) (T := TX1) (N := 7) (k := 3) (q := 53) hA (by omega) rfl hiX1 (by decide) (by decide +kernel) rfl dX1_ruleOut_50 rfl ?_
        refine x_iload_n (q := 54) dX1_ruleOut_53 rfl rfl ?_
        refine x_iald (q := 55) h3 (by omega) (vp_in_nI (show s < 6 by omega) (by decide)) dX1_ruleOut_54 rfl ?_
        refine x_icmp_eq (t := 63) (q := 58) dX1_ruleOut_55 (by decide) rfl (fun c55 => ?_) (fun c55 => ?_)
        · refine x_iinc (L' := fun x4_63 => [(4, .int x4_63), (5, .int (0)), (3, .int (nI s)), (0, .ref p), (1, .ref r), (2, .int ago)]) (q := 66) dX1_ruleOut_63 rfl rfl (by decide) (fun _ => rfl) (fun x4_63 ex4_63 => ?_)
          obtain rfl : x4_63 = nI (i + 1) := ex4_63.trans (nI_1 i)
          refine x_goto (q := 13) dX1_ruleOut_66 (by decide) ?_
          rw [(nIc (show s < 6 by omega) (by decide))] at c27 c44 c55
          have hb : rOfB t ago s i = false := by
            unfold rOfB
            rw [if_neg c27, show decide (¬ (0 : Int32) = t 3 s) = false from decide_eq_false (fun h => h c55), Bool.and_false]
          have hR2 : M r = .inl (1, 4, .inr (.inl (rIn t ago s h (i + 1)))) := by rw [hR, rIn, if_neg (by rw [hb]; decide)]
          refine x_pick (L' := [(4, .int (nI (i + 1))), (3, .int (nI s)), (0, .ref p), (1, .ref r), (2, .int ago)]) [0, 2, 3, 4, 5] rfl ?_
          exact ih (i + 1) M (by omega) (hA) (h1) (h2) (h3) hR2 hf
        · refine x_aload_n (q := 59) dX1_ruleOut_58 rfl rfl ?_
          refine x_iload (q := 61) dX1_ruleOut_59 rfl rfl ?_
          refine x_lconst (v := 0) (q := 62) dX1_ruleOut_61 rfl (by decide) ?_
          refine x_last (q := 63) hR (by omega) (vp_in_nI (show i < 4 by omega) (by decide)) dX1_ruleOut_62 rfl (fun M62 w62 o62 => ?_)
          refine x_iinc (L' := fun x4_63 => [(4, .int x4_63), (5, .int (0)), (3, .int (nI s)), (0, .ref p), (1, .ref r), (2, .int ago)]) (q := 66) dX1_ruleOut_63 rfl rfl (by decide) (fun _ => rfl) (fun x4_63 ex4_63 => ?_)
          obtain rfl : x4_63 = nI (i + 1) := ex4_63.trans (nI_1 i)
          refine x_goto (q := 13) dX1_ruleOut_66 (by decide) ?_
          rw [(nIc (show s < 6 by omega) (by decide))] at c27 c44 c55
          have hb : rOfB t ago s i = true := by
            unfold rOfB
            rw [if_neg c27, decide_eq_true c44, decide_eq_true c55]; rfl
          rw [nIc (show i < 4 by omega) (by decide)] at w62
          have hR2 : M62 r = .inl (1, 4, .inr (.inl (rIn t ago s h (i + 1)))) := by rw [w62, rIn, if_pos hb]
          refine x_pick (L' := [(4, .int (nI (i + 1))), (3, .int (nI s)), (0, .ref p), (1, .ref r), (2, .int ago)]) [0, 2, 3, 4, 5] rfl ?_
          exact ih (i + 1) M62 (by omega) ((o62 _ (by omega)).trans hA) ((o62 _ (by omega)).trans h1) ((o62 _ (by omega)).trans h2) ((o62 _ (by omega)).trans h3) hR2 (fun j hj => (o62 j hj).trans (hf j hj))
    · refine x_iconst (v := 1) (q := 31) dX1_ruleOut_30 rfl (by decide) ?_
      refine x_goto (q := 35) dX1_ruleOut_31 (by decide) ?_
      refine x_istore (L' := fun x5_35 => [(5, .int x5_35), (4, .int (nI i)), (3, .int (nI s)), (0, .ref p), (1, .ref r), (2, .int ago)]) (q := 37) dX1_ruleOut_35 rfl (by decide) (fun _ => rfl) (fun x5_35 ex5_35 => ?_)
      rw [show x5_35 = 1 from ex5_35]
      refine x_aload_n (q := 38) dX1_ruleOut_37 rfl rfl ?_
      refine x_getf (C := RX1) (T := TX1) (N := 7) (k := 2) (q := 41) hA (by omega) rfl hiX1 (by decide) (by decide +kernel) rfl dX1_ruleOut_38 rfl ?_
      refine x_iload_n (q := 42) dX1_ruleOut_41 rfl rfl ?_
      refine x_iald (q := 43) h2 (by omega) (vp_in_nI (show s < 6 by omega) (by decide)) dX1_ruleOut_42 rfl ?_
      refine x_iload_n (q := 44) dX1_ruleOut_43 rfl rfl ?_
      refine x_icmp_ne (t := 63) (q := 47) dX1_ruleOut_44 (by decide) rfl (fun c44 => ?_) (fun c44 => ?_)
      · refine x_iinc (L' := fun x4_63 => [(4, .int x4_63), (5, .int (1)), (3, .int (nI s)), (0, .ref p), (1, .ref r), (2, .int ago)]) (q := 66) dX1_ruleOut_63 rfl rfl (by decide) (fun _ => rfl) (fun x4_63 ex4_63 => ?_)
        obtain rfl : x4_63 = nI (i + 1) := ex4_63.trans (nI_1 i)
        refine x_goto (q := 13) dX1_ruleOut_66 (by decide) ?_
        rw [(nIc (show s < 6 by omega) (by decide))] at c27 c44
        have hb : rOfB t ago s i = false := by
          unfold rOfB
          rw [decide_eq_false c44, Bool.false_and]
        have hR2 : M r = .inl (1, 4, .inr (.inl (rIn t ago s h (i + 1)))) := by rw [hR, rIn, if_neg (by rw [hb]; decide)]
        refine x_pick (L' := [(4, .int (nI (i + 1))), (3, .int (nI s)), (0, .ref p), (1, .ref r), (2, .int ago)]) [0, 2, 3, 4, 5] rfl ?_
        exact ih (i + 1) M (by omega) (hA) (h1) (h2) (h3) hR2 hf
      · refine x_iload (q := 49) dX1_ruleOut_47 rfl rfl ?_
        refine x_aload_n (q := 50) dX1_ruleOut_49 rfl rfl ?_
        refine x_getf (C := RX1) (T := TX1) (N := 7) (k := 3) (q := 53) hA (by omega) rfl hiX1 (by decide) (by decide +kernel) rfl dX1_ruleOut_50 rfl ?_
        refine x_iload_n (q := 54) dX1_ruleOut_53 rfl rfl ?_
        refine x_iald (q := 55) h3 (by omega) (vp_in_nI (show s < 6 by omega) (by decide)) dX1_ruleOut_54 rfl ?_
        refine x_icmp_eq (t := 63) (q := 58) dX1_ruleOut_55 (by decide) rfl (fun c55 => ?_) (fun c55 => ?_)
        · refine x_iinc (L' := fun x4_63 => [(4, .int x4_63), (5, .int (1)), (3, .int (nI s)), (0, .ref p), (1, .ref r), (2, .int ago)]) (q := 66) dX1_ruleOut_63 rfl rfl (by decide) (fun _ => rfl) (fun x4_63 ex4_63 => ?_)
          obtain rfl : x4_63 = nI (i + 1) := ex4_63.trans (nI_1 i)
          refine x_goto (q := 13) dX1_ruleOut_66 (by decide) ?_
          rw [(nIc (show s < 6 by omega) (by decide))] at c27 c44 c55
          have hb : rOfB t ago s i = false := by
            unfold rOfB
            rw [if_pos c27, show decide (¬ (1 : Int32) = t 3 s) = false from decide_eq_false (fun h => h c55), Bool.and_false]
          have hR2 : M r = .inl (1, 4, .inr (.inl (rIn t ago s h (i + 1)))) := by rw [hR, rIn, if_neg (by rw [hb]; decide)]
          refine x_pick (L' := [(4, .int (nI (i + 1))), (3, .int (nI s)), (0, .ref p), (1, .ref r), (2, .int ago)]) [0, 2, 3, 4, 5] rfl ?_
          exact ih (i + 1) M (by omega) (hA) (h1) (h2) (h3) hR2 hf
        · refine x_aload_n (q := 59) dX1_ruleOut_58 rfl rfl ?_
          refine x_iload (q := 61) dX1_ruleOut_59 rfl rfl ?_
          refine x_lconst (v := 0) (q := 62) dX1_ruleOut_61 rfl (by decide) ?_
          refine x_last (q := 63) hR (by omega) (vp_in_nI (show i < 4 by omega) (by decide)) dX1_ruleOut_62 rfl (fun M62 w62 o62 => ?_)
          refine x_iinc (L' := fun x4_63 => [(4, .int x4_63), (5, .int (1)), (3, .int (nI s)), (0, .ref p), (1, .ref r), (2, .int ago)]) (q := 66) dX1_ruleOut_63 rfl rfl (by decide) (fun _ => rfl) (fun x4_63 ex4_63 => ?_)
          obtain rfl : x4_63 = nI (i + 1) := ex4_63.trans (nI_1 i)
          refine x_goto (q := 13) dX1_ruleOut_66 (by decide) ?_
          rw [(nIc (show s < 6 by omega) (by decide))] at c27 c44 c55
          have hb : rOfB t ago s i = true := by
            unfold rOfB
            rw [if_pos c27, decide_eq_true c44, decide_eq_true c55]; rfl
          rw [nIc (show i < 4 by omega) (by decide)] at w62
          have hR2 : M62 r = .inl (1, 4, .inr (.inl (rIn t ago s h (i + 1)))) := by rw [w62, rIn, if_pos hb]
          refine x_pick (L' := [(4, .int (nI (i + 1))), (3, .int (nI s)), (0, .ref p), (1, .ref r), (2, .int ago)]) [0, 2, 3, 4, 5] rfl ?_
          exact ih (i + 1) M62 (by omega) ((o62 _ (by omega)).trans hA) ((o62 _ (by omega)).trans h1) ((o62 _ (by omega)).trans h2) ((o62 _ (by omega)).trans h3) hR2 (fun j hj => (o62 j hj).trans (hf j hj))

set_option maxHeartbeats 4000000 in
set_option maxRecDepth 100000 in
theorem l_Ch_rout {n p r B : Nat} {ago : Int32} {t : Nat → Nat → Int32} {h : Nat → Int64} {Q : Option Value → (Nat → xE) → Prop} {M0 : Nat → xE} (hr : r = p + 4 ∨ r = p + 5) (hp : p + 6 < n) (hB : B ≤ 6) (h0 : t 0 0 = nI B) (hQ : ∀ M : Nat → xE, M r = .inl (1, 4, .inr (.inl (rOut t ago h B))) → (∀ j, j ≠ r → M j = M0 j) → Q none M) : ∀ (k i : Nat) (M : Nat → xE), i + k = B → (M p = .inr (1, [.int (nI B), .ref (p + 1), .ref (p + 2), .ref (p + 3), .ref (p + 4), .ref (p + 5), .ref (p + 6)])) → (M (p + 1) = .inl (0, 6, .inl (t 1))) → (M (p + 2) = .inl (0, 6, .inl (t 2))) → (M (p + 3) = .inl (0, 6, .inl (t 3))) → (M r = .inl (1, 4, .inr (.inl (rOut t ago h i)))) → (∀ j, j ≠ r → M j = M0 j) → X mX1_ruleOut 0 0 2 [(3, .int (nI i)), (0, .ref p), (1, .ref r), (2, .int ago)] [] n M (Q) := by
  have hiX1 : ∀ w ∈ wsX10, w ∈ wsX1_ruleOut := by decide +kernel
  intro k
  induction k with
  | zero =>
    intro i M hik hA h1 h2 h3 hR hf
    refine x_iload_n (q := 3) dX1_ruleOut_2 rfl rfl ?_
    refine x_aload_n (q := 4) dX1_ruleOut_3 rfl rfl ?_
    refine x_getf (C := RX1) (T := TX1) (N := 7) (k := 0) (q := 7) hA (by omega) rfl hiX1 (by decide) (by decide +kernel) rfl dX1_ruleOut_4 rfl ?_
    refine x_icmp_ge (t := 75) (q := 10) dX1_ruleOut_7 (by decide) rfl (fun c7 => ?_) (fun c7 => absurd (by rw [show i = B by omega]; exact nI_le (Nat.le_refl _) (by omega)) c7)
    refine x_vret dX1_ruleOut_75 rfl rfl (Nat.le_refl _) ?_
    have e9 : i = B := by omega
    subst e9
    exact hQ M hR hf
  | succ k ih =>
    intro i M hik hA h1 h2 h3 hR hf
    refine x_iload_n (q := 3) dX1_ruleOut_2 rfl rfl ?_
    refine x_aload_n (q := 4) dX1_ruleOut_3 rfl rfl ?_
    refine x_getf (C := RX1) (T := TX1) (N := 7) (k := 0) (q := 7) hA (by omega) rfl hiX1 (by decide) (by decide +kernel) rfl dX1_ruleOut_4 rfl ?_
    refine x_icmp_ge (t := 75) (q := 10) dX1_ruleOut_7 (by decide) rfl (fun c7 => absurd c7 (nI_ge (a := i) (b := B) (by omega) (by omega))) (fun c7 => ?_)
    refine x_iconst (v := 0) (q := 11) dX1_ruleOut_10 rfl (by decide) ?_
    refine x_istore (L' := fun x4_11 => [(4, .int x4_11), (3, .int (nI i)), (0, .ref p), (1, .ref r), (2, .int ago)]) (q := 13) dX1_ruleOut_11 rfl (by decide) (fun _ => rfl) (fun x4_11 ex4_11 => ?_)
    subst ex4_11
    refine x_pick (L' := [(4, .int 0), (3, .int (nI i)), (0, .ref p), (1, .ref r), (2, .int ago)]) [0, 1, 2, 3, 4] rfl ?_
    refine l_Ch_rin (t := t) (h := rOut t ago h i) (M0 := M0) (c := 4) (u := fun _ _ => 0) hr hp hB h0 (show i < B by omega) (fun M9 g1 g2 => ?_) 4 0 M (by omega) hA h1 h2 h3 hR hf
    refine x_iinc (L' := fun x3_69 => [(3, .int x3_69), (0, .ref p), (1, .ref r), (2, .int ago)]) (q := 72) dX1_ruleOut_69 rfl rfl (by decide) (fun _ => rfl) (fun x3_69 ex3_69 => ?_)
    obtain rfl : x3_69 = nI (i + 1) := ex3_69.trans (nI_1 i)
    refine x_goto (q := 2) dX1_ruleOut_72 (by decide) ?_
    refine x_pick (L' := [(3, .int (nI (i + 1))), (0, .ref p), (1, .ref r), (2, .int ago)]) [0, 1, 2, 3] rfl ?_
    exact ih (i + 1) M9 (by omega) ((g2 _ (by omega)).trans ((hf _ (by omega)).symm.trans hA)) ((g2 _ (by omega)).trans ((hf _ (by omega)).symm.trans h1)) ((g2 _ (by omega)).trans ((hf _ (by omega)).symm.trans h2)) ((g2 _ (by omega)).trans ((hf _ (by omega)).symm.trans h3)) g1 g2
    

set_option maxHeartbeats 4000000 in
set_option maxRecDepth 100000 in
theorem c_Ch_rule {n : Nat} {M : Nat → xE} {p : Nat} {t : Nat → Nat → Int32} {u : Nat → Nat → Int64} (hp : p + 6 < n) (hT : oX1 p t u M) {r B : Nat} {ago : Int32} {h : Nat → Int64} (hr : r = p + 4 ∨ r = p + 5) (hB : B ≤ 6) (h0 : t 0 0 = nI B) (hR : M r = .inl (1, 4, .inr (.inl h))) : xMet mX1_ruleOut [.ref p, .ref r, .int ago] n M (fun r' M' => none = r' ∧ M' r = .inl (1, 4, .inr (.inl (rOut t ago h B))) ∧ ∀ j, j ≠ r → M' j = M j) := by
  obtain ⟨tp0, tp1, tp2, tp3, tp4, tp5, tp6⟩ := hT
  rw [h0] at tp0
  refine xMet.of _ (by decide) rfl (Nat.le_of_ble_eq_true rfl) ?_
  refine x_iconst (v := 0) (q := 1) dX1_ruleOut_0 rfl (by decide) ?_
  refine x_istore_n (L' := fun x3_1 => [(3, .int x3_1), (0, .ref p), (1, .ref r), (2, .int ago)]) (q := 2) dX1_ruleOut_1 rfl (by decide) (fun _ => rfl) (fun x3_1 ex3_1 => ?_)
  subst ex3_1
  exact l_Ch_rout (t := t) hr hp hB h0 (fun M h1 h2 => ⟨rfl, h1, h2⟩) B 0 M (by omega) tp0 tp1 tp2 tp3 hR (fun j _ => rfl)

def gIt (τ : Nat → Nat → Int32) (w : Nat → Int64) : Nat → Nat → Int64
  | 0 => w
  | k + 1 => gF τ (gIt τ w k) 4
def w1 (a : Nat) : Nat → Int64 := vp_updL (fun _ => 0) a 1
set_option maxHeartbeats 4000000 in
set_option maxRecDepth 100000 in
theorem l_Ch_ahead {n p q N : Nat} {a : Int32} {t τ : Nat → Nat → Int32} {w : Nat → Int64} {Q : Option Value → (Nat → xE) → Prop} {M0 : Nat → xE} (hpq : p + 7 ≤ q ∨ q + 11 ≤ p) (hp : p + 6 < n) (hq : q + 10 < n) (hN : N ≤ 9) (hw : ∀ k, k < 4 → vp_in (τ 13 k) 4) (hQ : ∀ M u, oX1 p t u M → u 4 = gIt τ w N → xfr p (p + 7) M0 M → Q none M) : ∀ (k i : Nat) (M : Nat → xE) (u : Nat → Nat → Int64), i + k = N → (oX1 p t u M) → (u 4 = gIt τ w i) → (oX8 q τ M) → (xfr p (p + 7) M0 M) → X mX1_lookAhead 0 0 18 [(4, .int (nI i)), (0, .ref p), (1, .ref q), (2, .int a), (3, .int (nI N))] [] n M (Q) := by
  intro k
  induction k with
  | zero =>
    intro i M u hik hT hu hS hf
    refine x_iload (q := 20) dX1_lookAhead_18 rfl rfl ?_
    refine x_iload_n (q := 21) dX1_lookAhead_20 rfl rfl ?_
    refine x_icmp_ge (t := 35) (q := 24) dX1_lookAhead_21 (by decide) rfl (fun c21 => ?_) (fun c21 => absurd (by rw [show i = N by omega]; exact nI_le (Nat.le_refl _) (by omega)) c21)
    refine x_vret dX1_lookAhead_35 rfl rfl (Nat.le_refl _) ?_
    have e9 : i = N := by omega
    subst e9
    exact hQ M u hT hu hf
  | succ k ih =>
    intro i M u hik hT hu hS hf
    refine x_iload (q := 20) dX1_lookAhead_18 rfl rfl ?_
    refine x_iload_n (q := 21) dX1_lookAhead_20 rfl rfl ?_
    refine x_icmp_ge (t := 35) (q := 24) dX1_lookAhead_21 (by decide) rfl (fun c21 => absurd c21 (nI_ge (a := i) (b := N) (by omega) (by omega))) (fun c21 => ?_)
    refine x_aload_n (q := 25) dX1_lookAhead_24 rfl rfl ?_
    refine x_aload_n (q := 26) dX1_lookAhead_25 rfl rfl ?_
    refine x_callV (q := 29) (ci := 1) (c_Ch_goOn (u := u) hpq hp hq hw hT hS) eX1_lookAhead_41 gX1_lookAhead_X1_goOn hT.1 (by omega) rfl rfl rfl (Nat.le_of_ble_eq_true rfl) ⟨Nat.le_refl _, Nat.le_refl _⟩ dX1_lookAhead_26 rfl rfl (fun r26 M26 p26 => ?_)
    obtain ⟨rfl, hU26, fr26⟩ := p26
    refine x_iinc (L' := fun x4_29 => [(4, .int x4_29), (0, .ref p), (1, .ref q), (2, .int a), (3, .int (nI N))]) (q := 32) dX1_lookAhead_29 rfl rfl (by decide) (fun _ => rfl) (fun x4_29 ex4_29 => ?_)
    obtain rfl : x4_29 = nI (i + 1) := ex4_29.trans (nI_1 i)
    refine x_goto (q := 18) dX1_lookAhead_32 (by decide) ?_
    refine x_pick (L' := [(4, .int (nI (i + 1))), (0, .ref p), (1, .ref q), (2, .int a), (3, .int (nI N))]) [0, 1, 2, 3, 4] rfl ?_
    exact ih (i + 1) M26 _ (by omega) hU26 (by rw [gIt, ← hu]; rfl) (hS.keep (fun j h1 h2 => fr26 j (by omega))) (fun j hj => (fr26 j hj).trans (hf j hj))

set_option maxHeartbeats 4000000 in
set_option maxRecDepth 100000 in
theorem c_Ch_ahead {n : Nat} {M : Nat → xE} {p q N : Nat} {a : Int32} {t τ : Nat → Nat → Int32} {u : Nat → Nat → Int64} (hpq : p + 7 ≤ q ∨ q + 11 ≤ p) (hp : p + 6 < n) (hq : q + 10 < n) (hN : N ≤ 9) (ha : vp_in a 4) (hw : ∀ k, k < 4 → vp_in (τ 13 k) 4) (hT : oX1 p t u M) (hS : oX8 q τ M) : xMet mX1_lookAhead [.ref p, .ref q, .int a, .int (nI N)] n M (fun r M' => none = r ∧ (∃ u', oX1 p t u' M' ∧ u' 4 = gIt τ (w1 a.toNatClampNeg) N) ∧ xfr p (p + 7) M M') := by
  obtain ⟨tp0, tp1, tp2, tp3, tp4, tp5, tp6⟩ := hT
  have hiX1 : ∀ w ∈ wsX10, w ∈ wsX1_lookAhead := by decide +kernel
  refine xMet.of _ (by decide) rfl (Nat.le_of_ble_eq_true rfl) ?_
  refine x_aload_n (q := 1) dX1_lookAhead_0 rfl rfl ?_
  refine x_getf (C := RX1) (T := TX1) (N := 7) (k := 4) (q := 4) tp0 (by omega) rfl hiX1 (by decide) (by decide +kernel) rfl dX1_lookAhead_1 rfl ?_
  refine x_lconst (v := 0) (q := 5) dX1_lookAhead_4 rfl (by decide) ?_
  refine x_callS (q := 8) (c_fillJ (by omega) (by decide) tp4) eX1_lookAhead_35 gX1_lookAhead_J7_fill_d0a16 rfl (Nat.le_of_ble_eq_true rfl) ⟨Nat.le_refl _, Nat.le_refl _⟩ dX1_lookAhead_5 rfl rfl (fun r5 M5 p5 => ?_)
  obtain ⟨rfl, w5, o5⟩ := p5
  refine x_aload_n (q := 9) dX1_lookAhead_8 rfl rfl ?_
  have hv1_1_p := ((o5 (p) (by omega)).trans tp0)
  refine x_getf (C := RX1) (T := TX1) (N := 7) (k := 4) (q := 12) hv1_1_p (by omega) rfl hiX1 (by decide) (by decide +kernel) rfl dX1_lookAhead_9 rfl ?_
  refine x_iload_n (q := 13) dX1_lookAhead_12 rfl rfl ?_
  refine x_lconst (v := 1) (q := 14) dX1_lookAhead_13 rfl (by decide) ?_
  refine x_last (q := 15) w5 (by omega) ha dX1_lookAhead_14 rfl (fun M14 w14 o14 => ?_)
  refine x_iconst (v := 0) (q := 16) dX1_lookAhead_15 rfl (by decide) ?_
  refine x_istore (L' := fun x4_16 => [(4, .int x4_16), (0, .ref p), (1, .ref q), (2, .int a), (3, .int (nI N))]) (q := 18) dX1_lookAhead_16 rfl (by decide) (fun _ => rfl) (fun x4_16 ex4_16 => ?_)
  have hv2_2_p := ((o14 (p) (by omega)).trans hv1_1_p)
  have hv2_3_p1 := ((o14 (p + 1) (by omega)).trans ((o5 (p + 1) (by omega)).trans tp1))
  have hv2_4_p2 := ((o14 (p + 2) (by omega)).trans ((o5 (p + 2) (by omega)).trans tp2))
  have hv2_5_p3 := ((o14 (p + 3) (by omega)).trans ((o5 (p + 3) (by omega)).trans tp3))
  have hv2_6_p5 := ((o14 (p + 5) (by omega)).trans ((o5 (p + 5) (by omega)).trans tp5))
  have hv2_7_p6 := ((o14 (p + 6) (by omega)).trans ((o5 (p + 6) (by omega)).trans tp6))
  subst ex4_16
  exact l_Ch_ahead (w := w1 a.toNatClampNeg) hpq hp hq hN hw (fun M u h1 h2 h3 => ⟨rfl, ⟨u, h1, h2⟩, h3⟩) N 0 M14 (fun k => if k = 4 then w1 a.toNatClampNeg else u k) (by omega) ⟨hv2_2_p, hv2_3_p1, hv2_4_p2, hv2_5_p3, w14, hv2_6_p5, hv2_7_p6⟩ rfl (hS.keep (fun j h1 h2 => (o14 j (by omega)).trans (o5 j (by omega)))) (fun j hj => (o14 j (by omega)).trans (o5 j (by omega)))

theorem xpl_lt (N : Nat) (h : N < 2 ^ 30) : nI N - 1 < nI N := by
  cases N with
  | zero => decide
  | succ k => rw [nI_pred]; exact nI_lt (Nat.lt_succ_self k) (by omega)
/-- from nine centuries ago on: k centuries gone by, signs ruled out -/
def lkF (τ t : Nat → Nat → Int32) (B : Nat) : Nat → Nat → Int64
  | 0 => rOut t 9 (fun _ => 1) B
  | k + 1 => rOut t (nI (8 - k)) (gF τ (lkF τ t B k) 4) B
def lkB (τ t : Nat → Nat → Int32) (B : Nat) : Nat → Nat → Int64
  | 0 => fun _ => 1
  | k + 1 => gB τ (rOut t (nI k) (lkB τ t B k) B) (fun _ => 0) 4
theorem oX1.put4 {p : Nat} {t : Nat → Nat → Int32} {u : Nat → Nat → Int64} {M M' : Nat → xE} {h : Nat → Int64} (hT : oX1 p t u M) (w : M' (p + 4) = .inl (1, 4, .inr (.inl h))) (o : ∀ j, j ≠ p + 4 → M' j = M j) : oX1 p t (fun k => if k = 4 then h else u k) M' := by
  obtain ⟨h0, h1, h2, h3, h4, h5, h6⟩ := hT
  exact ⟨(o _ (by omega)).trans h0, (o _ (by omega)).trans h1, (o _ (by omega)).trans h2, (o _ (by omega)).trans h3, w, (o _ (by omega)).trans h5, (o _ (by omega)).trans h6⟩
theorem oX1.put5 {p : Nat} {t : Nat → Nat → Int32} {u : Nat → Nat → Int64} {M M' : Nat → xE} {h : Nat → Int64} (hT : oX1 p t u M) (w : M' (p + 5) = .inl (1, 4, .inr (.inl h))) (o : ∀ j, j ≠ p + 5 → M' j = M j) : oX1 p t (fun k => if k = 5 then h else u k) M' := by
  obtain ⟨h0, h1, h2, h3, h4, h5, h6⟩ := hT
  exact ⟨(o _ (by omega)).trans h0, (o _ (by omega)).trans h1, (o _ (by omega)).trans h2, (o _ (by omega)).trans h3, (o _ (by omega)).trans h4, w, (o _ (by omega)).trans h6⟩
set_option maxHeartbeats 4000000 in
set_option maxRecDepth 100000 in
theorem l_Ch_back1 {n p q N B : Nat} {t τ : Nat → Nat → Int32} {Q : Option Value → (Nat → xE) → Prop} {M0 : Nat → xE} (hpq : p + 7 ≤ q ∨ q + 11 ≤ p) (hp : p + 6 < n) (hq : q + 10 < n) (hN : N ≤ 9) (hB : B ≤ 6) (h0 : t 0 0 = nI B) (hw : ∀ k, k < 4 → vp_in (τ 13 k) 4) (hk : ∀ M u, oX1 p t u M → u 4 = lkF τ t B (9 - N) → oX8 q τ M → xfr p (p + 7) M0 M → X mX1_lookBack 0 0 46 [(3, .int (nI N - 1)), (0, .ref p), (1, .ref q), (2, .int (nI N))] [] n M Q) : ∀ (k i : Nat) (M : Nat → xE) (u : Nat → Nat → Int64), i + k = 9 - N → (oX1 p t u M) → (u 4 = lkF τ t B i) → (oX8 q τ M) → (xfr p (p + 7) M0 M) → X mX1_lookBack 0 0 21 [(3, .int (nI (9 - i) - 1)), (0, .ref p), (1, .ref q), (2, .int (nI N))] [] n M (Q) := by
  have hiX1 : ∀ w ∈ wsX10, w ∈ wsX1_lookBack := by decide +kernel
  intro k
  induction k with
  | zero =>
    intro i M u hik hT hu hS hf
    refine x_iload_n (q := 22) dX1_lookBack_21 rfl rfl ?_
    refine x_iload_n (q := 23) dX1_lookBack_22 rfl rfl ?_
    refine x_icmp_lt (t := 46) (q := 26) dX1_lookBack_23 (by decide) rfl (fun c23 => ?_) (fun c23 => absurd (show nI (9 - i) - 1 < nI N by rw [show 9 - i = N by omega]; exact xpl_lt N (by omega)) c23)
    have e9 : i = 9 - N := by omega
    subst e9
    rw [show 9 - (9 - N) = N by omega]
    exact hk M u hT hu hS hf
  | succ k ih =>
    intro i M u hik hT hu hS hf
    refine x_iload_n (q := 22) dX1_lookBack_21 rfl rfl ?_
    refine x_iload_n (q := 23) dX1_lookBack_22 rfl rfl ?_
    refine x_icmp_lt (t := 46) (q := 26) dX1_lookBack_23 (by decide) rfl (fun c23 => absurd c23 (by rw [show 9 - i = (8 - i) + 1 by omega, nI_pred]; exact nI_nlt (by omega) (by omega))) (fun c23 => ?_)
    refine x_aload_n (q := 27) dX1_lookBack_26 rfl rfl ?_
    refine x_aload_n (q := 28) dX1_lookBack_27 rfl rfl ?_
    refine x_callV (q := 31) (ci := 1) (c_Ch_goOn (u := u) hpq hp hq hw hT hS) eX1_lookBack_41 gX1_lookBack_X1_goOn hT.1 (by omega) rfl rfl rfl (Nat.le_of_ble_eq_true rfl) ⟨Nat.le_refl _, Nat.le_refl _⟩ dX1_lookBack_28 rfl rfl (fun r28 M28 p28 => ?_)
    obtain ⟨rfl, hU28, fr28⟩ := p28
    refine x_aload_n (q := 32) dX1_lookBack_31 rfl rfl ?_
    refine x_aload_n (q := 33) dX1_lookBack_32 rfl rfl ?_
    refine x_getf (C := RX1) (T := TX1) (N := 7) (k := 4) (q := 36) hU28.1 (by omega) rfl hiX1 (by decide) (by decide +kernel) rfl dX1_lookBack_33 rfl ?_
    refine x_iload_n (q := 37) dX1_lookBack_36 rfl rfl ?_
    refine x_callV (q := 40) (ci := 1) (c_Ch_rule (h := gF τ (u 4) 4) hp hU28 (Or.inl rfl) hB h0 hU28.2.2.2.2.1) eX1_lookBack_45 gX1_lookBack_X1_ruleOut hU28.1 (by omega) rfl rfl rfl (Nat.le_of_ble_eq_true rfl) ⟨Nat.le_refl _, Nat.le_refl _⟩ dX1_lookBack_37 rfl rfl (fun r37 M37 p37 => ?_)
    obtain ⟨rfl, w37, o37⟩ := p37
    refine x_iinc (L' := fun x3_40 => [(3, .int x3_40), (0, .ref p), (1, .ref q), (2, .int (nI N))]) (q := 43) dX1_lookBack_40 rfl rfl (by decide) (fun _ => rfl) (fun x3_40 ex3_40 => ?_)
    obtain rfl : x3_40 = nI (9 - (i + 1)) - 1 := ex3_40.trans (by rw [show 9 - i = (9 - (i + 1)) + 1 by omega, nI_pred, xm1])
    refine x_goto (q := 21) dX1_lookBack_43 (by decide) ?_
    refine x_pick (L' := [(3, .int (nI (9 - (i + 1)) - 1)), (0, .ref p), (1, .ref q), (2, .int (nI N))]) [0, 1, 2, 3] rfl ?_
    rw [show 9 - i = (8 - i) + 1 by omega, nI_pred] at w37
    exact ih (i + 1) M37 _ (by omega) (hU28.put4 w37 o37) (by show rOut t (nI (8 - i)) (gF τ (u 4) 4) B = _; rw [hu, lkF]) (hS.keep (fun j h1 h2 => (o37 j (by omega)).trans (fr28 j (by omega)))) (fun j hj => (o37 j (by omega)).trans ((fr28 j hj).trans (hf j hj)))

set_option maxHeartbeats 4000000 in
set_option maxRecDepth 100000 in
theorem l_Ch_back2 {n p q N B : Nat} {t τ : Nat → Nat → Int32} {Q : Option Value → (Nat → xE) → Prop} {M0 : Nat → xE} (hpq : p + 7 ≤ q ∨ q + 11 ≤ p) (hp : p + 6 < n) (hq : q + 10 < n) (hN : N ≤ 9) (hB : B ≤ 6) (h0 : t 0 0 = nI B) (hw : ∀ k, k < 4 → vp_in (τ 13 k) 4) {w : Nat → Int64} (hk : ∀ M u, oX1 p t u M → u 4 = w → u 5 = lkB τ t B N → oX8 q τ M → xfr p (p + 7) M0 M → X mX1_lookBack 0 0 81 [(3, .int (nI N)), (0, .ref p), (1, .ref q), (2, .int (nI N))] [] n M Q) : ∀ (k i : Nat) (M : Nat → xE) (u : Nat → Nat → Int64), i + k = N → (oX1 p t u M) → (u 4 = w) → (u 5 = lkB τ t B i) → (oX8 q τ M) → (xfr p (p + 7) M0 M) → X mX1_lookBack 0 0 56 [(3, .int (nI i)), (0, .ref p), (1, .ref q), (2, .int (nI N))] [] n M (Q) := by
  have hiX1 : ∀ w ∈ wsX10, w ∈ wsX1_lookBack := by decide +kernel
  intro k
  induction k with
  | zero =>
    intro i M u hik hT hu4 hu hS hf
    refine x_iload_n (q := 57) dX1_lookBack_56 rfl rfl ?_
    refine x_iload_n (q := 58) dX1_lookBack_57 rfl rfl ?_
    refine x_icmp_ge (t := 81) (q := 61) dX1_lookBack_58 (by decide) rfl (fun c58 => ?_) (fun c58 => absurd (by rw [show i = N by omega]; exact nI_le (Nat.le_refl _) (by omega)) c58)
    have e9 : i = N := by omega
    subst e9
    exact hk M u hT hu4 hu hS hf
  | succ k ih =>
    intro i M u hik hT hu4 hu hS hf
    refine x_iload_n (q := 57) dX1_lookBack_56 rfl rfl ?_
    refine x_iload_n (q := 58) dX1_lookBack_57 rfl rfl ?_
    refine x_icmp_ge (t := 81) (q := 61) dX1_lookBack_58 (by decide) rfl (fun c58 => absurd c58 (nI_ge (a := i) (b := N) (by omega) (by omega))) (fun c58 => ?_)
    refine x_aload_n (q := 62) dX1_lookBack_61 rfl rfl ?_
    refine x_aload_n (q := 63) dX1_lookBack_62 rfl rfl ?_
    refine x_getf (C := RX1) (T := TX1) (N := 7) (k := 5) (q := 66) hT.1 (by omega) rfl hiX1 (by decide) (by decide +kernel) rfl dX1_lookBack_63 rfl ?_
    refine x_iload_n (q := 67) dX1_lookBack_66 rfl rfl ?_
    refine x_callV (q := 70) (ci := 1) (c_Ch_rule (h := u 5) hp hT (Or.inr rfl) hB h0 hT.2.2.2.2.2.1) eX1_lookBack_45 gX1_lookBack_X1_ruleOut hT.1 (by omega) rfl rfl rfl (Nat.le_of_ble_eq_true rfl) ⟨Nat.le_refl _, Nat.le_refl _⟩ dX1_lookBack_67 rfl rfl (fun r67 M67 p67 => ?_)
    obtain ⟨rfl, w67, o67⟩ := p67
    have hV := hT.put5 w67 o67
    refine x_aload_n (q := 71) dX1_lookBack_70 rfl rfl ?_
    refine x_aload_n (q := 72) dX1_lookBack_71 rfl rfl ?_
    have hv1_1_p := ((o67 (p) (by omega)).trans hT.1)
    refine x_callV (q := 75) (ci := 1) (c_Ch_goBack hpq hp hq hw hV (hS.keep (fun j h1 h2 => o67 j (by omega)))) eX1_lookBack_49 gX1_lookBack_X1_goBack hv1_1_p (by omega) rfl rfl rfl (Nat.le_of_ble_eq_true rfl) ⟨Nat.le_refl _, Nat.le_refl _⟩ dX1_lookBack_72 rfl rfl (fun r72 M72 p72 => ?_)
    obtain ⟨rfl, hU72, fr72⟩ := p72
    refine x_iinc (L' := fun x3_75 => [(3, .int x3_75), (0, .ref p), (1, .ref q), (2, .int (nI N))]) (q := 78) dX1_lookBack_75 rfl rfl (by decide) (fun _ => rfl) (fun x3_75 ex3_75 => ?_)
    obtain rfl : x3_75 = nI (i + 1) := ex3_75.trans (nI_1 i)
    refine x_goto (q := 56) dX1_lookBack_78 (by decide) ?_
    refine x_pick (L' := [(3, .int (nI (i + 1))), (0, .ref p), (1, .ref q), (2, .int (nI N))]) [0, 1, 2, 3] rfl ?_
    exact ih (i + 1) M72 _ (by omega) hU72 hu4 (by show gB τ (rOut t (nI i) (u 5) B) (fun _ => 0) 4 = _; rw [hu, lkB]) (hS.keep (fun j h1 h2 => (fr72 j (by omega)).trans (o67 j (by omega)))) (fun j hj => (fr72 j hj).trans ((o67 j (by omega)).trans (hf j hj)))

set_option maxHeartbeats 4000000 in
set_option maxRecDepth 100000 in
theorem l_Ch_back3 {n p q N : Nat} {t : Nat → Nat → Int32} {w l : Nat → Int64} {Q : Option Value → (Nat → xE) → Prop} {M0 : Nat → xE} (hp : p + 6 < n) (hQ : ∀ M u, oX1 p t u M → u 4 = mulW w l 4 → xfr p (p + 7) M0 M → Q none M) : ∀ (k i : Nat) (M : Nat → xE) (u : Nat → Nat → Int64), i + k = 4 → (oX1 p t u M) → (u 4 = mulW w l i) → (u 5 = l) → (xfr p (p + 7) M0 M) → X mX1_lookBack 0 0 83 [(3, .int (nI i)), (0, .ref p), (1, .ref q), (2, .int (nI N))] [] n M (Q) := by
  have hiX1 : ∀ w ∈ wsX10, w ∈ wsX1_lookBack := by decide +kernel
  intro k
  induction k with
  | zero =>
    intro i M u hik hT hu4 hu hf
    refine x_iload_n (q := 84) dX1_lookBack_83 rfl rfl ?_
    refine x_iconst (v := 4) (q := 85) dX1_lookBack_84 rfl (by decide) ?_
    refine x_icmp_ge (t := 109) (q := 88) dX1_lookBack_85 (by decide) rfl (fun c85 => ?_) (fun c85 => absurd (by rw [show i = 4 by omega]; exact nI_le (Nat.le_refl _) (by omega)) c85)
    refine x_vret dX1_lookBack_109 rfl rfl (Nat.le_refl _) ?_
    have e9 : i = 4 := by omega
    subst e9
    exact hQ M u hT hu4 hf
  | succ k ih =>
    intro i M u hik hT hu4 hu hf
    refine x_iload_n (q := 84) dX1_lookBack_83 rfl rfl ?_
    refine x_iconst (v := 4) (q := 85) dX1_lookBack_84 rfl (by decide) ?_
    refine x_icmp_ge (t := 109) (q := 88) dX1_lookBack_85 (by decide) rfl (fun c85 => absurd c85 (nI_ge (a := i) (b := 4) (by omega) (by omega))) (fun c85 => ?_)
    refine x_aload_n (q := 89) dX1_lookBack_88 rfl rfl ?_
    refine x_getf (C := RX1) (T := TX1) (N := 7) (k := 4) (q := 92) hT.1 (by omega) rfl hiX1 (by decide) (by decide +kernel) rfl dX1_lookBack_89 rfl ?_
    refine x_iload_n (q := 93) dX1_lookBack_92 rfl rfl ?_
    refine x_dup2 (q := 94) dX1_lookBack_93 rfl rfl rfl ?_
    refine x_lald (q := 95) hT.2.2.2.2.1 (by omega) (vp_in_nI (show i < 4 by omega) (by decide)) dX1_lookBack_94 rfl ?_
    refine x_aload_n (q := 96) dX1_lookBack_95 rfl rfl ?_
    refine x_getf (C := RX1) (T := TX1) (N := 7) (k := 5) (q := 99) hT.1 (by omega) rfl hiX1 (by decide) (by decide +kernel) rfl dX1_lookBack_96 rfl ?_
    refine x_iload_n (q := 100) dX1_lookBack_99 rfl rfl ?_
    refine x_lald (q := 101) hT.2.2.2.2.2.1 (by omega) (vp_in_nI (show i < 4 by omega) (by decide)) dX1_lookBack_100 rfl ?_
    refine x_lmul (q := 102) dX1_lookBack_101 rfl ?_
    refine x_last (q := 103) hT.2.2.2.2.1 (by omega) (vp_in_nI (show i < 4 by omega) (by decide)) dX1_lookBack_102 rfl (fun M102 w102 o102 => ?_)
    refine x_iinc (L' := fun x3_103 => [(3, .int x3_103), (0, .ref p), (1, .ref q), (2, .int (nI N))]) (q := 106) dX1_lookBack_103 rfl rfl (by decide) (fun _ => rfl) (fun x3_103 ex3_103 => ?_)
    obtain rfl : x3_103 = nI (i + 1) := ex3_103.trans (nI_1 i)
    refine x_goto (q := 83) dX1_lookBack_106 (by decide) ?_
    rw [nIc (show i < 4 by omega) (by decide)] at w102
    refine x_pick (L' := [(3, .int (nI (i + 1))), (0, .ref p), (1, .ref q), (2, .int (nI N))]) [0, 1, 2, 3] rfl ?_
    exact ih (i + 1) M102 _ (by omega) (hT.put4 w102 o102) (by show vp_updL (u 4) i (u 4 i * u 5 i) = _; rw [hu4, hu, mulW_s]) hu (fun j hj => (o102 j (by omega)).trans (hf j hj))

def lkW (τ t : Nat → Nat → Int32) (B N : Nat) : Nat → Int64 := mulW (lkF τ t B (9 - N)) (lkB τ t B N) 4
set_option maxHeartbeats 4000000 in
set_option maxRecDepth 100000 in
theorem c_Ch_back {n : Nat} {M : Nat → xE} {p q N B : Nat} {t τ : Nat → Nat → Int32} {u : Nat → Nat → Int64} (hpq : p + 7 ≤ q ∨ q + 11 ≤ p) (hp : p + 6 < n) (hq : q + 10 < n) (hN : N ≤ 9) (hB : B ≤ 6) (h0 : t 0 0 = nI B) (hw : ∀ k, k < 4 → vp_in (τ 13 k) 4) (hT : oX1 p t u M) (hS : oX8 q τ M) : xMet mX1_lookBack [.ref p, .ref q, .int (nI N)] n M (fun r M' => none = r ∧ (∃ u', oX1 p t u' M' ∧ u' 4 = lkW τ t B N) ∧ xfr p (p + 7) M M') := by
  have hT0 := hT
  obtain ⟨tp0, tp1, tp2, tp3, tp4, tp5, tp6⟩ := hT
  have hiX1 : ∀ w ∈ wsX10, w ∈ wsX1_lookBack := by decide +kernel
  refine xMet.of _ (by decide) rfl (Nat.le_of_ble_eq_true rfl) ?_
  refine x_aload_n (q := 1) dX1_lookBack_0 rfl rfl ?_
  refine x_getf (C := RX1) (T := TX1) (N := 7) (k := 4) (q := 4) tp0 (by omega) rfl hiX1 (by decide) (by decide +kernel) rfl dX1_lookBack_1 rfl ?_
  refine x_lconst (v := 1) (q := 5) dX1_lookBack_4 rfl (by decide) ?_
  refine x_callS (q := 8) (c_fillJ (by omega) (by decide) tp4) eX1_lookBack_35 gX1_lookBack_J7_fill_d0a16 rfl (Nat.le_of_ble_eq_true rfl) ⟨Nat.le_refl _, Nat.le_refl _⟩ dX1_lookBack_5 rfl rfl (fun r5 M5 p5 => ?_)
  obtain ⟨rfl, w5, o5⟩ := p5
  refine x_aload_n (q := 9) dX1_lookBack_8 rfl rfl ?_
  refine x_aload_n (q := 10) dX1_lookBack_9 rfl rfl ?_
  have hv1_1_p := ((o5 (p) (by omega)).trans tp0)
  refine x_getf (C := RX1) (T := TX1) (N := 7) (k := 4) (q := 13) hv1_1_p (by omega) rfl hiX1 (by decide) (by decide +kernel) rfl dX1_lookBack_10 rfl ?_
  refine x_bipush (v := 9) (q := 15) dX1_lookBack_13 rfl (by decide) ?_
  refine x_callV (q := 18) (ci := 1) (c_Ch_rule (h := fun _ => 1) hp (hT0.put4 w5 o5) (Or.inl rfl) hB h0 w5) eX1_lookBack_45 gX1_lookBack_X1_ruleOut hv1_1_p (by omega) rfl rfl rfl (Nat.le_of_ble_eq_true rfl) ⟨Nat.le_refl _, Nat.le_refl _⟩ dX1_lookBack_15 rfl rfl (fun r15 M15 p15 => ?_)
  obtain ⟨rfl, w15, o15⟩ := p15
  have hV := (hT0.put4 w5 o5).put4 w15 o15
  refine x_bipush (v := 8) (q := 20) dX1_lookBack_18 rfl (by decide) ?_
  refine x_istore_n (L' := fun x3_20 => [(3, .int x3_20), (0, .ref p), (1, .ref q), (2, .int (nI N))]) (q := 21) dX1_lookBack_20 rfl (by decide) (fun _ => rfl) (fun x3_20 ex3_20 => ?_)
  subst ex3_20
  refine l_Ch_back1 (M0 := M) hpq hp hq hN hB h0 hw (fun M46 u46 g1 g2 g3 g4 => ?_) (9 - N) 0 M15 _ (by omega) hV rfl (hS.keep (fun j h1 h2 => (o15 j (by omega)).trans (o5 j (by omega)))) (fun j hj => (o15 j (by omega)).trans (o5 j (by omega)))
  refine x_aload_n (q := 47) dX1_lookBack_46 rfl rfl ?_
  refine x_getf (C := RX1) (T := TX1) (N := 7) (k := 5) (q := 50) g1.1 (by omega) rfl hiX1 (by decide) (by decide +kernel) rfl dX1_lookBack_47 rfl ?_
  refine x_lconst (v := 1) (q := 51) dX1_lookBack_50 rfl (by decide) ?_
  refine x_callS (q := 54) (c_fillJ (by omega) (by decide) g1.2.2.2.2.2.1) eX1_lookBack_35 gX1_lookBack_J7_fill_d0a16 rfl (Nat.le_of_ble_eq_true rfl) ⟨Nat.le_refl _, Nat.le_refl _⟩ dX1_lookBack_51 rfl rfl (fun r51 M51 p51 => ?_)
  obtain ⟨rfl, w51, o51⟩ := p51
  refine x_iconst (v := 0) (q := 55) dX1_lookBack_54 rfl (by decide) ?_
  refine x_istore_n (L' := fun x3_55 => [(3, .int x3_55), (0, .ref p), (1, .ref q), (2, .int (nI N))]) (q := 56) dX1_lookBack_55 rfl (by decide) (fun _ => rfl) (fun x3_55 ex3_55 => ?_)
  subst ex3_55
  refine x_pick (L' := [(3, .int 0), (0, .ref p), (1, .ref q), (2, .int (nI N))]) [0, 1, 2, 3] rfl ?_
  refine l_Ch_back2 (M0 := M) (w := lkF τ t B (9 - N)) hpq hp hq hN hB h0 hw (fun M81 u81 k1 k2 k3 k4 k5 => ?_) N 0 M51 _ (by omega) (g1.put5 w51 o51) g2 rfl (g3.keep (fun j h1 h2 => o51 j (by omega))) (fun j hj => (o51 j (by omega)).trans (g4 j hj))
  refine x_iconst (v := 0) (q := 82) dX1_lookBack_81 rfl (by decide) ?_
  refine x_istore_n (L' := fun x3_82 => [(3, .int x3_82), (0, .ref p), (1, .ref q), (2, .int (nI N))]) (q := 83) dX1_lookBack_82 rfl (by decide) (fun _ => rfl) (fun x3_82 ex3_82 => ?_)
  subst ex3_82
  exact l_Ch_back3 (M0 := M) hp (fun M u h1 h2 h3 => ⟨rfl, ⟨u, h1, h2⟩, h3⟩) 4 0 M81 u81 (by omega) k1 (by rw [k2]; funext j; unfold mulW; rw [if_neg (by omega)]) k3 k5
  
  
  

