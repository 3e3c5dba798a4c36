def fpIn (E : Nat → Nat → Bool) (most P a : Nat) : Nat → Nat → Option (Nat × Nat)
  | 0, _ => none
  | k + 1, b => if E a b && decide (1 + mmk E P (2 ^ P - 2 ^ (a + 1) - 2 ^ b) = most) then some (a, b) else fpIn E most P a k (b + 1)
def fpOut (E : Nat → Nat → Bool) (most P : Nat) : Nat → Nat → Option (Nat × Nat)
  | 0, _ => none
  | k + 1, a => (fpIn E most P a (P - (a + 1)) (a + 1)).elim (fpOut E most P k (a + 1)) some
theorem xbeh : ∀ P, P < 6 → ∀ a, a < 6 → a < P → (((1 : Int32) <<< (nI P &&& 31)) - 1) &&& (-((2 : Int32) <<< (nI a &&& 31))) = nI (2 ^ P - 2 ^ (a + 1)) := by decide +kernel
def xbehB (P a b : Nat) : Bool := !(decide (a < b) && decide (b < P)) || (decide (nI (2 ^ P - 2 ^ (a + 1)) - ((1 : Int32) <<< (nI b &&& 31)) = nI (2 ^ P - 2 ^ (a + 1) - 2 ^ b)) && (decide (2 ^ P - 2 ^ (a + 1) - 2 ^ b < 2 ^ P) && decide (2 ^ P ≤ 32)))
theorem xbeh3 : ∀ P, P < 6 → ∀ a, a < 6 → ∀ b, b < 6 → xbehB P a b = true := by decide +kernel
theorem xbeh2 (P : Nat) (hP : P < 6) (a : Nat) (ha : a < 6) (b : Nat) (hb : b < 6) (h1 : a < b) (h2 : b < P) : nI (2 ^ P - 2 ^ (a + 1)) - ((1 : Int32) <<< (nI b &&& 31)) = nI (2 ^ P - 2 ^ (a + 1) - 2 ^ b) ∧ 2 ^ P - 2 ^ (a + 1) - 2 ^ b < 2 ^ P ∧ 2 ^ P ≤ 32 := by
  have h := xbeh3 P hP a ha b hb
  unfold xbehB at h
  rw [decide_eq_true h1, decide_eq_true h2] at h
  simpa using h
set_option maxHeartbeats 4000000 in
set_option maxRecDepth 100000 in
theorem l_Co_fpin {n p P most : Nat} {f h : Nat → Int32} {E : Nat → Nat → Bool} {Q : Option Value → (Nat → xE) → Prop} {M0 : Nat → xE} (hp : p + 2 < n) (hP : P ≤ 5) (hml : most ≤ 5) (hF : ∀ a, a < P → f a = nI (fbits E a P)) (hg : ∀ S, S < 2 ^ P → h S = nI (mmk E P S)) {a : Nat} (ha : a < P) : ∀ (k i : Nat) (M : Nat → xE), i + k = P - (a + 1) → (M p = .inr (2, [.int (nI most), .int (-1), .int (-1), .ref (p + 1), .ref (p + 2)])) → (M (p + 1) = .inl (0, 5, .inl f)) → (M (p + 2) = .inl (0, 32, .inl h)) → (xfr p (p + 3) M0 M) → (∀ b, fpIn E most P a k (a + 1 + i) = some (a, b) → ∀ M' : Nat → xE, M' p = .inr (2, [.int (nI most), .int (nI a), .int (nI b), .ref (p + 1), .ref (p + 2)]) → M' (p + 1) = .inl (0, 5, .inl f) → M' (p + 2) = .inl (0, 32, .inl h) → xfr p (p + 3) M0 M' → Q none M') → (fpIn E most P a k (a + 1 + i) = none → ∀ M : Nat → xE, M p = .inr (2, [.int (nI most), .int (-1), .int (-1), .ref (p + 1), .ref (p + 2)]) → M (p + 1) = .inl (0, 5, .inl f) → M (p + 2) = .inl (0, 32, .inl h) → xfr p (p + 3) M0 M → X mX2_findFirstPair 0 0 104 [(2, .int (nI a)), (0, .ref p), (1, .int (nI P))] [] n M Q) → X mX2_findFirstPair 0 0 33 [(4, .int (nI (a + 1 + i))), (3, .int (nI (2 ^ P - 2 ^ (a + 1)))), (2, .int (nI a)), (0, .ref p), (1, .int (nI P))] [] n M (Q) := by
  have hiX2 : ∀ w ∈ wsX20, w ∈ wsX2_findFirstPair := by decide +kernel
  intro k
  induction k with
  | zero =>
    intro i M hik hA h1 h2 hf hy hn
    refine x_iload (q := 35) dX2_findFirstPair_33 rfl rfl ?_
    refine x_iload_n (q := 36) dX2_findFirstPair_35 rfl rfl ?_
    refine x_icmp_ge (t := 104) (q := 39) dX2_findFirstPair_36 (by decide) rfl (fun c36 => ?_) (fun c36 => absurd (nI_le (show P ≤ a + 1 + i by omega) (by omega)) c36)
    refine x_pick (L' := [(2, .int (nI a)), (0, .ref p), (1, .int (nI P))]) [2, 3, 4] rfl ?_
    exact hn rfl M hA h1 h2 hf
  | succ k ih =>
    intro i M hik hA h1 h2 hf hy hn
    refine x_iload (q := 35) dX2_findFirstPair_33 rfl rfl ?_
    refine x_iload_n (q := 36) dX2_findFirstPair_35 rfl rfl ?_
    refine x_icmp_ge (t := 104) (q := 39) dX2_findFirstPair_36 (by decide) rfl (fun c36 => absurd c36 (nI_ge (a := a + 1 + i) (b := P) (by omega) (by omega))) (fun c36 => ?_)
    refine x_aload_n (q := 40) dX2_findFirstPair_39 rfl rfl ?_
    refine x_getf (C := RX2) (T := TX2) (N := 5) (k := 3) (q := 43) hA (by omega) rfl hiX2 (by decide) (by decide +kernel) rfl dX2_findFirstPair_40 rfl ?_
    refine x_iload_n (q := 44) dX2_findFirstPair_43 rfl rfl ?_
    refine x_iald (q := 45) h1 (by omega) (vp_in_nI (show a < 5 by omega) (by decide)) dX2_findFirstPair_44 rfl ?_
    refine x_iload (q := 47) dX2_findFirstPair_45 rfl rfl ?_
    refine x_callSN (q := 50) c_bitOf eX2_findFirstPair_45 gX2_findFirstPair_X10_bitOf_n45 (by decide) (by decide +kernel) (by decide +kernel) rfl (Nat.le_of_ble_eq_true rfl) ⟨Nat.le_refl _, Nat.le_refl _⟩ dX2_findFirstPair_47 rfl rfl (fun r47 M47 p47 => ?_)
    obtain ⟨rfl, rfl⟩ := p47
    refine x_iconst (v := 1) (q := 51) dX2_findFirstPair_50 rfl (by decide) ?_
    have hbit : bo (f (nI a).toNatClampNeg) (nI (a + 1 + i)) = 1 ↔ E a (a + 1 + i) = true := by
      rw [nIc (show a < 5 by omega) (by decide), hF a ha, bo_1 (by omega), fbits_tb E a P (a + 1 + i) (by omega)]
    obtain ⟨hs1, hs2, hs3⟩ := xbeh2 P (by omega) a (by omega) (a + 1 + i) (by omega) (by omega) (by omega)
    refine x_icmp_ne (t := 58) (q := 54) dX2_findFirstPair_51 (by decide) rfl (fun c51 => ?_) (fun c51 => ?_)
    · refine x_iconst (v := 0) (q := 59) dX2_findFirstPair_58 rfl (by decide) ?_
      refine x_istore (L' := fun x5_59 => [(5, .int x5_59), (4, .int (nI (a + 1 + i))), (3, .int (nI (2 ^ P - 2 ^ (a + 1)))), (2, .int (nI a)), (0, .ref p), (1, .int (nI P))]) (q := 61) dX2_findFirstPair_59 rfl (by decide) (fun _ => rfl) (fun x5_59 ex5_59 => ?_)
      rw [show x5_59 = 0 from ex5_59]
      refine x_iload (q := 63) dX2_findFirstPair_61 rfl rfl ?_
      refine x_if_eq (t := 98) (q := 66) dX2_findFirstPair_63 (by decide) rfl (fun c63 => ?_) (fun c63 => absurd c63 (by decide))
      refine x_iinc (L' := fun x4_98 => [(4, .int x4_98), (5, .int (0)), (3, .int (nI (2 ^ P - 2 ^ (a + 1)))), (2, .int (nI a)), (0, .ref p), (1, .int (nI P))]) (q := 101) dX2_findFirstPair_98 rfl rfl (by decide) (fun _ => rfl) (fun x4_98 ex4_98 => ?_)
      obtain rfl : x4_98 = nI (a + 1 + (i + 1)) := ex4_98.trans (nI_1 (a + 1 + i))
      refine x_goto (q := 33) dX2_findFirstPair_101 (by decide) ?_
      have hne : ¬ (E a (a + 1 + i) && decide (1 + mmk E P (2 ^ P - 2 ^ (a + 1) - 2 ^ (a + 1 + i)) = most)) = true := (by rw [show E a (a + 1 + i) = false by simpa using (fun h => c51 (hbit.mpr h))]; simp)
      rw [fpIn, if_neg hne] at hy hn
      refine x_pick (L' := [(4, .int (nI (a + 1 + (i + 1)))), (3, .int (nI (2 ^ P - 2 ^ (a + 1)))), (2, .int (nI a)), (0, .ref p), (1, .int (nI P))]) [0, 2, 3, 4, 5] rfl ?_
      exact ih (i + 1) M (by omega) hA h1 h2 hf hy hn
    · refine x_iconst (v := 1) (q := 55) dX2_findFirstPair_54 rfl (by decide) ?_
      refine x_goto (q := 59) dX2_findFirstPair_55 (by decide) ?_
      refine x_istore (L' := fun x5_59 => [(5, .int x5_59), (4, .int (nI (a + 1 + i))), (3, .int (nI (2 ^ P - 2 ^ (a + 1)))), (2, .int (nI a)), (0, .ref p), (1, .int (nI P))]) (q := 61) dX2_findFirstPair_59 rfl (by decide) (fun _ => rfl) (fun x5_59 ex5_59 => ?_)
      rw [show x5_59 = 1 from ex5_59]
      refine x_iload (q := 63) dX2_findFirstPair_61 rfl rfl ?_
      refine x_if_eq (t := 98) (q := 66) dX2_findFirstPair_63 (by decide) rfl (fun c63 => absurd c63 (by decide)) (fun c63 => ?_)
      refine x_iconst (v := 1) (q := 67) dX2_findFirstPair_66 rfl (by decide) ?_
      refine x_aload_n (q := 68) dX2_findFirstPair_67 rfl rfl ?_
      refine x_getf (C := RX2) (T := TX2) (N := 5) (k := 4) (q := 71) hA (by omega) rfl hiX2 (by decide) (by decide +kernel) rfl dX2_findFirstPair_68 rfl ?_
      refine x_iload_n (q := 72) dX2_findFirstPair_71 rfl rfl ?_
      refine x_iconst (v := 1) (q := 73) dX2_findFirstPair_72 rfl (by decide) ?_
      refine x_iload (q := 75) dX2_findFirstPair_73 rfl rfl ?_
      refine x_ishl (q := 76) dX2_findFirstPair_75 rfl ?_
      refine x_isub (q := 77) dX2_findFirstPair_76 rfl ?_
      refine x_iald (q := 78) h2 (by omega) (by rw [hs1]; exact vp_in_nI (by omega) (by decide)) dX2_findFirstPair_77 rfl ?_
      refine x_iadd (q := 79) dX2_findFirstPair_78 rfl ?_
      have hval : (1 : Int32) + h (nI (2 ^ P - 2 ^ (a + 1)) - ((1 : Int32) <<< (nI (a + 1 + i) &&& 31))).toNatClampNeg = nI (1 + mmk E P (2 ^ P - 2 ^ (a + 1) - 2 ^ (a + 1 + i))) := by
        rw [hs1, nI_clamp (by omega), hg _ hs2]
        exact nI_add 1 _
      have hmm : mmk E P (2 ^ P - 2 ^ (a + 1) - 2 ^ (a + 1 + i)) ≤ 5 := Nat.le_trans (mmk_le E P _) hP
      have hcmp : (1 : Int32) + h (nI (2 ^ P - 2 ^ (a + 1)) - ((1 : Int32) <<< (nI (a + 1 + i) &&& 31))).toNatClampNeg = nI most ↔ 1 + mmk E P (2 ^ P - 2 ^ (a + 1) - 2 ^ (a + 1 + i)) = most := by rw [hval]; exact nI_eq (by omega) (by omega)
      refine x_aload_n (q := 80) dX2_findFirstPair_79 rfl rfl ?_
      refine x_getf (C := RX2) (T := TX2) (N := 5) (k := 0) (q := 83) hA (by omega) rfl hiX2 (by decide) (by decide +kernel) rfl dX2_findFirstPair_80 rfl ?_
      refine x_icmp_ne (t := 98) (q := 86) dX2_findFirstPair_83 (by decide) rfl (fun c83 => ?_) (fun c83 => ?_)
      · refine x_iinc (L' := fun x4_98 => [(4, .int x4_98), (5, .int (1)), (3, .int (nI (2 ^ P - 2 ^ (a + 1)))), (2, .int (nI a)), (0, .ref p), (1, .int (nI P))]) (q := 101) dX2_findFirstPair_98 rfl rfl (by decide) (fun _ => rfl) (fun x4_98 ex4_98 => ?_)
        obtain rfl : x4_98 = nI (a + 1 + (i + 1)) := ex4_98.trans (nI_1 (a + 1 + i))
        refine x_goto (q := 33) dX2_findFirstPair_101 (by decide) ?_
        have hne : ¬ (E a (a + 1 + i) && decide (1 + mmk E P (2 ^ P - 2 ^ (a + 1) - 2 ^ (a + 1 + i)) = most)) = true := (by simp only [Bool.and_eq_true, decide_eq_true_eq]; exact fun h => c83 (hcmp.mpr h.2))
        rw [fpIn, if_neg hne] at hy hn
        refine x_pick (L' := [(4, .int (nI (a + 1 + (i + 1)))), (3, .int (nI (2 ^ P - 2 ^ (a + 1)))), (2, .int (nI a)), (0, .ref p), (1, .int (nI P))]) [0, 2, 3, 4, 5] rfl ?_
        exact ih (i + 1) M (by omega) hA h1 h2 hf hy hn
      · refine x_aload_n (q := 87) dX2_findFirstPair_86 rfl rfl ?_
        refine x_iload_n (q := 88) dX2_findFirstPair_87 rfl rfl ?_
        refine x_put (C := RX2) (T := TX2) (N := 5) (k := 1) (q := 91) (ty := .int) tyX2_ok nmX2 hA (by omega) rfl hiX2 (by decide) (by decide +kernel) rfl (by decide +kernel) (fun _ => rfl) (fun _ => rfl) (Nat.le_of_ble_eq_true rfl) dX2_findFirstPair_88 rfl (fun M88 w88 o88 => ?_)
        refine x_aload_n (q := 92) dX2_findFirstPair_91 rfl rfl ?_
        refine x_iload (q := 94) dX2_findFirstPair_92 rfl rfl ?_
        refine x_put (C := RX2) (T := TX2) (N := 5) (k := 2) (q := 97) (ty := .int) tyX2_ok nmX2 w88 (by omega) rfl hiX2 (by decide) (by decide +kernel) rfl (by decide +kernel) (fun _ => rfl) (fun _ => rfl) (Nat.le_of_ble_eq_true rfl) dX2_findFirstPair_94 rfl (fun M94 w94 o94 => ?_)
        refine x_vret dX2_findFirstPair_97 rfl rfl (Nat.le_refl _) ?_
        have hv2_1_p1 := ((o94 (p + 1) (by omega)).trans ((o88 (p + 1) (by omega)).trans h1))
        have hv2_2_p2 := ((o94 (p + 2) (by omega)).trans ((o88 (p + 2) (by omega)).trans h2))
        have hh : fpIn E most P a (k + 1) (a + 1 + i) = some (a, a + 1 + i) := by
          rw [fpIn, if_pos]
          rw [hbit.mp c51, decide_eq_true (hcmp.mp c83)]; rfl
        exact hy _ hh _ w94 hv2_1_p1 hv2_2_p2 (fun j hj => ((o94 j (by omega)).trans ((o88 j (by omega)).trans (hf j hj))))

set_option maxHeartbeats 4000000 in
set_option maxRecDepth 100000 in
theorem l_Co_fpout {n p P most : Nat} {f h : Nat → Int32} {E : Nat → Nat → Bool} {Q : Option Value → (Nat → xE) → Prop} {M0 : Nat → xE} (hp : p + 2 < n) (hP : P ≤ 5) (hml : most ≤ 5) (hF : ∀ a, a < P → f a = nI (fbits E a P)) (hg : ∀ S, S < 2 ^ P → h S = nI (mmk E P S)) : ∀ (k i : Nat) (M : Nat → xE), i + k = P → (M p = .inr (2, [.int (nI most), .int (-1), .int (-1), .ref (p + 1), .ref (p + 2)])) → (M (p + 1) = .inl (0, 5, .inl f)) → (M (p + 2) = .inl (0, 32, .inl h)) → (xfr p (p + 3) M0 M) → (∀ a b, fpOut E most P k i = some (a, b) → ∀ M' : Nat → xE, M' p = .inr (2, [.int (nI most), .int (nI a), .int (nI b), .ref (p + 1), .ref (p + 2)]) → M' (p + 1) = .inl (0, 5, .inl f) → M' (p + 2) = .inl (0, 32, .inl h) → xfr p (p + 3) M0 M' → Q none M') → (fpOut E most P k i = none → ∀ M' : Nat → xE, M' p = .inr (2, [.int (nI most), .int (-1), .int (-1), .ref (p + 1), .ref (p + 2)]) → M' (p + 1) = .inl (0, 5, .inl f) → M' (p + 2) = .inl (0, 32, .inl h) → xfr p (p + 3) M0 M' → Q none M') → X mX2_findFirstPair 0 0 12 [(2, .int (nI i)), (0, .ref p), (1, .int (nI P))] [] n M (Q) := by
  intro k
  induction k with
  | zero =>
    intro i M hik hA h1 h2 hf hy hn
    refine x_iload_n (q := 13) dX2_findFirstPair_12 rfl rfl ?_
    refine x_iload_n (q := 14) dX2_findFirstPair_13 rfl rfl ?_
    refine x_icmp_ge (t := 110) (q := 17) dX2_findFirstPair_14 (by decide) rfl (fun c14 => ?_) (fun c14 => absurd (by rw [show i = P by omega]; exact nI_le (Nat.le_refl _) (by omega)) c14)
    refine x_vret dX2_findFirstPair_110 rfl rfl (Nat.le_refl _) ?_
    exact hn rfl M hA h1 h2 hf
  | succ k ih =>
    intro i M hik hA h1 h2 hf hy hn
    refine x_iload_n (q := 13) dX2_findFirstPair_12 rfl rfl ?_
    refine x_iload_n (q := 14) dX2_findFirstPair_13 rfl rfl ?_
    refine x_icmp_ge (t := 110) (q := 17) dX2_findFirstPair_14 (by decide) rfl (fun c14 => absurd c14 (nI_ge (a := i) (b := P) (by omega) (by omega))) (fun c14 => ?_)
    refine x_iconst (v := 1) (q := 18) dX2_findFirstPair_17 rfl (by decide) ?_
    refine x_iload_n (q := 19) dX2_findFirstPair_18 rfl rfl ?_
    refine x_ishl (q := 20) dX2_findFirstPair_19 rfl ?_
    refine x_iconst (v := 1) (q := 21) dX2_findFirstPair_20 rfl (by decide) ?_
    refine x_isub (q := 22) dX2_findFirstPair_21 rfl ?_
    refine x_iconst (v := 2) (q := 23) dX2_findFirstPair_22 rfl (by decide) ?_
    refine x_iload_n (q := 24) dX2_findFirstPair_23 rfl rfl ?_
    refine x_ishl (q := 25) dX2_findFirstPair_24 rfl ?_
    refine x_ineg (q := 26) dX2_findFirstPair_25 rfl ?_
    refine x_iand (q := 27) dX2_findFirstPair_26 rfl ?_
    refine x_istore_n (L' := fun x3_27 => [(3, .int x3_27), (2, .int (nI i)), (0, .ref p), (1, .int (nI P))]) (q := 28) dX2_findFirstPair_27 rfl (by decide) (fun _ => rfl) (fun x3_27 ex3_27 => ?_)
    obtain rfl : x3_27 = nI (2 ^ P - 2 ^ (i + 1)) := ex3_27.trans (xbeh P (by omega) i (by omega) (by omega))
    refine x_iload_n (q := 29) dX2_findFirstPair_28 rfl rfl ?_
    refine x_iconst (v := 1) (q := 30) dX2_findFirstPair_29 rfl (by decide) ?_
    refine x_iadd (q := 31) dX2_findFirstPair_30 rfl ?_
    refine x_istore (L' := fun x4_31 => [(4, .int x4_31), (3, .int (nI (2 ^ P - 2 ^ (i + 1)))), (2, .int (nI i)), (0, .ref p), (1, .int (nI P))]) (q := 33) dX2_findFirstPair_31 rfl (by decide) (fun _ => rfl) (fun x4_31 ex4_31 => ?_)
    rw [nI_1 i] at ex4_31
    obtain rfl : x4_31 = nI (i + 1 + 0) := ex4_31
    refine l_Co_fpin (a := i) hp hP hml hF hg (show i < P by omega) (P - (i + 1)) 0 M (by omega) hA h1 h2 hf (fun b hb => hy i b (by rw [fpOut, hb]; rfl)) (fun hb M9 g1 g2 g3 g4 => ?_)
    refine x_iinc (L' := fun x2_104 => [(2, .int x2_104), (0, .ref p), (1, .int (nI P))]) (q := 107) dX2_findFirstPair_104 rfl rfl (by decide) (fun _ => rfl) (fun x2_104 ex2_104 => ?_)
    obtain rfl : x2_104 = nI (i + 1) := ex2_104.trans (nI_1 i)
    refine x_goto (q := 12) dX2_findFirstPair_107 (by decide) ?_
    refine x_pick (L' := [(2, .int (nI (i + 1))), (0, .ref p), (1, .int (nI P))]) [0, 1, 2] rfl ?_
    exact ih (i + 1) M9 (by omega) g1 g2 g3 g4 (fun a b hh => hy a b (by rw [fpOut, hb]; exact hh)) (fun hh => hn (by rw [fpOut, hb]; exact hh))
    

def fpA (o : Option (Nat × Nat)) : Int32 := match o with
  | none => -1
  | some x => nI x.1
def fpB (o : Option (Nat × Nat)) : Int32 := match o with
  | none => -1
  | some x => nI x.2
set_option maxHeartbeats 4000000 in
set_option maxRecDepth 100000 in
theorem c_Co_first {n : Nat} {M : Nat → xE} {p P most : Nat} {l0 g0 : Int32} {f h : Nat → Int32} {E : Nat → Nat → Bool} (hp : p + 2 < n) (hP : P ≤ 5) (hml : most ≤ 5) (hF : ∀ a, a < P → f a = nI (fbits E a P)) (hg : ∀ S, S < 2 ^ P → h S = nI (mmk E P S)) (hA : M p = .inr (2, [.int (nI most), .int (l0), .int (g0), .ref (p + 1), .ref (p + 2)])) (h1 : M (p + 1) = .inl (0, 5, .inl f)) (h2 : M (p + 2) = .inl (0, 32, .inl h)) : xMet mX2_findFirstPair [.ref p, .int (nI P)] n M (fun r M' => none = r ∧ M' p = .inr (2, [.int (nI most), .int (fpA (fpOut E most P P 0)), .int (fpB (fpOut E most P P 0)), .ref (p + 1), .ref (p + 2)]) ∧ M' (p + 1) = .inl (0, 5, .inl f) ∧ M' (p + 2) = .inl (0, 32, .inl h) ∧ xfr p (p + 3) M M') := by
  have hiX2 : ∀ w ∈ wsX20, w ∈ wsX2_findFirstPair := by decide +kernel
  refine xMet.of _ (by decide) rfl (Nat.le_of_ble_eq_true rfl) ?_
  refine x_aload_n (q := 1) dX2_findFirstPair_0 rfl rfl ?_
  refine x_iconst (v := -1) (q := 2) dX2_findFirstPair_1 rfl (by decide) ?_
  refine x_put (C := RX2) (T := TX2) (N := 5) (k := 1) (q := 5) (ty := .int) tyX2_ok nmX2 hA (by omega) rfl hiX2 (by decide) (by decide +kernel) rfl (by decide +kernel) (fun _ => rfl) (fun _ => rfl) (Nat.le_of_ble_eq_true rfl) dX2_findFirstPair_2 rfl (fun M2 w2 o2 => ?_)
  refine x_aload_n (q := 6) dX2_findFirstPair_5 rfl rfl ?_
  refine x_iconst (v := -1) (q := 7) dX2_findFirstPair_6 rfl (by decide) ?_
  refine x_put (C := RX2) (T := TX2) (N := 5) (k := 2) (q := 10) (ty := .int) tyX2_ok nmX2 w2 (by omega) rfl hiX2 (by decide) (by decide +kernel) rfl (by decide +kernel) (fun _ => rfl) (fun _ => rfl) (Nat.le_of_ble_eq_true rfl) dX2_findFirstPair_7 rfl (fun M7 w7 o7 => ?_)
  refine x_iconst (v := 0) (q := 11) dX2_findFirstPair_10 rfl (by decide) ?_
  refine x_istore_n (L' := fun x2_11 => [(2, .int x2_11), (0, .ref p), (1, .int (nI P))]) (q := 12) dX2_findFirstPair_11 rfl (by decide) (fun _ => rfl) (fun x2_11 ex2_11 => ?_)
  have hv2_1_p1 := ((o7 (p + 1) (by omega)).trans ((o2 (p + 1) (by omega)).trans h1))
  have hv2_2_p2 := ((o7 (p + 2) (by omega)).trans ((o2 (p + 2) (by omega)).trans h2))
  subst ex2_11
  exact l_Co_fpout (E := E) (M0 := M) hp hP hml hF hg P 0 M7 (by omega) w7 hv2_1_p1 hv2_2_p2 (fun j hj => ((o7 j (by omega)).trans ((o2 j (by omega)).trans rfl))) (fun a b hh M' g1 g2 g3 g4 => ⟨rfl, by rw [hh]; exact g1, g2, g3, g4⟩) (fun hh M' g1 g2 g3 g4 => ⟨rfl, by rw [hh]; exact g1, g2, g3, g4⟩)

