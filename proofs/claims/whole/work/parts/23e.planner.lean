/-- what a set has, by what each of its works adds -/
def fS (op : Int32 → Nat → Int32) : Nat → Nat → Int32
  | 0, _ => 0
  | k + 1, S => if S.testBit k then op (fS op k (S - 2 ^ k)) k else fS op k S
theorem fS_low (op : Int32 → Nat → Int32) {k S : Nat} (h : S < 2 ^ k) : fS op (k + 1) S = fS op k S := by
  rw [fS, if_neg (by rw [Nat.testBit_lt_two_pow h]; decide)]
theorem fS_up (op : Int32 → Nat → Int32) {k S : Nat} (h : S < 2 ^ k) : ∀ j, fS op (k + j) S = fS op k S
  | 0 => rfl
  | j + 1 => by
    rw [← Nat.add_assoc, fS_low op (Nat.lt_of_lt_of_le h (Nat.pow_le_pow_right (by decide) (Nat.le_add_right k j))), fS_up op h j]
theorem fS_0 (op : Int32 → Nat → Int32) : ∀ k, fS op k 0 = 0
  | 0 => rfl
  | k + 1 => by rw [fS, if_neg (by rw [Nat.zero_testBit]; decide), fS_0 op k]
theorem fS_put (op : Int32 → Nat → Int32) {k W R : Nat} (hk : k < W) (hR : R < 2 ^ k) : fS op W (2 ^ k + R) = op (fS op W R) k := by
  obtain ⟨j, rfl⟩ : ∃ j, W = k + 1 + j := ⟨W - (k + 1), by omega⟩
  have h1 : (2 ^ k + R).testBit k = true := by rw [Nat.testBit_two_pow_add_eq, Nat.testBit_lt_two_pow hR]; rfl
  rw [fS_up op (k := k + 1) (S := 2 ^ k + R) (by rw [Nat.pow_succ]; omega) j, fS, if_pos h1, Nat.add_sub_cancel_left, Nat.add_assoc, fS_up op hR (1 + j)]
def opM (τ : Nat → Nat → Int32) : Int32 → Nat → Int32 := fun x k => x + τ 5 k
def opO (τ : Nat → Nat → Int32) : Int32 → Nat → Int32 := fun x k => x ||| (1 <<< (τ 4 k &&& 31))
def opG (t : Nat → Nat → Int32) : Int32 → Nat → Int32 := fun x k => x + t 5 k
def tq (t : Nat → Nat → Int32) (h6 h7 h8 : Nat → Int32) : Nat → Nat → Int32 := fun z => if z = 6 then h6 else if z = 7 then h7 else if z = 8 then h8 else t z
theorem p2k6 : ∀ k, k < 6 → 2 ^ k ≤ 32 := by decide
set_option maxHeartbeats 4000000 in
set_option maxRecDepth 100000 in
theorem l_Pl_add1 {n p q W : Nat} {t τ : Nat → Nat → Int32} {Q : Option Value → (Nat → xE) → Prop} {M0 : Nat → xE} (hpq : p + 8 ≤ q ∨ q + 11 ≤ p) (hp : p + 7 < n) (hq : q + 10 < n) (hW : W ≤ 6) (hW0 : t 2 0 = nI W) {a : Nat} (ha : a < W) (hk : ∀ (M : Nat → xE) (h6 h7 h8 : Nat → Int32), oX6 p (tq t h6 h7 h8) M → oX8 q τ M → (∀ S, S < 2 ^ (a + 1) → h6 S = fS (opM τ) W S ∧ h7 S = fS (opO τ) W S ∧ h8 S = fS (opG t) W S) → xfr p (p + 8) M0 M → X mX6_addUpSets 0 0 102 [(2, .int (nI a)), (0, .ref p), (1, .ref q)] [] n M Q) : ∀ (k i : Nat) (M : Nat → xE) (h6 : Nat → Int32) (h7 : Nat → Int32) (h8 : Nat → Int32), i + k = 2 ^ a → (oX6 p (tq t h6 h7 h8) M) → (oX8 q τ M) → (∀ S, S < 2 ^ a + i → h6 S = fS (opM τ) W S ∧ h7 S = fS (opO τ) W S ∧ h8 S = fS (opG t) W S) → (xfr p (p + 8) M0 M) → X mX6_addUpSets 0 0 17 [(4, .int (nI (2 ^ a + i))), (3, .int (nI (2 ^ a))), (2, .int (nI a)), (0, .ref p), (1, .ref q)] [] n M (Q) := by
  have hiX6 : ∀ w ∈ wsX60, w ∈ wsX6_addUpSets := by decide +kernel
  have hiX8 : ∀ w ∈ wsX80, w ∈ wsX6_addUpSets := by decide +kernel
  intro k
  induction k with
  | zero =>
    intro i M h6 h7 h8 hik hT hS hh hf
    have hT0 := hT
    obtain ⟨tp0, tp1, tp2, tp3, tp4, tp5, tp6, tp7⟩ := hT
    have hS0 := hS
    obtain ⟨sp0, sp1, sp2, sp3, sp4, sp5, sp6, sp7, sp8, sp9, sp10⟩ := hS
    have hpa := p2k6 a (by omega)
    have h2f : (2 : Int32) * nI (2 ^ a) = nI (2 ^ (a + 1)) := by rw [show (2 : Int32) = nI 2 from rfl, pk_mul, Nat.pow_succ, Nat.mul_comm]
    have hpa1 : 2 ^ (a + 1) = 2 ^ a + 2 ^ a := by rw [Nat.pow_succ]; omega
    refine x_iload (q := 19) dX6_addUpSets_17 rfl rfl ?_
    refine x_iconst (v := 2) (q := 20) dX6_addUpSets_19 rfl (by decide) ?_
    refine x_iload_n (q := 21) dX6_addUpSets_20 rfl rfl ?_
    refine x_imul (q := 22) dX6_addUpSets_21 rfl ?_
    refine x_icmp_ge (t := 102) (q := 25) dX6_addUpSets_22 (by decide) rfl (fun c22 => ?_) (fun c22 => absurd (by rw [h2f]; exact nI_le (show 2 ^ (a + 1) ≤ 2 ^ a + i by omega) (by omega)) c22)
    refine x_pick (L' := [(2, .int (nI a)), (0, .ref p), (1, .ref q)]) [2, 3, 4] rfl ?_
    exact hk M h6 h7 h8 hT0 hS0 (fun S hS9 => hh S (by omega)) hf
  | succ k ih =>
    intro i M h6 h7 h8 hik hT hS hh hf
    have hT0 := hT
    obtain ⟨tp0, tp1, tp2, tp3, tp4, tp5, tp6, tp7⟩ := hT
    have hS0 := hS
    obtain ⟨sp0, sp1, sp2, sp3, sp4, sp5, sp6, sp7, sp8, sp9, sp10⟩ := hS
    have hpa := p2k6 a (by omega)
    have h2f : (2 : Int32) * nI (2 ^ a) = nI (2 ^ (a + 1)) := by rw [show (2 : Int32) = nI 2 from rfl, pk_mul, Nat.pow_succ, Nat.mul_comm]
    have hpa1 : 2 ^ (a + 1) = 2 ^ a + 2 ^ a := by rw [Nat.pow_succ]; omega
    refine x_iload (q := 19) dX6_addUpSets_17 rfl rfl ?_
    refine x_iconst (v := 2) (q := 20) dX6_addUpSets_19 rfl (by decide) ?_
    refine x_iload_n (q := 21) dX6_addUpSets_20 rfl rfl ?_
    refine x_imul (q := 22) dX6_addUpSets_21 rfl ?_
    refine x_icmp_ge (t := 102) (q := 25) dX6_addUpSets_22 (by decide) rfl (fun c22 => absurd c22 (by rw [h2f]; exact nI_ge (a := 2 ^ a + i) (b := 2 ^ (a + 1)) (by omega) (by omega))) (fun c22 => ?_)
    refine x_iload (q := 27) dX6_addUpSets_25 rfl rfl ?_
    refine x_iload_n (q := 28) dX6_addUpSets_27 rfl rfl ?_
    refine x_isub (q := 29) dX6_addUpSets_28 rfl ?_
    refine x_istore (L' := fun x5_29 => [(5, .int x5_29), (4, .int (nI (2 ^ a + i))), (3, .int (nI (2 ^ a))), (2, .int (nI a)), (0, .ref p), (1, .ref q)]) (q := 31) dX6_addUpSets_29 rfl (by decide) (fun _ => rfl) (fun x5_29 ex5_29 => ?_)
    obtain rfl : x5_29 = nI i := ex5_29.trans (by rw [pk_sub (Nat.le_add_right _ _), Nat.add_sub_cancel_left])
    refine x_aload_n (q := 32) dX6_addUpSets_31 rfl rfl ?_
    refine x_getf (C := RX6) (T := TX6) (N := 10) (k := 6) (q := 35) tp0 (by omega) rfl hiX6 (by decide) (by decide +kernel) rfl dX6_addUpSets_32 rfl ?_
    refine x_iload (q := 37) dX6_addUpSets_35 rfl rfl ?_
    refine x_aload_n (q := 38) dX6_addUpSets_37 rfl rfl ?_
    refine x_getf (C := RX6) (T := TX6) (N := 10) (k := 6) (q := 41) tp0 (by omega) rfl hiX6 (by decide) (by decide +kernel) rfl dX6_addUpSets_38 rfl ?_
    refine x_iload (q := 43) dX6_addUpSets_41 rfl rfl ?_
    refine x_iald (q := 44) tp4 (by omega) (vp_in_nI (show i < 64 by omega) (by decide)) dX6_addUpSets_43 rfl ?_
    refine x_aload_n (q := 45) dX6_addUpSets_44 rfl rfl ?_
    refine x_getf (C := RX8) (T := TX8) (N := 15) (k := 5) (q := 48) sp0 (by omega) rfl hiX8 (by decide) (by decide +kernel) rfl dX6_addUpSets_45 rfl ?_
    refine x_iload_n (q := 49) dX6_addUpSets_48 rfl rfl ?_
    refine x_iald (q := 50) sp4 (by omega) (vp_in_nI (show a < 6 by omega) (by decide)) dX6_addUpSets_49 rfl ?_
    refine x_iadd (q := 51) dX6_addUpSets_50 rfl ?_
    refine x_iast (q := 52) tp4 (by omega) (vp_in_nI (show 2 ^ a + i < 64 by omega) (by decide)) dX6_addUpSets_51 rfl (fun M51 w51 o51 => ?_)
    refine x_aload_n (q := 53) dX6_addUpSets_52 rfl rfl ?_
    have hv1_1_p := ((o51 (p) (by omega)).trans tp0)
    refine x_getf (C := RX6) (T := TX6) (N := 10) (k := 7) (q := 56) hv1_1_p (by omega) rfl hiX6 (by decide) (by decide +kernel) rfl dX6_addUpSets_53 rfl ?_
    refine x_iload (q := 58) dX6_addUpSets_56 rfl rfl ?_
    refine x_aload_n (q := 59) dX6_addUpSets_58 rfl rfl ?_
    refine x_getf (C := RX6) (T := TX6) (N := 10) (k := 7) (q := 62) hv1_1_p (by omega) rfl hiX6 (by decide) (by decide +kernel) rfl dX6_addUpSets_59 rfl ?_
    refine x_iload (q := 64) dX6_addUpSets_62 rfl rfl ?_
    have hv1_2_p5 := ((o51 (p + 5) (by omega)).trans tp5)
    refine x_iald (q := 65) hv1_2_p5 (by omega) (vp_in_nI (show i < 64 by omega) (by decide)) dX6_addUpSets_64 rfl ?_
    refine x_iconst (v := 1) (q := 66) dX6_addUpSets_65 rfl (by decide) ?_
    refine x_aload_n (q := 67) dX6_addUpSets_66 rfl rfl ?_
    have hv1_3_q := ((o51 (q) (by omega)).trans sp0)
    refine x_getf (C := RX8) (T := TX8) (N := 15) (k := 4) (q := 70) hv1_3_q (by omega) rfl hiX8 (by decide) (by decide +kernel) rfl dX6_addUpSets_67 rfl ?_
    refine x_iload_n (q := 71) dX6_addUpSets_70 rfl rfl ?_
    have hv1_4_q3 := ((o51 (q + 3) (by omega)).trans sp3)
    refine x_iald (q := 72) hv1_4_q3 (by omega) (vp_in_nI (show a < 6 by omega) (by decide)) dX6_addUpSets_71 rfl ?_
    refine x_ishl (q := 73) dX6_addUpSets_72 rfl ?_
    refine x_ior (q := 74) dX6_addUpSets_73 rfl ?_
    refine x_iast (q := 75) hv1_2_p5 (by omega) (vp_in_nI (show 2 ^ a + i < 64 by omega) (by decide)) dX6_addUpSets_74 rfl (fun M74 w74 o74 => ?_)
    refine x_aload_n (q := 76) dX6_addUpSets_75 rfl rfl ?_
    have hv2_5_p := ((o74 (p) (by omega)).trans hv1_1_p)
    refine x_getf (C := RX6) (T := TX6) (N := 10) (k := 8) (q := 79) hv2_5_p (by omega) rfl hiX6 (by decide) (by decide +kernel) rfl dX6_addUpSets_76 rfl ?_
    refine x_iload (q := 81) dX6_addUpSets_79 rfl rfl ?_
    refine x_aload_n (q := 82) dX6_addUpSets_81 rfl rfl ?_
    refine x_getf (C := RX6) (T := TX6) (N := 10) (k := 8) (q := 85) hv2_5_p (by omega) rfl hiX6 (by decide) (by decide +kernel) rfl dX6_addUpSets_82 rfl ?_
    refine x_iload (q := 87) dX6_addUpSets_85 rfl rfl ?_
    have hv2_6_p6 := ((o74 (p + 6) (by omega)).trans ((o51 (p + 6) (by omega)).trans tp6))
    refine x_iald (q := 88) hv2_6_p6 (by omega) (vp_in_nI (show i < 64 by omega) (by decide)) dX6_addUpSets_87 rfl ?_
    refine x_aload_n (q := 89) dX6_addUpSets_88 rfl rfl ?_
    refine x_getf (C := RX6) (T := TX6) (N := 10) (k := 5) (q := 92) hv2_5_p (by omega) rfl hiX6 (by decide) (by decide +kernel) rfl dX6_addUpSets_89 rfl ?_
    refine x_iload_n (q := 93) dX6_addUpSets_92 rfl rfl ?_
    have hv2_7_p3 := ((o74 (p + 3) (by omega)).trans ((o51 (p + 3) (by omega)).trans tp3))
    refine x_iald (q := 94) hv2_7_p3 (by omega) (vp_in_nI (show a < 6 by omega) (by decide)) dX6_addUpSets_93 rfl ?_
    refine x_iadd (q := 95) dX6_addUpSets_94 rfl ?_
    refine x_iast (q := 96) hv2_6_p6 (by omega) (vp_in_nI (show 2 ^ a + i < 64 by omega) (by decide)) dX6_addUpSets_95 rfl (fun M95 w95 o95 => ?_)
    refine x_iinc (L' := fun x4_96 => [(4, .int x4_96), (5, .int (nI i)), (3, .int (nI (2 ^ a))), (2, .int (nI a)), (0, .ref p), (1, .ref q)]) (q := 99) dX6_addUpSets_96 rfl rfl (by decide) (fun _ => rfl) (fun x4_96 ex4_96 => ?_)
    obtain rfl : x4_96 = nI (2 ^ a + (i + 1)) := ex4_96.trans (nI_1 (2 ^ a + i))
    refine x_goto (q := 17) dX6_addUpSets_99 (by decide) ?_
    have cs : (nI (2 ^ a + i)).toNatClampNeg = 2 ^ a + i := nI_clamp (by omega)
    have cr : (nI i).toNatClampNeg = i := nI_clamp (by omega)
    rw [cs, cr, nIc (show a < 6 by omega) (by decide)] at w51 w74 w95
    have hv3_8_p := ((o95 (p) (by omega)).trans hv2_5_p)
    have hv3_9_p1 := ((o95 (p + 1) (by omega)).trans ((o74 (p + 1) (by omega)).trans ((o51 (p + 1) (by omega)).trans tp1)))
    have hv3_10_p2 := ((o95 (p + 2) (by omega)).trans ((o74 (p + 2) (by omega)).trans ((o51 (p + 2) (by omega)).trans tp2)))
    have hv3_11_p3 := ((o95 (p + 3) (by omega)).trans hv2_7_p3)
    have hv3_12_p4 := ((o95 (p + 4) (by omega)).trans ((o74 (p + 4) (by omega)).trans w51))
    have hv3_13_p5 := ((o95 (p + 5) (by omega)).trans w74)
    have hv3_14_p7 := ((o95 (p + 7) (by omega)).trans ((o74 (p + 7) (by omega)).trans ((o51 (p + 7) (by omega)).trans tp7)))
    have hh2 : ∀ S, S < 2 ^ a + (i + 1) → upd h6 (2 ^ a + i) (h6 i + τ 5 a) S = fS (opM τ) W S ∧ upd h7 (2 ^ a + i) (h7 i ||| (1 <<< (τ 4 a &&& 31))) S = fS (opO τ) W S ∧ upd h8 (2 ^ a + i) (h8 i + t 5 a) S = fS (opG t) W S := by
      intro S hS9
      by_cases e : S = 2 ^ a + i
      · obtain ⟨k1, k2, k3⟩ := hh i (by omega)
        rw [e, pk_us, pk_us, pk_us, fS_put _ ha (by omega), fS_put _ ha (by omega), fS_put _ ha (by omega), k1, k2, k3]
        exact ⟨rfl, rfl, rfl⟩
      · rw [pk_un e, pk_un e, pk_un e]; exact hh S (by omega)
    refine x_pick (L' := [(4, .int (nI (2 ^ a + (i + 1)))), (3, .int (nI (2 ^ a))), (2, .int (nI a)), (0, .ref p), (1, .ref q)]) [0, 2, 3, 4, 5] rfl ?_
    exact ih (i + 1) M95 (upd h6 (2 ^ a + i) (h6 i + τ 5 a)) (upd h7 (2 ^ a + i) (h7 i ||| (1 <<< (τ 4 a &&& 31)))) (upd h8 (2 ^ a + i) (h8 i + t 5 a)) (by omega) ⟨hv3_8_p, hv3_9_p1, hv3_10_p2, hv3_11_p3, hv3_12_p4, hv3_13_p5, w95, hv3_14_p7⟩ (hS0.keep (fun j h1 h2 => (o95 j (by omega)).trans ((o74 j (by omega)).trans (o51 j (by omega))))) hh2 (fun j hj => (o95 j (by omega)).trans ((o74 j (by omega)).trans ((o51 j (by omega)).trans (hf j hj))))

set_option maxHeartbeats 4000000 in
set_option maxRecDepth 100000 in
theorem l_Pl_add2 {n p q W : Nat} {t τ : Nat → Nat → Int32} {Q : Option Value → (Nat → xE) → Prop} {M0 : Nat → xE} (hpq : p + 8 ≤ q ∨ q + 11 ≤ p) (hp : p + 7 < n) (hq : q + 10 < n) (hW : W ≤ 6) (hW0 : t 2 0 = nI W) (hQ : ∀ (M : Nat → xE) (h6 h7 h8 : Nat → Int32), oX6 p (tq t h6 h7 h8) M → oX8 q τ M → (∀ S, S < 2 ^ W → h6 S = fS (opM τ) W S ∧ h7 S = fS (opO τ) W S ∧ h8 S = fS (opG t) W S) → xfr p (p + 8) M0 M → Q none M) : ∀ (k i : Nat) (M : Nat → xE) (h6 : Nat → Int32) (h7 : Nat → Int32) (h8 : Nat → Int32), i + k = W → (oX6 p (tq t h6 h7 h8) M) → (oX8 q τ M) → (∀ S, S < 2 ^ i → h6 S = fS (opM τ) W S ∧ h7 S = fS (opO τ) W S ∧ h8 S = fS (opG t) W S) → (xfr p (p + 8) M0 M) → X mX6_addUpSets 0 0 2 [(2, .int (nI i)), (0, .ref p), (1, .ref q)] [] n M (Q) := by
  have hiX6 : ∀ w ∈ wsX60, w ∈ wsX6_addUpSets := by decide +kernel
  intro k
  induction k with
  | zero =>
    intro i M h6 h7 h8 hik hT hS hh hf
    have hT0 := hT
    obtain ⟨tp0, tp1, tp2, tp3, tp4, tp5, tp6, tp7⟩ := hT
    have tp0 : M p = .inr (6, [.int (t 0 0), .int (t 1 0), .int (nI W), .ref (p + 1), .ref (p + 2), .ref (p + 3), .ref (p + 4), .ref (p + 5), .ref (p + 6), .ref (p + 7)]) := by rw [tp0, ← hW0]; rfl
    refine x_iload_n (q := 3) dX6_addUpSets_2 rfl rfl ?_
    refine x_aload_n (q := 4) dX6_addUpSets_3 rfl rfl ?_
    refine x_getf (C := RX6) (T := TX6) (N := 10) (k := 2) (q := 7) tp0 (by omega) rfl hiX6 (by decide) (by decide +kernel) rfl dX6_addUpSets_4 rfl ?_
    refine x_icmp_ge (t := 108) (q := 10) dX6_addUpSets_7 (by decide) rfl (fun c7 => ?_) (fun c7 => absurd (by rw [show i = W by omega]; exact nI_le (Nat.le_refl _) (by omega)) c7)
    refine x_vret dX6_addUpSets_108 rfl rfl (Nat.le_refl _) ?_
    have e9 : i = W := by omega
    subst e9
    exact hQ M h6 h7 h8 hT0 hS hh hf
  | succ k ih =>
    intro i M h6 h7 h8 hik hT hS hh hf
    have hT0 := hT
    obtain ⟨tp0, tp1, tp2, tp3, tp4, tp5, tp6, tp7⟩ := hT
    have tp0 : M p = .inr (6, [.int (t 0 0), .int (t 1 0), .int (nI W), .ref (p + 1), .ref (p + 2), .ref (p + 3), .ref (p + 4), .ref (p + 5), .ref (p + 6), .ref (p + 7)]) := by rw [tp0, ← hW0]; rfl
    refine x_iload_n (q := 3) dX6_addUpSets_2 rfl rfl ?_
    refine x_aload_n (q := 4) dX6_addUpSets_3 rfl rfl ?_
    refine x_getf (C := RX6) (T := TX6) (N := 10) (k := 2) (q := 7) tp0 (by omega) rfl hiX6 (by decide) (by decide +kernel) rfl dX6_addUpSets_4 rfl ?_
    refine x_icmp_ge (t := 108) (q := 10) dX6_addUpSets_7 (by decide) rfl (fun c7 => absurd c7 (nI_ge (a := i) (b := W) (by omega) (by omega))) (fun c7 => ?_)
    refine x_iconst (v := 1) (q := 11) dX6_addUpSets_10 rfl (by decide) ?_
    refine x_iload_n (q := 12) dX6_addUpSets_11 rfl rfl ?_
    refine x_ishl (q := 13) dX6_addUpSets_12 rfl ?_
    refine x_istore_n (L' := fun x3_13 => [(3, .int x3_13), (2, .int (nI i)), (0, .ref p), (1, .ref q)]) (q := 14) dX6_addUpSets_13 rfl (by decide) (fun _ => rfl) (fun x3_13 ex3_13 => ?_)
    obtain rfl : x3_13 = nI (2 ^ i) := ex3_13.trans (xshl1 i (by omega))
    refine x_iload_n (q := 15) dX6_addUpSets_14 rfl rfl ?_
    refine x_istore (L' := fun x4_15 => [(4, .int x4_15), (3, .int (nI (2 ^ i))), (2, .int (nI i)), (0, .ref p), (1, .ref q)]) (q := 17) dX6_addUpSets_15 rfl (by decide) (fun _ => rfl) (fun x4_15 ex4_15 => ?_)
    rw [show x4_15 = nI (2 ^ i + 0) from ex4_15]
    refine l_Pl_add1 (a := i) (M0 := M0) hpq hp hq hW hW0 (show i < W by omega) (fun M9 g6 g7 g8 k1 k2 k3 k4 => ?_) (2 ^ i) 0 M h6 h7 h8 (by omega) hT0 hS hh hf
    refine x_iinc (L' := fun x2_102 => [(2, .int x2_102), (0, .ref p), (1, .ref q)]) (q := 105) dX6_addUpSets_102 rfl rfl (by decide) (fun _ => rfl) (fun x2_102 ex2_102 => ?_)
    obtain rfl : x2_102 = nI (i + 1) := ex2_102.trans (nI_1 i)
    refine x_goto (q := 2) dX6_addUpSets_105 (by decide) ?_
    refine x_pick (L' := [(2, .int (nI (i + 1))), (0, .ref p), (1, .ref q)]) [0, 1, 2] rfl ?_
    exact ih (i + 1) M9 _ _ _ (by omega) k1 k2 k3 k4
    

set_option maxHeartbeats 4000000 in
set_option maxRecDepth 100000 in
theorem c_Pl_add {n : Nat} {M : Nat → xE} {p q W : Nat} {t τ : Nat → Nat → Int32} (hpq : p + 8 ≤ q ∨ q + 11 ≤ p) (hp : p + 7 < n) (hq : q + 10 < n) (hW : W ≤ 6) (hW0 : t 2 0 = nI W) (hz : t 6 0 = 0 ∧ t 7 0 = 0 ∧ t 8 0 = 0) (hT : oX6 p t M) (hS : oX8 q τ M) : xMet mX6_addUpSets [.ref p, .ref q] n M (fun r M' => none = r ∧ (∃ h6 h7 h8, oX6 p (tq t h6 h7 h8) M' ∧ (∀ S, S < 2 ^ W → h6 S = fS (opM τ) W S ∧ h7 S = fS (opO τ) W S ∧ h8 S = fS (opG t) W S)) ∧ xfr p (p + 8) M M') := by
  refine xMet.of _ (by decide) rfl (Nat.le_of_ble_eq_true rfl) ?_
  refine x_iconst (v := 0) (q := 1) dX6_addUpSets_0 rfl (by decide) ?_
  refine x_istore_n (L' := fun x2_1 => [(2, .int x2_1), (0, .ref p), (1, .ref q)]) (q := 2) dX6_addUpSets_1 rfl (by decide) (fun _ => rfl) (fun x2_1 ex2_1 => ?_)
  subst ex2_1
  exact l_Pl_add2 (M0 := M) hpq hp hq hW hW0 (fun M h6 h7 h8 k1 k2 k3 k4 => ⟨rfl, ⟨h6, h7, h8, k1, k3⟩, k4⟩) W 0 M (t 6) (t 7) (t 8) (by omega) hT hS (fun S hS9 => by rw [show S = 0 by have : S < 1 := hS9; omega, fS_0, fS_0, fS_0]; exact hz) (fun j _ => rfl)

def lfX (δ : Nat → Nat → Int32) (a : Nat) : Int32 := if bo (δ 4 0) (nI a) = 1 then 0 else δ 7 a
def gnX (τ δ : Nat → Nat → Int32) (k : Nat) : Int32 := if 0 < δ 9 k then 0 else τ 7 k
def hdX (τ δ : Nat → Nat → Int32) : Nat → Int32
  | 0 => 0
  | k + 1 => hdX τ δ k + (if 0 < δ 9 k then τ 7 k else 0)
theorem upd_all {f : Nat → Int32} {g : Nat → Int32} {i : Nat} (h : ∀ j, j < i → f j = g j) : ∀ j, j < i + 1 → upd f i (g i) j = g j := by
  intro j hj
  by_cases e : j = i
  · rw [e, pk_us]
  · rw [pk_un e]; exact h j (by omega)
set_option maxHeartbeats 4000000 in
set_option maxRecDepth 100000 in
theorem l_Pl_tk1 {n p q d A W : Nat} {t τ δ : Nat → Nat → Int32} {Q : Option Value → (Nat → xE) → Prop} {M0 : Nat → xE} (hpq : p + 8 ≤ q ∨ q + 11 ≤ p) (hpd : p + 8 ≤ d ∨ d + 4 ≤ p) (hp : p + 7 < n) (hq : q + 10 < n) (hd : d + 3 < n) (hA : A ≤ 5) (hW : W ≤ 6) {x0 : Int32} (hk : ∀ (M : Nat → xE) (f3 f4 f5 : Nat → Int32), oX6 p (fun z => if z = 0 then (fun _ => x0) else if z = 1 then (fun _ => nI A) else if z = 2 then (fun _ => nI W) else if z = 3 then f3 else if z = 4 then f4 else if z = 5 then f5 else t z) M → oX8 q τ M → oX3 d δ M → (∀ a, a < A → f3 a = lfX δ a ∧ f4 a = tSkill τ (nI a)) → xfr p (p + 8) M0 M → X mX6_takeUp 0 0 76 [(3, .int (nI A)), (0, .ref p), (1, .ref q), (2, .ref d)] [] n M Q) : ∀ (k i : Nat) (M : Nat → xE) (f3 : Nat → Int32) (f4 : Nat → Int32) (f5 : Nat → Int32), i + k = A → (oX6 p (fun z => if z = 0 then (fun _ => x0) else if z = 1 then (fun _ => nI A) else if z = 2 then (fun _ => nI W) else if z = 3 then f3 else if z = 4 then f4 else if z = 5 then f5 else t z) M) → (oX8 q τ M) → (oX3 d δ M) → ((∀ a, a < i → f3 a = lfX δ a ∧ f4 a = tSkill τ (nI a))) → (xfr p (p + 8) M0 M) → X mX6_takeUp 0 0 23 [(3, .int (nI i)), (0, .ref p), (1, .ref q), (2, .ref d)] [] n M (Q) := by
  have hiX3 : ∀ w ∈ wsX30, w ∈ wsX6_takeUp := by decide +kernel
  have hiX6 : ∀ w ∈ wsX60, w ∈ wsX6_takeUp := by decide +kernel
  intro k
  induction k with
  | zero =>
    intro i M f3 f4 f5 hik hT hS hD hc hf
    have hT0 := hT
    have hS0 := hS
    have hD0 := hD
    obtain ⟨tp0, tp1, tp2, tp3, tp4, tp5, tp6, tp7⟩ := hT
    obtain ⟨dp0, dp1, dp2, dp3⟩ := hD
    refine x_iload_n (q := 24) dX6_takeUp_23 rfl rfl ?_
    refine x_aload_n (q := 25) dX6_takeUp_24 rfl rfl ?_
    refine x_getf (C := RX6) (T := TX6) (N := 10) (k := 1) (q := 28) tp0 (by omega) rfl hiX6 (by decide) (by decide +kernel) rfl dX6_takeUp_25 rfl ?_
    refine x_icmp_ge (t := 76) (q := 31) dX6_takeUp_28 (by decide) rfl (fun c28 => ?_) (fun c28 => absurd (by rw [show i = A by omega]; exact nI_le (Nat.le_refl _) (by omega)) c28)
    have e9 : i = A := by omega
    subst e9
    exact hk M f3 f4 f5 hT0 hS0 hD0 hc hf
  | succ k ih =>
    intro i M f3 f4 f5 hik hT hS hD hc hf
    have hT0 := hT
    have hS0 := hS
    have hD0 := hD
    obtain ⟨tp0, tp1, tp2, tp3, tp4, tp5, tp6, tp7⟩ := hT
    obtain ⟨dp0, dp1, dp2, dp3⟩ := hD
    refine x_iload_n (q := 24) dX6_takeUp_23 rfl rfl ?_
    refine x_aload_n (q := 25) dX6_takeUp_24 rfl rfl ?_
    refine x_getf (C := RX6) (T := TX6) (N := 10) (k := 1) (q := 28) tp0 (by omega) rfl hiX6 (by decide) (by decide +kernel) rfl dX6_takeUp_25 rfl ?_
    refine x_icmp_ge (t := 76) (q := 31) dX6_takeUp_28 (by decide) rfl (fun c28 => absurd c28 (nI_ge (a := i) (b := A) (by omega) (by omega))) (fun c28 => ?_)
    refine x_aload_n (q := 32) dX6_takeUp_31 rfl rfl ?_
    refine x_getf (C := RX6) (T := TX6) (N := 10) (k := 4) (q := 35) tp0 (by omega) rfl hiX6 (by decide) (by decide +kernel) rfl dX6_takeUp_32 rfl ?_
    refine x_iload_n (q := 36) dX6_takeUp_35 rfl rfl ?_
    refine x_aload_n (q := 37) dX6_takeUp_36 rfl rfl ?_
    refine x_iload_n (q := 38) dX6_takeUp_37 rfl rfl ?_
    refine x_callV (q := 41) (ci := 8) (c_Told_skill (p := q) (by omega) hS (vp_in_nI (show i < 5 by omega) (by decide))) eX6_takeUp_47 gX6_takeUp_X8_skillBitsOf hS.1 (by omega) rfl rfl rfl (Nat.le_of_ble_eq_true rfl) ⟨Nat.le_refl _, Nat.le_refl _⟩ dX6_takeUp_38 rfl rfl (fun r38 M38 p38 => ?_)
    obtain ⟨rfl, rfl⟩ := p38
    refine x_iast (q := 42) tp2 (by omega) (vp_in_nI (show i < 5 by omega) (by decide)) dX6_takeUp_41 rfl (fun M41 w41 o41 => ?_)
    refine x_aload_n (q := 43) dX6_takeUp_42 rfl rfl ?_
    have hv1_1_p := ((o41 (p) (by omega)).trans tp0)
    refine x_getf (C := RX6) (T := TX6) (N := 10) (k := 3) (q := 46) hv1_1_p (by omega) rfl hiX6 (by decide) (by decide +kernel) rfl dX6_takeUp_43 rfl ?_
    refine x_iload_n (q := 47) dX6_takeUp_46 rfl rfl ?_
    refine x_aload_n (q := 48) dX6_takeUp_47 rfl rfl ?_
    have hv1_2_d := ((o41 (d) (by omega)).trans dp0)
    refine x_getf (C := RX3) (T := TX3) (N := 10) (k := 4) (q := 51) hv1_2_d (by omega) rfl hiX3 (by decide) (by decide +kernel) rfl dX6_takeUp_48 rfl ?_
    refine x_iload_n (q := 52) dX6_takeUp_51 rfl rfl ?_
    refine x_callSN (q := 55) c_bitOf eX6_takeUp_56 gX6_takeUp_X10_bitOf_n56 (by decide) (by decide +kernel) (by decide +kernel) rfl (Nat.le_of_ble_eq_true rfl) ⟨Nat.le_refl _, Nat.le_refl _⟩ dX6_takeUp_52 rfl rfl (fun r52 M52 p52 => ?_)
    obtain ⟨rfl, rfl⟩ := p52
    refine x_iconst (v := 1) (q := 56) dX6_takeUp_55 rfl (by decide) ?_
    refine x_icmp_ne (t := 63) (q := 59) dX6_takeUp_56 (by decide) rfl (fun c56 => ?_) (fun c56 => ?_)
    · refine x_aload_n (q := 64) dX6_takeUp_63 rfl rfl ?_
      refine x_getf (C := RX3) (T := TX3) (N := 10) (k := 7) (q := 67) hv1_2_d (by omega) rfl hiX3 (by decide) (by decide +kernel) rfl dX6_takeUp_64 rfl ?_
      refine x_iload_n (q := 68) dX6_takeUp_67 rfl rfl ?_
      have hv1_3_d1 := ((o41 (d + 1) (by omega)).trans dp1)
      refine x_iald (q := 69) hv1_3_d1 (by omega) (vp_in_nI (show i < 5 by omega) (by decide)) dX6_takeUp_68 rfl ?_
      have hv1_4_p1 := ((o41 (p + 1) (by omega)).trans tp1)
      refine x_iast (q := 70) hv1_4_p1 (by omega) (vp_in_nI (show i < 5 by omega) (by decide)) dX6_takeUp_69 rfl (fun M69 w69 o69 => ?_)
      refine x_iinc (L' := fun x3_70 => [(3, .int x3_70), (0, .ref p), (1, .ref q), (2, .ref d)]) (q := 73) dX6_takeUp_70 rfl rfl (by decide) (fun _ => rfl) (fun x3_70 ex3_70 => ?_)
      obtain rfl : x3_70 = nI (i + 1) := ex3_70.trans (nI_1 i)
      refine x_goto (q := 23) dX6_takeUp_73 (by decide) ?_
      rw [nIc (show i < 5 by omega) (by decide)] at w41 w69
      have hv3 : (δ 7 i) = lfX δ i := by unfold lfX; rw [if_neg (show ¬ bo (δ 4 0) (nI i) = 1 from c56)]
      rw [hv3] at w69
      have hv2_5_p := ((o69 (p) (by omega)).trans hv1_1_p)
      have hv2_6_p2 := ((o69 (p + 2) (by omega)).trans w41)
      have hv2_7_p3 := ((o69 (p + 3) (by omega)).trans ((o41 (p + 3) (by omega)).trans tp3))
      have hv2_8_p4 := ((o69 (p + 4) (by omega)).trans ((o41 (p + 4) (by omega)).trans tp4))
      have hv2_9_p5 := ((o69 (p + 5) (by omega)).trans ((o41 (p + 5) (by omega)).trans tp5))
      have hv2_10_p6 := ((o69 (p + 6) (by omega)).trans ((o41 (p + 6) (by omega)).trans tp6))
      have hv2_11_p7 := ((o69 (p + 7) (by omega)).trans ((o41 (p + 7) (by omega)).trans tp7))
      refine x_pick (L' := [(3, .int (nI (i + 1))), (0, .ref p), (1, .ref q), (2, .ref d)]) [0, 1, 2, 3] rfl ?_
      exact ih (i + 1) M69 (upd f3 i (lfX δ i)) (upd f4 i (tSkill τ (nI i))) f5 (by omega) ⟨hv2_5_p, w69, hv2_6_p2, hv2_7_p3, hv2_8_p4, hv2_9_p5, hv2_10_p6, hv2_11_p7⟩ (hS0.keep (fun j h1 h2 => (o69 j (by omega)).trans (o41 j (by omega)))) (hD0.keep (fun j h1 h2 => (o69 j (by omega)).trans (o41 j (by omega)))) (fun a ha => ⟨upd_all (fun j hj => (hc j hj).1) a ha, upd_all (g := fun a => tSkill τ (nI a)) (fun j hj => (hc j hj).2) a ha⟩) (fun j hj => (o69 j (by omega)).trans ((o41 j (by omega)).trans (hf j hj)))
    · refine x_iconst (v := 0) (q := 60) dX6_takeUp_59 rfl (by decide) ?_
      refine x_goto (q := 69) dX6_takeUp_60 (by decide) ?_
      have hv1_3_p1 := ((o41 (p + 1) (by omega)).trans tp1)
      refine x_iast (q := 70) hv1_3_p1 (by omega) (vp_in_nI (show i < 5 by omega) (by decide)) dX6_takeUp_69 rfl (fun M69 w69 o69 => ?_)
      refine x_iinc (L' := fun x3_70 => [(3, .int x3_70), (0, .ref p), (1, .ref q), (2, .ref d)]) (q := 73) dX6_takeUp_70 rfl rfl (by decide) (fun _ => rfl) (fun x3_70 ex3_70 => ?_)
      obtain rfl : x3_70 = nI (i + 1) := ex3_70.trans (nI_1 i)
      refine x_goto (q := 23) dX6_takeUp_73 (by decide) ?_
      rw [nIc (show i < 5 by omega) (by decide)] at w41 w69
      have hv3 : 0 = lfX δ i := by unfold lfX; rw [if_pos (show bo (δ 4 0) (nI i) = 1 from c56)]
      rw [hv3] at w69
      have hv2_4_p := ((o69 (p) (by omega)).trans hv1_1_p)
      have hv2_5_p2 := ((o69 (p + 2) (by omega)).trans w41)
      have hv2_6_p3 := ((o69 (p + 3) (by omega)).trans ((o41 (p + 3) (by omega)).trans tp3))
      have hv2_7_p4 := ((o69 (p + 4) (by omega)).trans ((o41 (p + 4) (by omega)).trans tp4))
      have hv2_8_p5 := ((o69 (p + 5) (by omega)).trans ((o41 (p + 5) (by omega)).trans tp5))
      have hv2_9_p6 := ((o69 (p + 6) (by omega)).trans ((o41 (p + 6) (by omega)).trans tp6))
      have hv2_10_p7 := ((o69 (p + 7) (by omega)).trans ((o41 (p + 7) (by omega)).trans tp7))
      refine x_pick (L' := [(3, .int (nI (i + 1))), (0, .ref p), (1, .ref q), (2, .ref d)]) [0, 1, 2, 3] rfl ?_
      exact ih (i + 1) M69 (upd f3 i (lfX δ i)) (upd f4 i (tSkill τ (nI i))) f5 (by omega) ⟨hv2_4_p, w69, hv2_5_p2, hv2_6_p3, hv2_7_p4, hv2_8_p5, hv2_9_p6, hv2_10_p7⟩ (hS0.keep (fun j h1 h2 => (o69 j (by omega)).trans (o41 j (by omega)))) (hD0.keep (fun j h1 h2 => (o69 j (by omega)).trans (o41 j (by omega)))) (fun a ha => ⟨upd_all (fun j hj => (hc j hj).1) a ha, upd_all (g := fun a => tSkill τ (nI a)) (fun j hj => (hc j hj).2) a ha⟩) (fun j hj => (o69 j (by omega)).trans ((o41 j (by omega)).trans (hf j hj)))

