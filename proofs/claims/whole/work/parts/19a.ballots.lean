theorem xm1 (x : Int32) : x + Int32.ofInt (-1) = x - 1 := by
  rw [show Int32.ofInt (-1) = -(1 : Int32) from by decide, ← Int32.sub_eq_add_neg]
theorem xshl1 : ∀ d, d < 31 → (1 : Int32) <<< (nI d &&& 31) = nI (2 ^ d) := by decide +kernel
def dg (m k : Nat) : Nat := m / 10 ^ k % 10
def sC (m : Nat) : Nat → Nat
  | 0 => 0
  | k + 1 => sC m k ||| 2 ^ dg m k
theorem dg_lt (m k : Nat) : dg m k < 10 := Nat.mod_lt _ (by decide)
theorem sC_lt (m : Nat) : ∀ k, sC m k < 2 ^ 10
  | 0 => by show 0 < 2 ^ 10; decide
  | k + 1 => Nat.or_lt_two_pow (sC_lt m k) (Nat.pow_lt_pow_right (by decide) (dg_lt m k))
/-- the row of digits, k of them laid from the right -/
def rowF (m P k : Nat) (h : Nat → Int32) : Nat → Int32 := fun j => if P ≤ j + k ∧ j < P then nI (dg m (P - 1 - j)) else h j
theorem rowF_0 (m P : Nat) (h : Nat → Int32) : rowF m P 0 h = h := by
  funext j
  unfold rowF
  rw [if_neg (by omega)]
theorem rowF_s {m P k : Nat} (hk : k < P) (h : Nat → Int32) : upd (rowF m P k h) (P - k - 1) (nI (dg m k)) = rowF m P (k + 1) h := by
  funext j
  unfold upd rowF
  by_cases e : j = P - k - 1
  · rw [if_pos e, if_pos (by omega), show P - 1 - j = k by omega]
  · rw [if_neg e]
    by_cases h : P ≤ j + k ∧ j < P
    · rw [if_pos h, if_pos (by omega)]
    · rw [if_neg h, if_neg (by omega)]
def lom (v : Nat → Int32) : Nat → Nat
  | 0 => 0
  | k + 1 => if 0 < k ∧ v (lom v k) < v k then k else lom v k
theorem lom_le (v : Nat → Int32) : ∀ k, lom v k ≤ k
  | 0 => Nat.le_refl _
  | k + 1 => by
    have := lom_le v k
    rw [lom]
    split <;> omega
theorem lom_lt (v : Nat → Int32) : ∀ k, 0 < k → lom v k < k
  | 0, h => absurd h (by decide)
  | 1, _ => by rw [lom, if_neg (by omega)]; exact Nat.lt_succ_self 0
  | k + 2, _ => by
    have := lom_lt v (k + 1) (by omega)
    rw [lom]
    split <;> omega
/-- first places counted -/
def vC (s : Nat → Int32) : Nat → Nat → Int32
  | 0 => fun _ => 0
  | k + 1 => upd (vC s k) (s (5 * k)).toNatClampNeg (vC s k (s (5 * k)).toNatClampNeg + 1)
def ptIn (s : Nat → Int32) (a : Int32) (P B : Nat) (c : Int32) : Nat → Int32
  | 0 => c
  | j + 1 => ptIn s a P B c j + (if s (5 * B + j) = a then nI P - 1 - nI j else 0)
def pts (s : Nat → Int32) (a : Int32) (P : Nat) : Nat → Int32
  | 0 => 0
  | B + 1 => ptIn s a P B (pts s a P B) P
set_option maxHeartbeats 4000000 in
set_option maxRecDepth 100000 in
theorem l_Bal_row {n p m P : Nat} {t : Nat → Nat → Int32} {Q : Option Value → (Nat → xE) → Prop} {M0 : Nat → xE} (hp : p + 3 < n) (hm : m < 2 ^ 31) (hP : P ≤ 5) (hQ : ∀ M r, oX0 p (fun k => if k = 2 then rowF m P P (t 2) else t k) M → xfr p (p + 4) M0 M → xB (m / 10 ^ P = 0 ∧ sC m P = 2 ^ P - 1) r → Q r M) : ∀ (k i : Nat) (M : Nat → xE), i + k = P → (oX0 p (fun k => if k = 2 then rowF m P i (t 2) else t k) M) → (xfr p (p + 4) M0 M) → X mX0_isRowOfAll 0 0 16 [(5, .int (nI (P - i) - 1)), (3, .int (nI (m / 10 ^ i))), (4, .int (nI (sC m i))), (0, .ref p), (1, .int (nI m)), (2, .int (nI P))] [] n M (Q) := by
  have hiX0 : ∀ w ∈ wsX00, w ∈ wsX0_isRowOfAll := by decide +kernel
  intro k
  induction k with
  | zero =>
    intro i M hik hT hf
    obtain ⟨tp0, tp1, tp2, tp3⟩ := hT
    have hmi : m / 10 ^ i < 2 ^ 31 := Nat.lt_of_le_of_lt (Nat.div_le_self _ _) hm
    refine x_iload (q := 18) dX0_isRowOfAll_16 rfl rfl ?_
    refine x_if_lt (t := 57) (q := 21) dX0_isRowOfAll_18 (by decide) rfl (fun c18 => ?_) (fun c18 => absurd (by rw [show P - i = 0 by omega]; decide) c18)
    refine x_iload_n (q := 58) dX0_isRowOfAll_57 rfl rfl ?_
    refine x_if_ne (t := 75) (q := 61) dX0_isRowOfAll_58 (by decide) rfl (fun c58 => ?_) (fun c58 => ?_)
    · refine x_iconst (v := 0) (q := 76) dX0_isRowOfAll_75 rfl (by decide) ?_
      refine x_zret dX0_isRowOfAll_76 rfl rfl rfl (Nat.le_refl _) ?_
      have e9 : i = P := by omega
      subst e9
      have hlt : sC m i < 2 ^ 31 := by have := sC_lt m i; omega
      have hle : 2 ^ i ≤ 2 ^ 5 := Nat.pow_le_pow_right (by decide) hP
      have hone : 1 ≤ 2 ^ i := Nat.one_le_two_pow
      have hs : (1 : Int32) <<< (nI i &&& 31) - 1 = nI (2 ^ i - 1) := by rw [xshl1 _ (by omega)]; exact pk_sub hone
      refine hQ M _ ⟨tp0, tp1, tp2, tp3⟩ hf ?_
      first
        | exact Or.inl ⟨⟨(nI_eq hmi (by decide)).mp c58, (nI_eq hlt (by omega)).mp (c68.trans hs)⟩, rfl⟩
        | exact Or.inr ⟨fun h => c68 (by rw [h.2]; exact hs.symm), rfl⟩
        | exact Or.inr ⟨fun h => c58 (by rw [h.1]; rfl), rfl⟩
    · refine x_iload (q := 63) dX0_isRowOfAll_61 rfl rfl ?_
      refine x_iconst (v := 1) (q := 64) dX0_isRowOfAll_63 rfl (by decide) ?_
      refine x_iload_n (q := 65) dX0_isRowOfAll_64 rfl rfl ?_
      refine x_ishl (q := 66) dX0_isRowOfAll_65 rfl ?_
      refine x_iconst (v := 1) (q := 67) dX0_isRowOfAll_66 rfl (by decide) ?_
      refine x_isub (q := 68) dX0_isRowOfAll_67 rfl ?_
      refine x_icmp_ne (t := 75) (q := 71) dX0_isRowOfAll_68 (by decide) rfl (fun c68 => ?_) (fun c68 => ?_)
      · refine x_iconst (v := 0) (q := 76) dX0_isRowOfAll_75 rfl (by decide) ?_
        refine x_zret dX0_isRowOfAll_76 rfl rfl rfl (Nat.le_refl _) ?_
        have e9 : i = P := by omega
        subst e9
        have hlt : sC m i < 2 ^ 31 := by have := sC_lt m i; omega
        have hle : 2 ^ i ≤ 2 ^ 5 := Nat.pow_le_pow_right (by decide) hP
        have hone : 1 ≤ 2 ^ i := Nat.one_le_two_pow
        have hs : (1 : Int32) <<< (nI i &&& 31) - 1 = nI (2 ^ i - 1) := by rw [xshl1 _ (by omega)]; exact pk_sub hone
        refine hQ M _ ⟨tp0, tp1, tp2, tp3⟩ hf ?_
        first
          | exact Or.inl ⟨⟨(nI_eq hmi (by decide)).mp c58, (nI_eq hlt (by omega)).mp (c68.trans hs)⟩, rfl⟩
          | exact Or.inr ⟨fun h => c68 (by rw [h.2]; exact hs.symm), rfl⟩
          | exact Or.inr ⟨fun h => c58 (by rw [h.1]; rfl), rfl⟩
      · refine x_iconst (v := 1) (q := 72) dX0_isRowOfAll_71 rfl (by decide) ?_
        refine x_goto (q := 76) dX0_isRowOfAll_72 (by decide) ?_
        refine x_zret dX0_isRowOfAll_76 rfl rfl rfl (Nat.le_refl _) ?_
        have e9 : i = P := by omega
        subst e9
        have hlt : sC m i < 2 ^ 31 := by have := sC_lt m i; omega
        have hle : 2 ^ i ≤ 2 ^ 5 := Nat.pow_le_pow_right (by decide) hP
        have hone : 1 ≤ 2 ^ i := Nat.one_le_two_pow
        have hs : (1 : Int32) <<< (nI i &&& 31) - 1 = nI (2 ^ i - 1) := by rw [xshl1 _ (by omega)]; exact pk_sub hone
        refine hQ M _ ⟨tp0, tp1, tp2, tp3⟩ hf ?_
        first
          | exact Or.inl ⟨⟨(nI_eq hmi (by decide)).mp c58, (nI_eq hlt (by omega)).mp (c68.trans hs)⟩, rfl⟩
          | exact Or.inr ⟨fun h => c68 (by rw [h.2]; exact hs.symm), rfl⟩
          | exact Or.inr ⟨fun h => c58 (by rw [h.1]; rfl), rfl⟩
  | succ k ih =>
    intro i M hik hT hf
    obtain ⟨tp0, tp1, tp2, tp3⟩ := hT
    have hmi : m / 10 ^ i < 2 ^ 31 := Nat.lt_of_le_of_lt (Nat.div_le_self _ _) hm
    refine x_iload (q := 18) dX0_isRowOfAll_16 rfl rfl ?_
    refine x_if_lt (t := 57) (q := 21) dX0_isRowOfAll_18 (by decide) rfl (fun c18 => absurd c18 (by rw [show P - i = (P - i - 1) + 1 by omega, nI_pred]; exact nI_pos (by omega))) (fun c18 => ?_)
    refine x_aload_n (q := 22) dX0_isRowOfAll_21 rfl rfl ?_
    refine x_getf (C := RX0) (T := TX0) (N := 4) (k := 2) (q := 25) tp0 (by omega) rfl hiX0 (by decide) (by decide +kernel) rfl dX0_isRowOfAll_22 rfl ?_
    refine x_iload (q := 27) dX0_isRowOfAll_25 rfl rfl ?_
    refine x_iload_n (q := 28) dX0_isRowOfAll_27 rfl rfl ?_
    refine x_bipush (v := 10) (q := 30) dX0_isRowOfAll_28 rfl (by decide) ?_
    refine x_irem (q := 31) dX0_isRowOfAll_30 rfl (by decide) ?_
    refine x_iast (q := 32) tp2 (by omega) (by rw [show P - i = (P - i - 1) + 1 by omega, nI_pred]; exact vp_in_nI (by omega) (by decide)) dX0_isRowOfAll_31 rfl (fun M31 w31 o31 => ?_)
    refine x_iload (q := 34) dX0_isRowOfAll_32 rfl rfl ?_
    refine x_iconst (v := 1) (q := 35) dX0_isRowOfAll_34 rfl (by decide) ?_
    refine x_aload_n (q := 36) dX0_isRowOfAll_35 rfl rfl ?_
    have hv1_1_p := ((o31 (p) (by omega)).trans tp0)
    refine x_getf (C := RX0) (T := TX0) (N := 4) (k := 2) (q := 39) hv1_1_p (by omega) rfl hiX0 (by decide) (by decide +kernel) rfl dX0_isRowOfAll_36 rfl ?_
    refine x_iload (q := 41) dX0_isRowOfAll_39 rfl rfl ?_
    refine x_iald (q := 42) w31 (by omega) (by rw [show P - i = (P - i - 1) + 1 by omega, nI_pred]; exact vp_in_nI (by omega) (by decide)) dX0_isRowOfAll_41 rfl ?_
    refine x_ishl (q := 43) dX0_isRowOfAll_42 rfl ?_
    refine x_ior (q := 44) dX0_isRowOfAll_43 rfl ?_
    refine x_istore (L' := fun x4_44 => [(4, .int x4_44), (5, .int (nI (P - i) - 1)), (3, .int (nI (m / 10 ^ i))), (0, .ref p), (1, .int (nI m)), (2, .int (nI P))]) (q := 46) dX0_isRowOfAll_44 rfl (by decide) (fun _ => rfl) (fun x4_44 ex4_44 => ?_)
    refine x_iload_n (q := 47) dX0_isRowOfAll_46 rfl rfl ?_
    refine x_bipush (v := 10) (q := 49) dX0_isRowOfAll_47 rfl (by decide) ?_
    refine x_idiv (q := 50) dX0_isRowOfAll_49 rfl (by decide) ?_
    refine x_istore_n (L' := fun x3_50 => [(3, .int x3_50), (4, .int x4_44), (5, .int (nI (P - i) - 1)), (0, .ref p), (1, .int (nI m)), (2, .int (nI P))]) (q := 51) dX0_isRowOfAll_50 rfl (by decide) (fun _ => rfl) (fun x3_50 ex3_50 => ?_)
    refine x_iinc (L' := fun x5_51 => [(5, .int x5_51), (3, .int x3_50), (4, .int x4_44), (0, .ref p), (1, .int (nI m)), (2, .int (nI P))]) (q := 54) dX0_isRowOfAll_51 rfl rfl (by decide) (fun _ => rfl) (fun x5_51 ex5_51 => ?_)
    refine x_goto (q := 16) dX0_isRowOfAll_54 (by decide) ?_
    rw [ex5_51, ex3_50, ex4_44]
    have hdv : nI (m / 10 ^ i) / 10 = nI (m / 10 ^ (i + 1)) := by rw [show (10 : Int32) = nI 10 from rfl, pk_div hmi (by decide) (by decide), Nat.div_div_eq_div_mul, Nat.pow_succ]
    have hrm : nI (m / 10 ^ i) - nI (m / 10 ^ i) / 10 * 10 = nI (dg m i) := by rw [show (10 : Int32) = nI 10 from rfl, pk_rem hmi (by decide) (by decide)]; rfl
    have hpl : nI (P - i) - 1 + Int32.ofInt (-1) = nI (P - (i + 1)) - 1 := by
      rw [show P - i = (P - (i + 1)) + 1 by omega, nI_pred, xm1]
    have hcl : (nI (P - i) - 1).toNatClampNeg = P - i - 1 := by
      rw [show P - i = (P - i - 1) + 1 by omega, nI_pred, nI_clamp (by omega)]; rfl
    rw [hrm, hcl] at w31
    have w32 : M31 (p + 2) = .inl (0, 5, .inl (rowF m P (i + 1) (t 2))) := by
      rw [w31]
      show Sum.inl (0, 5, Sum.inl (upd (rowF m P i (t 2)) (P - i - 1) (nI (dg m i)))) = _
      rw [rowF_s (by omega)]
    have hse : upd (rowF m P i (t 2)) (P - i - 1) (nI (dg m i)) (P - i - 1) = nI (dg m i) := if_pos rfl
    rw [hrm, hdv, hpl, hcl]
    show X _ _ _ _ [(5, _), (3, _), (4, .int (nI (sC m i) ||| (1 <<< (upd (rowF m P i (t 2)) (P - i - 1) (nI (dg m i)) (P - i - 1) &&& 31)))), (0, _), (1, _), (2, _)] _ _ _ _
    rw [hse, xshl1 _ (by have := dg_lt m i; omega), fa_or]
    exact ih (i + 1) M31 (by omega) ⟨(o31 _ (by omega)).trans tp0, (o31 _ (by omega)).trans tp1, w32, (o31 _ (by omega)).trans tp3⟩ (fun j hj => (o31 j (by omega)).trans (hf j hj))

set_option maxHeartbeats 4000000 in
set_option maxRecDepth 100000 in
theorem c_Bal_row {n : Nat} {M : Nat → xE} {p : Nat} {t : Nat → Nat → Int32} (hp : p + 3 < n) (hT : oX0 p t M) {a : Int32} {P : Nat} (hP : P ≤ 5) : xMet mX0_isRowOfAll [.ref p, .int a, .int (nI P)] n M (fun r M' => (a < 0 ∧ some (.int 0) = r ∧ M = M') ∨ (∃ m : Nat, m < 2 ^ 31 ∧ a = nI m ∧ oX0 p (fun k => if k = 2 then rowF m P P (t 2) else t k) M' ∧ xfr p (p + 4) M M' ∧ xB (m / 10 ^ P = 0 ∧ sC m P = 2 ^ P - 1) r)) := by
  refine xMet.of _ (by decide) rfl (Nat.le_of_ble_eq_true rfl) ?_
  refine x_iload_n (q := 1) dX0_isRowOfAll_0 rfl rfl ?_
  refine x_if_ge (t := 6) (q := 4) dX0_isRowOfAll_1 (by decide) rfl (fun c1 => ?_) (fun c1 => ?_)
  · refine x_iload_n (q := 7) dX0_isRowOfAll_6 rfl rfl ?_
    refine x_istore_n (L' := fun x3_7 => [(3, .int x3_7), (0, .ref p), (1, .int a), (2, .int (nI P))]) (q := 8) dX0_isRowOfAll_7 rfl (by decide) (fun _ => rfl) (fun x3_7 ex3_7 => ?_)
    refine x_iconst (v := 0) (q := 9) dX0_isRowOfAll_8 rfl (by decide) ?_
    refine x_istore (L' := fun x4_9 => [(4, .int x4_9), (3, .int x3_7), (0, .ref p), (1, .int a), (2, .int (nI P))]) (q := 11) dX0_isRowOfAll_9 rfl (by decide) (fun _ => rfl) (fun x4_9 ex4_9 => ?_)
    refine x_iload_n (q := 12) dX0_isRowOfAll_11 rfl rfl ?_
    refine x_iconst (v := 1) (q := 13) dX0_isRowOfAll_12 rfl (by decide) ?_
    refine x_isub (q := 14) dX0_isRowOfAll_13 rfl ?_
    refine x_istore (L' := fun x5_14 => [(5, .int x5_14), (4, .int x4_9), (3, .int x3_7), (0, .ref p), (1, .int a), (2, .int (nI P))]) (q := 16) dX0_isRowOfAll_14 rfl (by decide) (fun _ => rfl) (fun x5_14 ex5_14 => ?_)
    obtain ⟨m, hm, rfl⟩ := nI_of (xle_nlt.mpr c1)
    rw [ex3_7, ex4_9, ex5_14]
    refine x_loc (L' := [(5, .int (nI (P - 0) - 1)), (3, .int (nI (m / 10 ^ 0))), (4, .int (nI (sC m 0))), (0, .ref p), (1, .int (nI m)), (2, .int (nI P))]) (fun x hx => by simp only [List.mem_cons, Nat.pow_zero, Nat.div_one, Nat.sub_zero] at hx ⊢; rcases hx with h | h | h | h | h | h | h <;> simp_all [sC, nI_0]) ?_
    refine l_Bal_row (t := t) (M0 := M) hp hm hP (fun M r h1 h2 h3 => Or.inr ⟨m, hm, rfl, h1, h2, h3⟩) P 0 M (by omega) ?_ (fun j _ => rfl)
    obtain ⟨tp0, tp1, tp2, tp3⟩ := hT
    exact ⟨tp0, tp1, by rw [tp2]; show _ = Sum.inl (0, 5, Sum.inl (rowF m P 0 (t 2))); rw [rowF_0], tp3⟩
  · refine x_iconst (v := 0) (q := 5) dX0_isRowOfAll_4 rfl (by decide) ?_
    refine x_zret dX0_isRowOfAll_5 rfl rfl rfl (Nat.le_refl _) ?_
    exact Or.inl ⟨xlt_nle.mp c1, rfl, rfl⟩

set_option maxHeartbeats 4000000 in
set_option maxRecDepth 100000 in
theorem c_Bal_add {n : Nat} {M : Nat → xE} {p : Nat} {t : Nat → Nat → Int32} (hp : p + 3 < n) (hT : oX0 p t M) {B P : Nat} (hP : P ≤ 5) (hB : B ≤ 9) (h0 : t 0 0 = nI B) : xMet mX0_add [.ref p, .int (nI P)] n M (fun r M' => (B < 9 ∧ some (.int 1) = r ∧ oX0 p (fun i => if i = 0 then (fun _ => nI (B + 1)) else if i = 1 then va_cpy (t 2) (t 1) 0 (5 * B) P else t i) M' ∧ xfr p (p + 4) M M') ∨ (B = 9 ∧ some (.int 0) = r ∧ M = M')) := by
  obtain ⟨tp0, tp1, tp2, tp3⟩ := hT
  rw [h0] at tp0
  have hB5 : nI B * 5 = nI (5 * B) := by rw [show (5 : Int32) = nI 5 from rfl, pk_mul, Nat.mul_comm]
  have hiX0 : ∀ w ∈ wsX00, w ∈ wsX0_add := by decide +kernel
  refine xMet.of _ (by decide) rfl (Nat.le_of_ble_eq_true rfl) ?_
  refine x_aload_n (q := 1) dX0_add_0 rfl rfl ?_
  refine x_getf (C := RX0) (T := TX0) (N := 4) (k := 0) (q := 4) tp0 (by omega) rfl hiX0 (by decide) (by decide +kernel) rfl dX0_add_1 rfl ?_
  refine x_bipush (v := 9) (q := 6) dX0_add_4 rfl (by decide) ?_
  refine x_icmp_lt (t := 11) (q := 9) dX0_add_6 (by decide) rfl (fun c6 => ?_) (fun c6 => ?_)
  · have hB9 : B < 9 := (nI_ltI (b := 9) (by omega) (by decide)).mp c6
    refine x_aload_n (q := 12) dX0_add_11 rfl rfl ?_
    refine x_getf (C := RX0) (T := TX0) (N := 4) (k := 2) (q := 15) tp0 (by omega) rfl hiX0 (by decide) (by decide +kernel) rfl dX0_add_12 rfl ?_
    refine x_iconst (v := 0) (q := 16) dX0_add_15 rfl (by decide) ?_
    refine x_aload_n (q := 17) dX0_add_16 rfl rfl ?_
    refine x_getf (C := RX0) (T := TX0) (N := 4) (k := 1) (q := 20) tp0 (by omega) rfl hiX0 (by decide) (by decide +kernel) rfl dX0_add_17 rfl ?_
    refine x_aload_n (q := 21) dX0_add_20 rfl rfl ?_
    refine x_getf (C := RX0) (T := TX0) (N := 4) (k := 0) (q := 24) tp0 (by omega) rfl hiX0 (by decide) (by decide +kernel) rfl dX0_add_21 rfl ?_
    refine x_iconst (v := 5) (q := 25) dX0_add_24 rfl (by decide) ?_
    refine x_imul (q := 26) dX0_add_25 rfl ?_
    refine x_iload_n (q := 27) dX0_add_26 rfl rfl ?_
    rw [hB5]
    refine x_copyi (q := 30) (by decide +kernel) (by decide +kernel) (by decide +kernel) (by decide +kernel) tp2 (by omega) tp1 (by omega) (by decide) (nI_pos (by omega)) (nI_pos (by omega)) (by rw [nI_clamp (show P < 2 ^ 31 by omega)]; show 0 + P ≤ 5; omega) (by rw [nI_clamp (show P < 2 ^ 31 by omega), nI_clamp (by omega)]; omega) (by decide) (Nat.le_of_ble_eq_true rfl) dX0_add_27 rfl (fun M27 w27 o27 => ?_)
    rw [nI_clamp (show P < 2 ^ 31 by omega), nI_clamp (show 5 * B < 2 ^ 31 by omega)] at w27
    refine x_aload_n (q := 31) dX0_add_30 rfl rfl ?_
    refine x_dup (q := 32) dX0_add_31 rfl rfl ?_
    have hv1_1_p := ((o27 (p) (by omega)).trans tp0)
    refine x_getf (C := RX0) (T := TX0) (N := 4) (k := 0) (q := 35) hv1_1_p (by omega) rfl hiX0 (by decide) (by decide +kernel) rfl dX0_add_32 rfl ?_
    refine x_iconst (v := 1) (q := 36) dX0_add_35 rfl (by decide) ?_
    refine x_iadd (q := 37) dX0_add_36 rfl ?_
    refine x_put (C := RX0) (T := TX0) (N := 4) (k := 0) (q := 40) (ty := .int) tyX0_ok nmX0 hv1_1_p (by omega) rfl hiX0 (by decide) (by decide +kernel) rfl (by decide +kernel) (fun _ => rfl) (fun _ => rfl) (Nat.le_of_ble_eq_true rfl) dX0_add_37 rfl (fun M37 w37 o37 => ?_)
    refine x_iconst (v := 1) (q := 41) dX0_add_40 rfl (by decide) ?_
    refine x_zret dX0_add_41 rfl rfl rfl (Nat.le_refl _) ?_
    have hv2_2_p1 := ((o37 (p + 1) (by omega)).trans w27)
    have hv2_3_p2 := ((o37 (p + 2) (by omega)).trans ((o27 (p + 2) (by omega)).trans tp2))
    have hv2_4_p3 := ((o37 (p + 3) (by omega)).trans ((o27 (p + 3) (by omega)).trans tp3))
    exact Or.inl ⟨hB9, rfl, ⟨w37.trans (by rw [show nI B + 1 = nI (B + 1) from nI_1 B]; rfl), hv2_2_p1, hv2_3_p2, hv2_4_p3⟩, (fun j hj => ((o37 j (by omega)).trans ((o27 j (by omega)).trans rfl)))⟩
  · refine x_iconst (v := 0) (q := 10) dX0_add_9 rfl (by decide) ?_
    refine x_zret dX0_add_10 rfl rfl rfl (Nat.le_refl _) ?_
    exact Or.inr ⟨by have : ¬ B < 9 := fun h => c6 ((nI_ltI (a := B) (b := 9) (by omega) (by decide)).mpr h); omega, rfl, rfl⟩

set_option maxHeartbeats 4000000 in
set_option maxRecDepth 100000 in
theorem c_Bal_stand {n : Nat} {M : Nat → xE} {p : Nat} {t : Nat → Nat → Int32} (hp : p + 3 < n) (hT : oX0 p t M) {B j : Nat} (hB : B < 9) (hj : j < 5) : xMet mX0_standing [.ref p, .int (nI B), .int (nI j)] n M (fun r M' => M = M' ∧ some (.int (t 1 (5 * B + j))) = r) := by
  obtain ⟨tp0, tp1, tp2, tp3⟩ := hT
  have hB5 : nI B * 5 + nI j = nI (5 * B + j) := by rw [show (5 : Int32) = nI 5 from rfl, pk_mul, nI_add, Nat.mul_comm]
  have hiX0 : ∀ w ∈ wsX00, w ∈ wsX0_standing := by decide +kernel
  refine xMet.of _ (by decide) rfl (Nat.le_of_ble_eq_true rfl) ?_
  refine x_aload_n (q := 1) dX0_standing_0 rfl rfl ?_
  refine x_getf (C := RX0) (T := TX0) (N := 4) (k := 1) (q := 4) tp0 (by omega) rfl hiX0 (by decide) (by decide +kernel) rfl dX0_standing_1 rfl ?_
  refine x_iload_n (q := 5) dX0_standing_4 rfl rfl ?_
  refine x_iconst (v := 5) (q := 6) dX0_standing_5 rfl (by decide) ?_
  refine x_imul (q := 7) dX0_standing_6 rfl ?_
  refine x_iload_n (q := 8) dX0_standing_7 rfl rfl ?_
  refine x_iadd (q := 9) dX0_standing_8 rfl ?_
  rw [hB5]
  refine x_iald (q := 10) tp1 (by omega) (vp_in_nI (by omega) (by decide)) dX0_standing_9 rfl ?_
  refine x_iret dX0_standing_10 rfl rfl (Nat.le_refl _) ?_
  exact ⟨rfl, by rw [nI_clamp (by omega)]⟩

