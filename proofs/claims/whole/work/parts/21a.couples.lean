theorem bt_nI {a i : Nat} (hi : i < 32) : bt (nI a) i = a.testBit i := by
  unfold bt nI
  show (BitVec.ofNat 32 a).getLsbD i = _
  rw [BitVec.getLsbD_ofNat]
  simp [hi]
theorem bo_nI {a k : Nat} (hk : k < 31) : bo (nI a) (nI k) = if a.testBit k then 1 else 0 := by
  have h : ∀ i, i < 32 → bt (bo (nI a) (nI k)) i = (decide (i = 0) && a.testBit k) := by
    intro i hi
    unfold bo
    rw [b_and, b_sshr k (by omega) _ hi, bt_1]
    by_cases e : i = 0
    · subst e
      rw [if_pos (by omega), bt_nI (by omega)]
      simp
    · simp [e]
  apply b_ext
  intro i hi
  rw [h i hi]
  by_cases hb : a.testBit k = true
  · rw [if_pos hb, bt_1, hb]; simp
  · rw [if_neg hb, b_0]; simp [hb]
theorem bo_1 {a k : Nat} (hk : k < 31) : bo (nI a) (nI k) = 1 ↔ a.testBit k = true := by
  rw [bo_nI hk]
  by_cases h : a.testBit k = true
  · simp [h]
  · rw [if_neg h]
    constructor
    · intro h2; exact absurd h2 (by decide)
    · intro h2; exact absurd h2 h
theorem nI_max {a b : Nat} (ha : a < 2 ^ 31) (hb : b < 2 ^ 31) : (if nI a < nI b then nI b else nI a) = nI (max a b) := by
  by_cases h : a < b
  · rw [if_pos ((nI_ltI ha hb).mpr h), Nat.max_eq_right (by omega)]
  · rw [if_neg (fun h2 => h ((nI_ltI ha hb).mp h2)), Nat.max_eq_left (by omega)]
/-- the most marriages of the set rest and one more, by those of sets (g), over the first o of them -/
def mwF (E : Nat → Nat → Bool) (g : Nat → Nat) (one rest : Nat) : Nat → Nat
  | 0 => g rest
  | o + 1 => if rest.testBit o && E one o then max (mwF E g one rest o) (1 + g (rest - 2 ^ o)) else mwF E g one rest o
def mmk (E : Nat → Nat → Bool) : Nat → Nat → Nat
  | 0, _ => 0
  | k + 1, S => if S.testBit k then mwF E (mmk E k) k (S - 2 ^ k) k else mmk E k S
theorem mwF_le {E : Nat → Nat → Bool} {g : Nat → Nat} {c : Nat} (hg : ∀ S, g S ≤ c) (one rest : Nat) : ∀ o, mwF E g one rest o ≤ c + 1
  | 0 => Nat.le_succ_of_le (hg _)
  | o + 1 => by
    have ih := mwF_le (E := E) hg one rest o
    have h2 := hg (rest - 2 ^ o)
    rw [mwF]
    split
    · exact Nat.max_le.mpr ⟨ih, by omega⟩
    · exact ih
theorem mmk_le (E : Nat → Nat → Bool) : ∀ k S, mmk E k S ≤ k
  | 0, _ => Nat.le_refl _
  | k + 1, S => by
    rw [mmk]
    split
    · exact mwF_le (fun S => mmk_le E k S) k _ k
    · exact Nat.le_succ_of_le (mmk_le E k S)
theorem mwF_cong {E : Nat → Nat → Bool} {g h : Nat → Nat} {one rest : Nat} (h0 : ∀ S, S ≤ rest → g S = h S) : ∀ o, mwF E g one rest o = mwF E h one rest o
  | 0 => h0 rest (Nat.le_refl _)
  | o + 1 => by
    rw [mwF, mwF, mwF_cong h0 o, h0 (rest - 2 ^ o) (Nat.sub_le _ _)]
theorem mmk_low (E : Nat → Nat → Bool) {k S : Nat} (h : S < 2 ^ k) : mmk E (k + 1) S = mmk E k S := by
  rw [mmk, if_neg (by rw [Nat.testBit_lt_two_pow h]; decide)]
theorem mmk_up (E : Nat → Nat → Bool) {k S : Nat} (h : S < 2 ^ k) : ∀ j, mmk E (k + j) S = mmk E k S
  | 0 => rfl
  | j + 1 => by
    rw [← Nat.add_assoc, mmk_low E (Nat.lt_of_lt_of_le h (Nat.pow_le_pow_right (by decide) (Nat.le_add_right k j))), mmk_up E h j]
theorem mmk_at (E : Nat → Nat → Bool) {k S : Nat} (h : S < 2 ^ k) : mmk E (k + 1) (S + 2 ^ k) = mwF E (mmk E k) k S k := by
  have h1 : (S + 2 ^ k).testBit k = true := by rw [Nat.add_comm, Nat.testBit_two_pow_add_eq, Nat.testBit_lt_two_pow h]; rfl
  rw [mmk, if_pos h1, Nat.add_sub_cancel]
/-- the set of those that one may marry -/
def fbits (E : Nat → Nat → Bool) (a : Nat) : Nat → Nat
  | 0 => 0
  | k + 1 => fbits E a k + (if E a k then 2 ^ k else 0)
theorem fbits_lt (E : Nat → Nat → Bool) (a : Nat) : ∀ k, fbits E a k < 2 ^ k
  | 0 => by show 0 < 1; decide
  | k + 1 => by
    have := fbits_lt E a k
    rw [fbits, Nat.pow_succ]
    split <;> omega
theorem fbits_tb (E : Nat → Nat → Bool) (a : Nat) : ∀ k j, j < k → (fbits E a k).testBit j = E a j
  | 0, j, h => absurd h (by omega)
  | k + 1, j, h => by
    have hl := fbits_lt E a k
    rw [fbits]
    by_cases e : j = k
    · subst e
      by_cases hE : E a j = true
      · rw [if_pos hE, Nat.add_comm, Nat.testBit_two_pow_add_eq, Nat.testBit_lt_two_pow hl, hE]; rfl
      · rw [if_neg hE, Nat.add_zero, Nat.testBit_lt_two_pow hl]; simpa using hE
    · have ih := fbits_tb E a k j (by omega)
      by_cases hE : E a k = true
      · rw [if_pos hE, Nat.add_comm, Nat.testBit_two_pow_add_gt (by omega), ih]
      · rw [if_neg hE, Nat.add_zero, ih]
theorem fbits_s (E : Nat → Nat → Bool) (a k : Nat) (hk : k < 31) : nI (fbits E a k) ||| (if E a k then (1 : Int32) <<< (nI k &&& 31) else 0) = nI (fbits E a (k + 1)) := by
  rw [fbits]
  by_cases hE : E a k = true
  · rw [if_pos hE, if_pos hE, xshl1 k hk, fa_or]
    have h := Nat.two_pow_add_eq_or_of_lt (fbits_lt E a k) 1
    rw [Nat.mul_one] at h
    rw [Nat.or_comm, ← h, Nat.add_comm]
  · rw [if_neg hE, if_neg hE, Nat.add_zero]
    exact Int32.or_zero
set_option maxHeartbeats 4000000 in
set_option maxRecDepth 100000 in
theorem l_Co_with {n p o R P : Nat} {t : Nat → Nat → Int32} {E : Nat → Nat → Bool} {g : Nat → Nat} {Q : Option Value → (Nat → xE) → Prop} (hp : p + 2 < n) (ho : o < 5) (hoP : o < P) (hP : P ≤ 5) (hR : R < 32) (hF : t 3 o = nI (fbits E o P)) (hg : ∀ S, S ≤ R → t 4 S = nI (g S)) (hgl : ∀ S, g S ≤ 5) : ∀ (k i : Nat) (M : Nat → xE), i + k = o → (oX2 p t M) → (Q (some (.int (nI (mwF E g o R o)))) M) → X mX2_mostWith 0 0 10 [(4, .int (nI i)), (3, .int (nI (mwF E g o R i))), (0, .ref p), (1, .int (nI o)), (2, .int (nI R))] [] n M (Q) := by
  have hiX2 : ∀ w ∈ wsX20, w ∈ wsX2_mostWith := by decide +kernel
  intro k
  induction k with
  | zero =>
    intro i M hik hT hQ
    have hT0 := hT
    obtain ⟨tp0, tp1, tp2⟩ := hT
    have hml : mwF E g o R i ≤ 6 := mwF_le hgl o R i
    refine x_iload (q := 12) dX2_mostWith_10 rfl rfl ?_
    refine x_iload_n (q := 13) dX2_mostWith_12 rfl rfl ?_
    refine x_icmp_ge (t := 57) (q := 16) dX2_mostWith_13 (by decide) rfl (fun c13 => ?_) (fun c13 => absurd (by rw [show i = o by omega]; exact nI_le (Nat.le_refl _) (by omega)) c13)
    refine x_iload_n (q := 58) dX2_mostWith_57 rfl rfl ?_
    refine x_iret dX2_mostWith_58 rfl rfl (Nat.le_refl _) ?_
    rw [show i = o by omega]
    exact hQ
  | succ k ih =>
    intro i M hik hT hQ
    have hT0 := hT
    obtain ⟨tp0, tp1, tp2⟩ := hT
    have hml : mwF E g o R i ≤ 6 := mwF_le hgl o R i
    refine x_iload (q := 12) dX2_mostWith_10 rfl rfl ?_
    refine x_iload_n (q := 13) dX2_mostWith_12 rfl rfl ?_
    refine x_icmp_ge (t := 57) (q := 16) dX2_mostWith_13 (by decide) rfl (fun c13 => absurd c13 (nI_ge (a := i) (b := o) (by omega) (by omega))) (fun c13 => ?_)
    refine x_iload_n (q := 17) dX2_mostWith_16 rfl rfl ?_
    refine x_aload_n (q := 18) dX2_mostWith_17 rfl rfl ?_
    refine x_getf (C := RX2) (T := TX2) (N := 5) (k := 3) (q := 21) tp0 (by omega) rfl hiX2 (by decide) (by decide +kernel) rfl dX2_mostWith_18 rfl ?_
    refine x_iload_n (q := 22) dX2_mostWith_21 rfl rfl ?_
    refine x_iald (q := 23) tp1 (by omega) (vp_in_nI ho (by decide)) dX2_mostWith_22 rfl ?_
    refine x_iand (q := 24) dX2_mostWith_23 rfl ?_
    refine x_iload (q := 26) dX2_mostWith_24 rfl rfl ?_
    refine x_callSN (q := 29) c_bitOf eX2_mostWith_45 gX2_mostWith_X10_bitOf_n45 (by decide) (by decide +kernel) (by decide +kernel) rfl (Nat.le_of_ble_eq_true rfl) ⟨Nat.le_refl _, Nat.le_refl _⟩ dX2_mostWith_26 rfl rfl (fun r26 M26 p26 => ?_)
    obtain ⟨rfl, rfl⟩ := p26
    refine x_iconst (v := 1) (q := 30) dX2_mostWith_29 rfl (by decide) ?_
    have hbit : bo (nI R &&& t 3 (nI o).toNatClampNeg) (nI i) = 1 ↔ (R.testBit i && E o i) = true := by
      rw [nIc ho (by decide), hF, fa_and, bo_1 (by omega), Nat.testBit_and, fbits_tb E o P i (by omega)]
    refine x_icmp_ne (t := 51) (q := 33) dX2_mostWith_30 (by decide) rfl (fun c30 => ?_) (fun c30 => ?_)
    · refine x_iinc (L' := fun x4_51 => [(4, .int x4_51), (3, .int (nI (mwF E g o R i))), (0, .ref p), (1, .int (nI o)), (2, .int (nI R))]) (q := 54) dX2_mostWith_51 rfl rfl (by decide) (fun _ => rfl) (fun x4_51 ex4_51 => ?_)
      obtain rfl : x4_51 = nI (i + 1) := ex4_51.trans (nI_1 i)
      refine x_goto (q := 10) dX2_mostWith_54 (by decide) ?_
      have hb2 : ¬ (R.testBit i && E o i) = true := fun h => c30 (hbit.mpr h)
      rw [show nI (mwF E g o R i) = nI (mwF E g o R (i + 1)) by rw [mwF, if_neg hb2]]
      refine x_pick (L' := [(4, .int (nI (i + 1))), (3, .int (nI (mwF E g o R (i + 1)))), (0, .ref p), (1, .int (nI o)), (2, .int (nI R))]) [0, 1, 2, 3, 4] rfl ?_
      exact ih (i + 1) M (by omega) hT0 hQ
    · have hb2 : (R.testBit i && E o i) = true := hbit.mp c30
      have hge : 2 ^ i ≤ R := Nat.ge_two_pow_of_testBit ((Bool.and_eq_true _ _ ▸ hb2).1)
      have hsh : nI R - (1 : Int32) <<< (nI i &&& 31) = nI (R - 2 ^ i) := by rw [xshl1 i (by omega)]; exact pk_sub hge
      have hlt : R - 2 ^ i < 32 := Nat.lt_of_le_of_lt (Nat.sub_le _ _) hR
      refine x_iload_n (q := 34) dX2_mostWith_33 rfl rfl ?_
      refine x_iconst (v := 1) (q := 35) dX2_mostWith_34 rfl (by decide) ?_
      refine x_aload_n (q := 36) dX2_mostWith_35 rfl rfl ?_
      refine x_getf (C := RX2) (T := TX2) (N := 5) (k := 4) (q := 39) tp0 (by omega) rfl hiX2 (by decide) (by decide +kernel) rfl dX2_mostWith_36 rfl ?_
      refine x_iload_n (q := 40) dX2_mostWith_39 rfl rfl ?_
      refine x_iconst (v := 1) (q := 41) dX2_mostWith_40 rfl (by decide) ?_
      refine x_iload (q := 43) dX2_mostWith_41 rfl rfl ?_
      refine x_ishl (q := 44) dX2_mostWith_43 rfl ?_
      refine x_isub (q := 45) dX2_mostWith_44 rfl ?_
      refine x_iald (q := 46) tp2 (by omega) (by rw [hsh]; exact vp_in_nI hlt (by decide)) dX2_mostWith_45 rfl ?_
      refine x_iadd (q := 47) dX2_mostWith_46 rfl ?_
      refine x_mmax (q := 50) (by decide +kernel) (by decide +kernel) (by decide +kernel) (by decide +kernel) (by decide) (Nat.le_of_ble_eq_true rfl) ⟨Nat.zero_le _, Nat.zero_le _⟩ dX2_mostWith_47 rfl ?_
      refine x_istore_n (L' := fun x3_50 => [(3, .int x3_50), (4, .int (nI i)), (0, .ref p), (1, .int (nI o)), (2, .int (nI R))]) (q := 51) dX2_mostWith_50 rfl (by decide) (fun _ => rfl) (fun x3_50 ex3_50 => ?_)
      obtain rfl : x3_50 = nI (mwF E g o R (i + 1)) := ex3_50.trans (by rw [hsh, nIc hlt (by decide), hg _ (Nat.sub_le _ _), show (1 : Int32) = nI 1 from rfl, nI_add, nI_max (by omega) (by have := hgl (R - 2 ^ i); omega), mwF, if_pos hb2])
      refine x_iinc (L' := fun x4_51 => [(4, .int x4_51), (3, .int (nI (mwF E g o R (i + 1)))), (0, .ref p), (1, .int (nI o)), (2, .int (nI R))]) (q := 54) dX2_mostWith_51 rfl rfl (by decide) (fun _ => rfl) (fun x4_51 ex4_51 => ?_)
      obtain rfl : x4_51 = nI (i + 1) := ex4_51.trans (nI_1 i)
      refine x_goto (q := 10) dX2_mostWith_54 (by decide) ?_
      refine x_pick (L' := [(4, .int (nI (i + 1))), (3, .int (nI (mwF E g o R (i + 1)))), (0, .ref p), (1, .int (nI o)), (2, .int (nI R))]) [0, 1, 2, 3, 4] rfl ?_
      exact ih (i + 1) M (by omega) hT0 hQ

set_option maxHeartbeats 4000000 in
set_option maxRecDepth 100000 in
theorem c_Co_with {n : Nat} {M : Nat → xE} {p o R P : Nat} {t : Nat → Nat → Int32} {E : Nat → Nat → Bool} {g : Nat → Nat} (hp : p + 2 < n) (ho : o < 5) (hoP : o < P) (hP : P ≤ 5) (hR : R < 32) (hF : t 3 o = nI (fbits E o P)) (hg : ∀ S, S ≤ R → t 4 S = nI (g S)) (hgl : ∀ S, g S ≤ 5) (hT : oX2 p t M) : xMet mX2_mostWith [.ref p, .int (nI o), .int (nI R)] n M (fun r M' => M = M' ∧ some (.int (nI (mwF E g o R o))) = r) := by
  have hT0 := hT
  obtain ⟨tp0, tp1, tp2⟩ := hT
  have hiX2 : ∀ w ∈ wsX20, w ∈ wsX2_mostWith := by decide +kernel
  refine xMet.of _ (by decide) rfl (Nat.le_of_ble_eq_true rfl) ?_
  refine x_aload_n (q := 1) dX2_mostWith_0 rfl rfl ?_
  refine x_getf (C := RX2) (T := TX2) (N := 5) (k := 4) (q := 4) tp0 (by omega) rfl hiX2 (by decide) (by decide +kernel) rfl dX2_mostWith_1 rfl ?_
  refine x_iload_n (q := 5) dX2_mostWith_4 rfl rfl ?_
  refine x_iald (q := 6) tp2 (by omega) (vp_in_nI hR (by decide)) dX2_mostWith_5 rfl ?_
  refine x_istore_n (L' := fun x3_6 => [(3, .int x3_6), (0, .ref p), (1, .int (nI o)), (2, .int (nI R))]) (q := 7) dX2_mostWith_6 rfl (by decide) (fun _ => rfl) (fun x3_6 ex3_6 => ?_)
  refine x_iconst (v := 0) (q := 8) dX2_mostWith_7 rfl (by decide) ?_
  refine x_istore (L' := fun x4_8 => [(4, .int x4_8), (3, .int x3_6), (0, .ref p), (1, .int (nI o)), (2, .int (nI R))]) (q := 10) dX2_mostWith_8 rfl (by decide) (fun _ => rfl) (fun x4_8 ex4_8 => ?_)
  obtain rfl : x3_6 = nI (mwF E g o R 0) := ex3_6.trans (by rw [nIc hR (by decide), hg R (Nat.le_refl _)]; rfl)
  subst ex4_8
  exact l_Co_with hp ho hoP hP hR hF hg hgl o 0 M (by omega) hT0 ⟨rfl, rfl⟩

