/-! pairs: every graph -/
def prT : List (Nat × Nat) := [(0, 1), (0, 2), (1, 2), (0, 3), (1, 3), (2, 3), (0, 4), (1, 4), (2, 4), (3, 4)]
def ixT (a b : Nat) : Nat := if a < b then b * (b - 1) / 2 + a else a * (a - 1) / 2 + b
def gE (c a b : Nat) : Bool := c.testBit (ixT a b)
def gC (E : Nat → Nat → Bool) : Nat := fbits (fun _ i => E (prT.getD i (0, 0)).1 (prT.getD i (0, 0)).2) 0 10
theorem gC_lt (E : Nat → Nat → Bool) : gC E < 1024 := fbits_lt _ 0 10
def ixB (a b : Nat) : Bool := !decide (¬ a = b) || (decide (ixT a b < 10) && (decide ((prT.getD (ixT a b) (0, 0)) = if a < b then (a, b) else (b, a))))
theorem ixB_ok : ∀ a, a < 5 → ∀ b, b < 5 → ixB a b = true := by decide +kernel
theorem gE_eq {E : Nat → Nat → Bool} (hs : ∀ a b, E a b = E b a) {a b : Nat} (ha : a < 5) (hb : b < 5) (hab : ¬ a = b) : gE (gC E) a b = E a b := by
  have h := ixB_ok a ha b hb
  unfold ixB at h
  rw [decide_eq_true hab, Bool.not_true, Bool.false_or, Bool.and_eq_true, decide_eq_true_iff, decide_eq_true_iff] at h
  unfold gE gC
  rw [fbits_tb _ 0 10 _ h.1, h.2]
  by_cases q : a < b
  · rw [if_pos q]
  · rw [if_neg q]; exact hs b a
section CG
variable {E F : Nat → Nat → Bool} {P : Nat}
theorem mwF_E {g : Nat → Nat} {one rest : Nat} : ∀ o, o ≤ one → (∀ x, x < one → E one x = F one x) → mwF E g one rest o = mwF F g one rest o
  | 0, _, _ => rfl
  | o + 1, h, e => by rw [mwF, mwF, mwF_E o (by omega) e, e o (by omega)]
theorem mmk_E : ∀ k S, (∀ a b, a < k → b < a → E a b = F a b) → mmk E k S = mmk F k S
  | 0, _, _ => rfl
  | k + 1, S, h => by
    have e : mmk E k = mmk F k := funext fun S => mmk_E k S (fun a b ha hb => h a b (by omega) hb)
    rw [mmk, mmk, e, mwF_E k (Nat.le_refl _) (fun x hx => h k x (Nat.lt_succ_self k) hx)]
theorem fpIn_E {most a : Nat} (h : ∀ a b, a < P → b < P → ¬ a = b → E a b = F a b) : ∀ k b, b + k ≤ P → a < b → fpIn E most P a k b = fpIn F most P a k b
  | 0, _, _, _ => rfl
  | k + 1, b, hb, hab => by
    rw [fpIn, fpIn, h a b (by omega) (by omega) (by omega), mmk_E P _ (fun x y hx hy => h x y hx (by omega) (by omega)), fpIn_E h k (b + 1) (by omega) (by omega)]
theorem fpOut_E {most : Nat} (h : ∀ a b, a < P → b < P → ¬ a = b → E a b = F a b) : ∀ k a, a + k ≤ P → fpOut E most P k a = fpOut F most P k a
  | 0, _, _ => rfl
  | k + 1, a, ha => by rw [fpOut, fpOut, fpIn_E h _ _ (by omega) (by omega), fpOut_E h k (a + 1) (by omega)]
theorem plI_E {a : Nat} (h : ∀ a b, a < P → b < P → ¬ a = b → E a b = F a b) : ∀ k b, b + k ≤ P → a < b → plI E a k b = plI F a k b
  | 0, _, _, _ => rfl
  | k + 1, b, hb, hab => by rw [plI, plI, h a b (by omega) (by omega) (by omega), plI_E h k (b + 1) (by omega) (by omega)]
theorem plO_E (h : ∀ a b, a < P → b < P → ¬ a = b → E a b = F a b) : ∀ k a, a + k ≤ P → plO E P k a = plO F P k a
  | 0, _, _ => rfl
  | k + 1, a, ha => by rw [plO, plO, plI_E h _ _ (by omega) (by omega), plO_E h k (a + 1) (by omega)]
theorem prL_E {most : Nat} (h : ∀ a b, a < P → b < P → ¬ a = b → E a b = F a b) : ∀ k a, a + k ≤ P → prL E P most k a = prL F P most k a
  | 0, _, _ => rfl
  | k + 1, a, ha => by rw [prL, prL, plO_E h _ _ (by omega), prL_E h k (a + 1) (by omega)]
end CG
def chk (P c : Nat) : Bool :=
  (bsL 99 (plO (gE c) P P 0) 0 0).getD 0 == mmk (gE c) P (2 ^ P - 1) &&
    (if mmk (gE c) P (2 ^ P - 1) = 0 then none else prL (gE c) P (mmk (gE c) P (2 ^ P - 1)) P 0) == fpOut (gE c) (mmk (gE c) P (2 ^ P - 1)) P P 0
theorem chk0 : chk 0 0 = true := by decide +kernel
def chkC (P c : Nat) : Bool := !decide (c < 1024) || chk P c
theorem chk_1 : ∀ i, i < 32 → ∀ j, j < 32 → chk 1 (32 * i + j) = true := by decide +kernel
theorem chk_2 : ∀ i, i < 32 → ∀ j, j < 32 → chk 2 (32 * i + j) = true := by decide +kernel
theorem chk_3 : ∀ i, i < 32 → ∀ j, j < 32 → chk 3 (32 * i + j) = true := by decide +kernel
