/-! a text's tokens, as both readings see them -/
def tS (lt : Nat → Int32) (n : Nat) : Nat → Nat → Nat
  | 0, p => p
  | k + 1, p => if p < n ∧ lt p = 32 then tS lt n k (p + 1) else p
def tsp (lt : Nat → Int32) (n p : Nat) : Nat := tS lt n (n - p) p
def kd (x : Int32) : Nat := if 97 ≤ x ∧ x ≤ 122 then 0 else if 48 ≤ x ∧ x ≤ 57 then 1 else 2
def tE (lt : Nat → Int32) (n c : Nat) : Nat → Nat → Nat
  | 0, e => e
  | k + 1, e => if e < n ∧ kd (lt e) = c then tE lt n c k (e + 1) else e
def tkK (lt : Nat → Int32) (n p : Nat) : Nat := if tsp lt n p < n then kd (lt (tsp lt n p)) else 3
def tkE (lt : Nat → Int32) (n p : Nat) : Nat := if tsp lt n p < n then (if kd (lt (tsp lt n p)) = 2 then tsp lt n p + 1 else tE lt n (kd (lt (tsp lt n p))) (n - (tsp lt n p + 1)) (tsp lt n p + 1)) else tsp lt n p
theorem tS_b (lt : Nat → Int32) (n : Nat) : ∀ k p, p + k ≤ n → p ≤ tS lt n k p ∧ tS lt n k p ≤ p + k := by
  intro k
  induction k with
  | zero => intro p h; exact ⟨Nat.le_refl _, Nat.le_refl _⟩
  | succ k ih =>
    intro p h
    rw [tS]
    split
    · have := ih (p + 1) (by omega); omega
    · omega
theorem tsp_b (lt : Nat → Int32) {n p : Nat} (h : p ≤ n) : p ≤ tsp lt n p ∧ tsp lt n p ≤ n := by
  have := tS_b lt n (n - p) p (by omega)
  unfold tsp
  omega
theorem tE_b (lt : Nat → Int32) (n c : Nat) : ∀ k e, e + k ≤ n → e ≤ tE lt n c k e ∧ tE lt n c k e ≤ e + k := by
  intro k
  induction k with
  | zero => intro p h; exact ⟨Nat.le_refl _, Nat.le_refl _⟩
  | succ k ih =>
    intro p h
    rw [tE]
    split
    · have := ih (p + 1) (by omega); omega
    · omega
theorem tkE_b (lt : Nat → Int32) {n p : Nat} (h : p ≤ n) : tsp lt n p ≤ tkE lt n p ∧ tkE lt n p ≤ n := by
  have h1 := tsp_b lt h
  unfold tkE
  split
  · split
    · omega
    · have := tE_b lt n (kd (lt (tsp lt n p))) (n - (tsp lt n p + 1)) (tsp lt n p + 1) (by omega)
      omega
  · omega
theorem tkE_lt (lt : Nat → Int32) {n p : Nat} (h : p ≤ n) (h2 : tsp lt n p < n) : tsp lt n p < tkE lt n p := by
  unfold tkE
  rw [if_pos h2]
  split
  · omega
  · have := tE_b lt n (kd (lt (tsp lt n p))) (n - (tsp lt n p + 1)) (tsp lt n p + 1) (by omega)
    omega
theorem kd_lt (x : Int32) : kd x < 3 := by
  unfold kd
  split
  · decide
  · split <;> decide
theorem tkK_lt (lt : Nat → Int32) (n p : Nat) : tkK lt n p < 4 := by
  unfold tkK
  have := kd_lt (lt (tsp lt n p))
  split <;> omega
/-- all letters of a number are digits -/
theorem tE_in (lt : Nat → Int32) (n c : Nat) : ∀ k e j, e ≤ j → j < tE lt n c k e → kd (lt j) = c := by
  intro k
  induction k with
  | zero => intro e j h1 h2; rw [tE] at h2; omega
  | succ k ih =>
    intro e j h1 h2
    rw [tE] at h2
    split at h2
    · by_cases e1 : j = e
      · subst e1; rename_i h; exact h.2
      · exact ih (e + 1) j (by omega) h2
    · omega
theorem tk_dig (lt : Nat → Int32) {n p j : Nat} (hk : tkK lt n p = 1) (h1 : tsp lt n p ≤ j) (h2 : j < tkE lt n p) : kd (lt j) = 1 := by
  unfold tkK at hk
  unfold tkE at h2
  split at hk
  · rename_i h
    rw [if_pos h, if_neg (by omega), hk] at h2
    by_cases e : j = tsp lt n p
    · rw [e]; exact hk
    · exact tE_in lt n 1 _ _ j (by omega) h2
  · omega
theorem kd_dig {x : Int32} (h : kd x = 1) : ∃ d : Nat, d < 10 ∧ x = nI (48 + d) := by
  unfold kd at h
  split at h
  · omega
  · split at h
    · rename_i h2
      obtain ⟨g1, g2⟩ := h2
      rw [fa_le, show (48 : Int32).toInt = 48 from rfl] at g1
      rw [fa_le, show (57 : Int32).toInt = 57 from rfl] at g2
      refine ⟨(x.toInt - 48).toNat, by omega, ?_⟩
      rw [fa_eq, nI_toInt (by omega)]
      omega
    · omega
def dgv (x : Int32) : Nat := x.toNatClampNeg - 48
theorem dgv_of {d : Nat} (h : d < 10) : dgv (nI (48 + d)) = d := by unfold dgv; rw [nI_clamp (by omega)]; omega
def nvR (lt : Nat → Int32) : Nat → Nat → Nat → Nat
  | 0, _, v => v
  | k + 1, i, v => nvR lt k (i + 1) (10 * v + dgv (lt i))
def nvT (lt : Nat → Int32) (n p : Nat) : Nat := nvR lt (tkE lt n p - tsp lt n p) (tsp lt n p) 0
def num (lt : Nat → Int32) (n p lo H : Nat) : Option Nat := if tkK lt n p = 1 ∧ tkE lt n p - tsp lt n p ≤ 2 ∧ lo ≤ nvT lt n p ∧ nvT lt n p < H then some (nvT lt n p) else none
theorem nvT_lt (lt : Nat → Int32) {n p : Nat} (hk : tkK lt n p = 1) (h : tkE lt n p - tsp lt n p ≤ 2) : nvT lt n p < 100 := by
  unfold nvT
  have hd : ∀ j, tsp lt n p ≤ j → j < tkE lt n p → dgv (lt j) < 10 := by
    intro j h1 h2
    obtain ⟨d, hd, e⟩ := kd_dig (tk_dig lt hk h1 h2)
    rw [e, dgv_of hd]; exact hd
  rcases (show tkE lt n p - tsp lt n p = 0 ∨ tkE lt n p - tsp lt n p = 1 ∨ tkE lt n p - tsp lt n p = 2 by omega) with e | e | e
  · rw [e]; show 0 < 100; omega
  · rw [e]; show 10 * 0 + dgv (lt (tsp lt n p)) < 100
    have := hd (tsp lt n p) (by omega) (by omega); omega
  · rw [e]; show 10 * (10 * 0 + dgv (lt (tsp lt n p))) + dgv (lt (tsp lt n p + 1)) < 100
    have h1 := hd (tsp lt n p) (by omega) (by omega)
    have h2 := hd (tsp lt n p + 1) (by omega) (by omega)
    omega
def wB (c i : Nat) : Int32 := (xByt.getD c []).getD i 0
def wL (c : Nat) : Nat := xLen.getD c 0
def spR (lt : Nat → Int32) (s c : Nat) : Nat → Nat → Bool
  | 0, _ => true
  | k + 1, i => if wB c i = lt (s + i) then spR lt s c k (i + 1) else false
def spC (lt : Nat → Int32) (s e c : Nat) : Bool := decide (wL c = e - s) && spR lt s c (wL c) 0
def wdF (lt : Nat → Int32) (s e : Nat) : Nat → Nat → Option Nat
  | 0, _ => none
  | k + 1, c => if spC lt s e c = true then some c else wdF lt s e k (c + 1)
def wdT (lt : Nat → Int32) (n p : Nat) : Option Nat := if tkK lt n p = 0 then wdF lt (tsp lt n p) (tkE lt n p) 12 0 else none
abbrev tAct : Type := Nat × Nat × Nat × Nat × Nat
abbrev tRes : Type := Nat ⊕ (Nat × tAct)
def nB (lt : Nat → Int32) (n p lo H : Nat) (f : Nat → Nat → tRes) : tRes := (num lt n p lo H).elim (.inl (tsp lt n p)) (fun v => f v (tkE lt n p))
def rm (P W G c : Nat) : Bool := if 1 ≤ c ∧ c < 5 then decide (P < 5) else if c = 6 then decide (W < 6) else if c = 7 ∨ c = 8 then decide (G < 5) else true
def rdB (lt : Nat → Int32) (n P c q : Nat) : tRes :=
  if c = 5 then nB lt n q 0 P (fun a q1 => nB lt n q1 0 P (fun b q2 => if b = a then .inl (tsp lt n q1) else .inr (q2, 5, a, b, 0, 0)))
  else if c = 6 then nB lt n q 0 3 (fun a q1 => nB lt n q1 1 61 (fun b q2 => nB lt n q2 1 10 (fun d q3 => nB lt n q3 0 51 (fun e q4 => .inr (q4, 6, a, b, d, e)))))
  else if c = 7 ∨ c = 8 then nB lt n q 0 100 (fun a q1 => nB lt n q1 0 10 (fun b q2 => .inr (q2, c, a, b, 0, 0)))
  else if c = 9 then nB lt n q 1 100 (fun a q1 => .inr (q1, 9, a, 0, 0, 0))
  else if c = 10 then nB lt n q 0 4 (fun a q1 => nB lt n q1 0 4 (fun b q2 => if b = a then .inl (tsp lt n q1) else nB lt n q2 0 10 (fun d q3 => .inr (q3, 10, a, b, d, 0))))
  else .inr (q, c, 0, 0, 0, 0)
def rdC (lt : Nat → Int32) (n P W G p : Nat) : tRes := (wdT lt n p).elim (.inl (tsp lt n p)) (fun c => if rm P W G c = true then rdB lt n P c (tkE lt n p) else .inl (tsp lt n p))
def txT (tx : Nat → Nat → Int32) (n q : Nat) (f : Int32) : Nat → Nat → Int32 := fun z => if z = 4 then (fun _ => nI (tkK (tx 0) n q)) else if z = 5 then (fun _ => nI (tsp (tx 0) n q)) else if z = 6 then (fun _ => nI (tkE (tx 0) n q)) else if z = 7 then (fun _ => f) else tx z
set_option maxHeartbeats 4000000 in
set_option maxRecDepth 100000 in
theorem c_kindOf {n : Nat} {M : Nat → xE} {a : Int32} : xMet mX7_kindOf [.int a] n M (fun r M' => M = M' ∧ some (.int (nI (kd a))) = r) := by
  refine xMet.of _ (by decide) rfl (Nat.le_of_ble_eq_true rfl) ?_
  refine x_iload_n (q := 1) dX7_kindOf_0 rfl rfl ?_
  refine x_bipush (v := 97) (q := 3) dX7_kindOf_1 rfl (by decide) ?_
  refine x_icmp_lt (t := 14) (q := 6) dX7_kindOf_3 (by decide) rfl (fun c3 => ?_) (fun c3 => ?_)
  · refine x_iload_n (q := 15) dX7_kindOf_14 rfl rfl ?_
    refine x_bipush (v := 48) (q := 17) dX7_kindOf_15 rfl (by decide) ?_
    refine x_icmp_lt (t := 30) (q := 20) dX7_kindOf_17 (by decide) rfl (fun c17 => ?_) (fun c17 => ?_)
    · refine x_iconst (v := 2) (q := 31) dX7_kindOf_30 rfl (by decide) ?_
      refine x_iret dX7_kindOf_31 rfl rfl (Nat.le_refl _) ?_
      refine ⟨rfl, ?_⟩
      unfold kd
      first
        | (rw [if_pos ⟨xle_nlt.mp c3, xle_nlt.mp c9⟩]; rfl)
        | (rw [if_neg (fun h => absurd c3 (xle_nlt.mpr h.1)), if_pos ⟨xle_nlt.mp c17, xle_nlt.mp c23⟩]; rfl)
        | (rw [if_neg (fun h => absurd c9 (xle_nlt.mpr h.2)), if_pos ⟨xle_nlt.mp c17, xle_nlt.mp c23⟩]; rfl)
        | (rw [if_neg (fun h => absurd c3 (xle_nlt.mpr h.1)), if_neg (fun h => absurd c17 (xle_nlt.mpr h.1))]; rfl)
        | (rw [if_neg (fun h => absurd c9 (xle_nlt.mpr h.2)), if_neg (fun h => absurd c17 (xle_nlt.mpr h.1))]; rfl)
        | (rw [if_neg (fun h => absurd c3 (xle_nlt.mpr h.1)), if_neg (fun h => absurd c23 (xle_nlt.mpr h.2))]; rfl)
        | (rw [if_neg (fun h => absurd c9 (xle_nlt.mpr h.2)), if_neg (fun h => absurd c23 (xle_nlt.mpr h.2))]; rfl)
    · refine x_iload_n (q := 21) dX7_kindOf_20 rfl rfl ?_
      refine x_bipush (v := 57) (q := 23) dX7_kindOf_21 rfl (by decide) ?_
      refine x_icmp_gt (t := 30) (q := 26) dX7_kindOf_23 (by decide) rfl (fun c23 => ?_) (fun c23 => ?_)
      · refine x_iconst (v := 2) (q := 31) dX7_kindOf_30 rfl (by decide) ?_
        refine x_iret dX7_kindOf_31 rfl rfl (Nat.le_refl _) ?_
        refine ⟨rfl, ?_⟩
        unfold kd
        first
          | (rw [if_pos ⟨xle_nlt.mp c3, xle_nlt.mp c9⟩]; rfl)
          | (rw [if_neg (fun h => absurd c3 (xle_nlt.mpr h.1)), if_pos ⟨xle_nlt.mp c17, xle_nlt.mp c23⟩]; rfl)
          | (rw [if_neg (fun h => absurd c9 (xle_nlt.mpr h.2)), if_pos ⟨xle_nlt.mp c17, xle_nlt.mp c23⟩]; rfl)
          | (rw [if_neg (fun h => absurd c3 (xle_nlt.mpr h.1)), if_neg (fun h => absurd c17 (xle_nlt.mpr h.1))]; rfl)
          | (rw [if_neg (fun h => absurd c9 (xle_nlt.mpr h.2)), if_neg (fun h => absurd c17 (xle_nlt.mpr h.1))]; rfl)
          | (rw [if_neg (fun h => absurd c3 (xle_nlt.mpr h.1)), if_neg (fun h => absurd c23 (xle_nlt.mpr h.2))]; rfl)
          | (rw [if_neg (fun h => absurd c9 (xle_nlt.mpr h.2)), if_neg (fun h => absurd c23 (xle_nlt.mpr h.2))]; rfl)
      · refine x_iconst (v := 1) (q := 27) dX7_kindOf_26 rfl (by decide) ?_
        refine x_goto (q := 31) dX7_kindOf_27 (by decide) ?_
        refine x_iret dX7_kindOf_31 rfl rfl (Nat.le_refl _) ?_
        refine ⟨rfl, ?_⟩
        unfold kd
        first
          | (rw [if_pos ⟨xle_nlt.mp c3, xle_nlt.mp c9⟩]; rfl)
          | (rw [if_neg (fun h => absurd c3 (xle_nlt.mpr h.1)), if_pos ⟨xle_nlt.mp c17, xle_nlt.mp c23⟩]; rfl)
          | (rw [if_neg (fun h => absurd c9 (xle_nlt.mpr h.2)), if_pos ⟨xle_nlt.mp c17, xle_nlt.mp c23⟩]; rfl)
          | (rw [if_neg (fun h => absurd c3 (xle_nlt.mpr h.1)), if_neg (fun h => absurd c17 (xle_nlt.mpr h.1))]; rfl)
          | (rw [if_neg (fun h => absurd c9 (xle_nlt.mpr h.2)), if_neg (fun h => absurd c17 (xle_nlt.mpr h.1))]; rfl)
          | (rw [if_neg (fun h => absurd c3 (xle_nlt.mpr h.1)), if_neg (fun h => absurd c23 (xle_nlt.mpr h.2))]; rfl)
          | (rw [if_neg (fun h => absurd c9 (xle_nlt.mpr h.2)), if_neg (fun h => absurd c23 (xle_nlt.mpr h.2))]; rfl)
  · refine x_iload_n (q := 7) dX7_kindOf_6 rfl rfl ?_
    refine x_bipush (v := 122) (q := 9) dX7_kindOf_7 rfl (by decide) ?_
    refine x_icmp_gt (t := 14) (q := 12) dX7_kindOf_9 (by decide) rfl (fun c9 => ?_) (fun c9 => ?_)
    · refine x_iload_n (q := 15) dX7_kindOf_14 rfl rfl ?_
      refine x_bipush (v := 48) (q := 17) dX7_kindOf_15 rfl (by decide) ?_
      refine x_icmp_lt (t := 30) (q := 20) dX7_kindOf_17 (by decide) rfl (fun c17 => ?_) (fun c17 => ?_)
      · refine x_iconst (v := 2) (q := 31) dX7_kindOf_30 rfl (by decide) ?_
        refine x_iret dX7_kindOf_31 rfl rfl (Nat.le_refl _) ?_
        refine ⟨rfl, ?_⟩
        unfold kd
        first
          | (rw [if_pos ⟨xle_nlt.mp c3, xle_nlt.mp c9⟩]; rfl)
          | (rw [if_neg (fun h => absurd c3 (xle_nlt.mpr h.1)), if_pos ⟨xle_nlt.mp c17, xle_nlt.mp c23⟩]; rfl)
          | (rw [if_neg (fun h => absurd c9 (xle_nlt.mpr h.2)), if_pos ⟨xle_nlt.mp c17, xle_nlt.mp c23⟩]; rfl)
          | (rw [if_neg (fun h => absurd c3 (xle_nlt.mpr h.1)), if_neg (fun h => absurd c17 (xle_nlt.mpr h.1))]; rfl)
          | (rw [if_neg (fun h => absurd c9 (xle_nlt.mpr h.2)), if_neg (fun h => absurd c17 (xle_nlt.mpr h.1))]; rfl)
          | (rw [if_neg (fun h => absurd c3 (xle_nlt.mpr h.1)), if_neg (fun h => absurd c23 (xle_nlt.mpr h.2))]; rfl)
          | (rw [if_neg (fun h => absurd c9 (xle_nlt.mpr h.2)), if_neg (fun h => absurd c23 (xle_nlt.mpr h.2))]; rfl)
      · refine x_iload_n (q := 21) dX7_kindOf_20 rfl rfl ?_
        refine x_bipush (v := 57) (q := 23) dX7_kindOf_21 rfl (by decide) ?_
        refine x_icmp_gt (t := 30) (q := 26) dX7_kindOf_23 (by decide) rfl (fun c23 => ?_) (fun c23 => ?_)
        · refine x_iconst (v := 2) (q := 31) dX7_kindOf_30 rfl (by decide) ?_
          refine x_iret dX7_kindOf_31 rfl rfl (Nat.le_refl _) ?_
          refine ⟨rfl, ?_⟩
          unfold kd
          first
            | (rw [if_pos ⟨xle_nlt.mp c3, xle_nlt.mp c9⟩]; rfl)
            | (rw [if_neg (fun h => absurd c3 (xle_nlt.mpr h.1)), if_pos ⟨xle_nlt.mp c17, xle_nlt.mp c23⟩]; rfl)
            | (rw [if_neg (fun h => absurd c9 (xle_nlt.mpr h.2)), if_pos ⟨xle_nlt.mp c17, xle_nlt.mp c23⟩]; rfl)
            | (rw [if_neg (fun h => absurd c3 (xle_nlt.mpr h.1)), if_neg (fun h => absurd c17 (xle_nlt.mpr h.1))]; rfl)
            | (rw [if_neg (fun h => absurd c9 (xle_nlt.mpr h.2)), if_neg (fun h => absurd c17 (xle_nlt.mpr h.1))]; rfl)
            | (rw [if_neg (fun h => absurd c3 (xle_nlt.mpr h.1)), if_neg (fun h => absurd c23 (xle_nlt.mpr h.2))]; rfl)
            | (rw [if_neg (fun h => absurd c9 (xle_nlt.mpr h.2)), if_neg (fun h => absurd c23 (xle_nlt.mpr h.2))]; rfl)
        · refine x_iconst (v := 1) (q := 27) dX7_kindOf_26 rfl (by decide) ?_
          refine x_goto (q := 31) dX7_kindOf_27 (by decide) ?_
          refine x_iret dX7_kindOf_31 rfl rfl (Nat.le_refl _) ?_
          refine ⟨rfl, ?_⟩
          unfold kd
          first
            | (rw [if_pos ⟨xle_nlt.mp c3, xle_nlt.mp c9⟩]; rfl)
            | (rw [if_neg (fun h => absurd c3 (xle_nlt.mpr h.1)), if_pos ⟨xle_nlt.mp c17, xle_nlt.mp c23⟩]; rfl)
            | (rw [if_neg (fun h => absurd c9 (xle_nlt.mpr h.2)), if_pos ⟨xle_nlt.mp c17, xle_nlt.mp c23⟩]; rfl)
            | (rw [if_neg (fun h => absurd c3 (xle_nlt.mpr h.1)), if_neg (fun h => absurd c17 (xle_nlt.mpr h.1))]; rfl)
            | (rw [if_neg (fun h => absurd c9 (xle_nlt.mpr h.2)), if_neg (fun h => absurd c17 (xle_nlt.mpr h.1))]; rfl)
            | (rw [if_neg (fun h => absurd c3 (xle_nlt.mpr h.1)), if_neg (fun h => absurd c23 (xle_nlt.mpr h.2))]; rfl)
            | (rw [if_neg (fun h => absurd c9 (xle_nlt.mpr h.2)), if_neg (fun h => absurd c23 (xle_nlt.mpr h.2))]; rfl)
    · refine x_iconst (v := 0) (q := 13) dX7_kindOf_12 rfl (by decide) ?_
      refine x_iret dX7_kindOf_13 rfl rfl (Nat.le_refl _) ?_
      refine ⟨rfl, ?_⟩
      unfold kd
      first
        | (rw [if_pos ⟨xle_nlt.mp c3, xle_nlt.mp c9⟩]; rfl)
        | (rw [if_neg (fun h => absurd c3 (xle_nlt.mpr h.1)), if_pos ⟨xle_nlt.mp c17, xle_nlt.mp c23⟩]; rfl)
        | (rw [if_neg (fun h => absurd c9 (xle_nlt.mpr h.2)), if_pos ⟨xle_nlt.mp c17, xle_nlt.mp c23⟩]; rfl)
        | (rw [if_neg (fun h => absurd c3 (xle_nlt.mpr h.1)), if_neg (fun h => absurd c17 (xle_nlt.mpr h.1))]; rfl)
        | (rw [if_neg (fun h => absurd c9 (xle_nlt.mpr h.2)), if_neg (fun h => absurd c17 (xle_nlt.mpr h.1))]; rfl)
        | (rw [if_neg (fun h => absurd c3 (xle_nlt.mpr h.1)), if_neg (fun h => absurd c23 (xle_nlt.mpr h.2))]; rfl)
        | (rw [if_neg (fun h => absurd c9 (xle_nlt.mpr h.2)), if_neg (fun h => absurd c23 (xle_nlt.mpr h.2))]; rfl)

set_option maxHeartbeats 4000000 in
set_option maxRecDepth 100000 in
theorem l_tok1 {n N : Nat} {a : Int32} {tx : Nat → Nat → Int32} {Q : Option Value → (Nat → xE) → Prop} (hn : 24 < n) (hN : N ≤ 160) (h2 : tx 2 0 = nI N) : ∀ (k i : Nat) (M : Nat → xE), i + k = N → (oX7 12 tx M) → (∀ s, s = tS (tx 0) N k i → X mX7_readToken 0 0 27 [(2, .int (nI s)), (0, .ref 12), (1, .int a)] [] n M Q) → X mX7_readToken 0 0 2 [(2, .int (nI i)), (0, .ref 12), (1, .int a)] [] n M (Q) := by
  have hiX7 : ∀ w ∈ wsX70, w ∈ wsX7_readToken := by decide +kernel
  intro k
  induction k with
  | zero =>
    intro i M hik hX hk
    have hX0 := hX
    obtain ⟨xp0, xp1⟩ := hX
    refine x_iload_n (q := 3) dX7_readToken_2 rfl rfl ?_
    refine x_aload_n (q := 4) dX7_readToken_3 rfl rfl ?_
    refine x_getf (C := RX7) (T := TX7) (N := 8) (k := 2) (q := 7) xp0 (by omega) rfl hiX7 (by decide) (by decide +kernel) rfl dX7_readToken_4 rfl ?_
    rw [h2]
    refine x_icmp_ge (t := 27) (q := 10) dX7_readToken_7 (by decide) rfl (fun c7 => ?_) (fun c7 => absurd (nI_le (show N ≤ i by omega) (by omega)) c7)
    exact hk i rfl
  | succ k ih =>
    intro i M hik hX hk
    have hX0 := hX
    obtain ⟨xp0, xp1⟩ := hX
    refine x_iload_n (q := 3) dX7_readToken_2 rfl rfl ?_
    refine x_aload_n (q := 4) dX7_readToken_3 rfl rfl ?_
    refine x_getf (C := RX7) (T := TX7) (N := 8) (k := 2) (q := 7) xp0 (by omega) rfl hiX7 (by decide) (by decide +kernel) rfl dX7_readToken_4 rfl ?_
    rw [h2]
    refine x_icmp_ge (t := 27) (q := 10) dX7_readToken_7 (by decide) rfl (fun c7 => absurd c7 (nI_ge (a := i) (b := N) (by omega) (by omega))) (fun c7 => ?_)
    refine x_aload_n (q := 11) dX7_readToken_10 rfl rfl ?_
    refine x_getf (C := RX7) (T := TX7) (N := 8) (k := 0) (q := 14) xp0 (by omega) rfl hiX7 (by decide) (by decide +kernel) rfl dX7_readToken_11 rfl ?_
    refine x_iload_n (q := 15) dX7_readToken_14 rfl rfl ?_
    refine x_iald (q := 16) xp1 (by omega) (ixI (show (nI i : Int32) = nI i from rfl) (by omega) (by decide)) dX7_readToken_15 rfl ?_
    rw [ixC (show (nI i : Int32) = nI i from rfl) (by omega)]
    refine x_bipush (v := 32) (q := 18) dX7_readToken_16 rfl (by decide) ?_
    refine x_icmp_ne (t := 27) (q := 21) dX7_readToken_18 (by decide) rfl (fun c18 => ?_) (fun c18 => ?_)
    · exact hk i (by rw [tS, if_neg (fun h => c18 h.2)])
    · refine x_iinc (L' := fun x2_21 => [(2, .int x2_21), (0, .ref 12), (1, .int a)]) (q := 24) dX7_readToken_21 rfl rfl (by decide) (fun _ => rfl) (fun x2_21 ex2_21 => ?_)
      obtain rfl : x2_21 = nI (i + 1) := ex2_21.trans (nI_1 i)
      refine x_goto (q := 2) dX7_readToken_24 (by decide) ?_
      refine x_pick (L' := [(2, .int (nI (i + 1))), (0, .ref 12), (1, .int a)]) [0, 1, 2] rfl ?_
      exact ih (i + 1) M (by omega) hX0 (fun s hs => hk s (by rw [tS, if_pos ⟨by omega, c18⟩]; exact hs))

set_option maxHeartbeats 4000000 in
set_option maxRecDepth 100000 in
theorem l_tok2 {n N : Nat} {a : Int32} {tx : Nat → Nat → Int32} {Q : Option Value → (Nat → xE) → Prop} (hn : 24 < n) (hN : N ≤ 160) (h2 : tx 2 0 = nI N) {c s : Nat} {M0 : Nat → xE} (hc : c < 2) : ∀ (k i : Nat) (M : Nat → xE), i + k = N → (oX7 12 (fun z => if z = 4 then (fun _ => nI c) else if z = 5 then (fun _ => nI s) else if z = 6 then (fun _ => nI (i)) else tx z) M) → (xfr 12 14 M0 M) → (∀ M', oX7 12 (fun z => if z = 4 then (fun _ => nI c) else if z = 5 then (fun _ => nI s) else if z = 6 then (fun _ => nI (tE (tx 0) N c k i)) else tx z) M' → xfr 12 14 M0 M' → Q none M') → X mX7_readToken 0 0 71 [(2, .int (nI s)), (0, .ref 12), (1, .int a)] [] n M (Q) := by
  have hiX7 : ∀ w ∈ wsX70, w ∈ wsX7_readToken := by decide +kernel
  intro k
  induction k with
  | zero =>
    intro i M hik hX hf hk
    have hX0 := hX
    obtain ⟨xp0, xp1⟩ := hX
    refine x_aload_n (q := 72) dX7_readToken_71 rfl rfl ?_
    refine x_getf (C := RX7) (T := TX7) (N := 8) (k := 4) (q := 75) xp0 (by omega) rfl hiX7 (by decide) (by decide +kernel) rfl dX7_readToken_72 rfl ?_
    show X mX7_readToken 0 0 _ _ [.int (nI c)] _ _ _
    refine x_iconst (v := 2) (q := 76) dX7_readToken_75 rfl (by decide) ?_
    refine x_icmp_eq (t := 122) (q := 79) dX7_readToken_76 (by decide) rfl (fun c76 => absurd ((nIne (a := c) (b := 2) (by omega) (by decide)).mp c76) (by omega)) (fun c76 => ?_)
    refine x_aload_n (q := 80) dX7_readToken_79 rfl rfl ?_
    refine x_getf (C := RX7) (T := TX7) (N := 8) (k := 6) (q := 83) xp0 (by omega) rfl hiX7 (by decide) (by decide +kernel) rfl dX7_readToken_80 rfl ?_
    show X mX7_readToken 0 0 _ _ [.int (nI i)] _ _ _
    refine x_aload_n (q := 84) dX7_readToken_83 rfl rfl ?_
    refine x_getf (C := RX7) (T := TX7) (N := 8) (k := 2) (q := 87) xp0 (by omega) rfl hiX7 (by decide) (by decide +kernel) rfl dX7_readToken_84 rfl ?_
    show X mX7_readToken 0 0 _ _ [.int (tx 2 0), .int (nI i)] _ _ _
    rw [h2]
    refine x_icmp_ge (t := 122) (q := 90) dX7_readToken_87 (by decide) rfl (fun c87 => ?_) (fun c87 => absurd (nI_le (show N ≤ i by omega) (by omega)) c87)
    refine x_vret dX7_readToken_122 rfl rfl (Nat.le_refl _) ?_
    exact hk M hX0 hf
  | succ k ih =>
    intro i M hik hX hf hk
    have hX0 := hX
    obtain ⟨xp0, xp1⟩ := hX
    have xp1 : M (12 + 1) = .inl (0, 160, .inl (tx 0)) := xp1
    refine x_aload_n (q := 72) dX7_readToken_71 rfl rfl ?_
    refine x_getf (C := RX7) (T := TX7) (N := 8) (k := 4) (q := 75) xp0 (by omega) rfl hiX7 (by decide) (by decide +kernel) rfl dX7_readToken_72 rfl ?_
    show X mX7_readToken 0 0 _ _ [.int (nI c)] _ _ _
    refine x_iconst (v := 2) (q := 76) dX7_readToken_75 rfl (by decide) ?_
    refine x_icmp_eq (t := 122) (q := 79) dX7_readToken_76 (by decide) rfl (fun c76 => absurd ((nIne (a := c) (b := 2) (by omega) (by decide)).mp c76) (by omega)) (fun c76 => ?_)
    refine x_aload_n (q := 80) dX7_readToken_79 rfl rfl ?_
    refine x_getf (C := RX7) (T := TX7) (N := 8) (k := 6) (q := 83) xp0 (by omega) rfl hiX7 (by decide) (by decide +kernel) rfl dX7_readToken_80 rfl ?_
    show X mX7_readToken 0 0 _ _ [.int (nI i)] _ _ _
    refine x_aload_n (q := 84) dX7_readToken_83 rfl rfl ?_
    refine x_getf (C := RX7) (T := TX7) (N := 8) (k := 2) (q := 87) xp0 (by omega) rfl hiX7 (by decide) (by decide +kernel) rfl dX7_readToken_84 rfl ?_
    show X mX7_readToken 0 0 _ _ [.int (tx 2 0), .int (nI i)] _ _ _
    rw [h2]
    refine x_icmp_ge (t := 122) (q := 90) dX7_readToken_87 (by decide) rfl (fun c87 => absurd c87 (nI_ge (a := i) (b := N) (by omega) (by omega))) (fun c87 => ?_)
    refine x_aload_n (q := 91) dX7_readToken_90 rfl rfl ?_
    refine x_getf (C := RX7) (T := TX7) (N := 8) (k := 0) (q := 94) xp0 (by omega) rfl hiX7 (by decide) (by decide +kernel) rfl dX7_readToken_91 rfl ?_
    refine x_aload_n (q := 95) dX7_readToken_94 rfl rfl ?_
    refine x_getf (C := RX7) (T := TX7) (N := 8) (k := 6) (q := 98) xp0 (by omega) rfl hiX7 (by decide) (by decide +kernel) rfl dX7_readToken_95 rfl ?_
    show X mX7_readToken 0 0 _ _ (.int (nI i) :: _) _ _ _
    refine x_iald (q := 99) xp1 (by omega) (ixI (show (nI i : Int32) = nI i from rfl) (by omega) (by decide)) dX7_readToken_98 rfl ?_
    rw [ixC (show (nI i : Int32) = nI i from rfl) (by omega)]
    refine x_callS (q := 102) c_kindOf eX7_readToken_52 gX7_readToken_X7_kindOf rfl (Nat.le_of_ble_eq_true rfl) ⟨Nat.le_refl _, Nat.le_refl _⟩ dX7_readToken_99 rfl rfl (fun r99 M99 p99 => ?_)
    obtain ⟨rfl, rfl⟩ := p99
    refine x_aload_n (q := 103) dX7_readToken_102 rfl rfl ?_
    refine x_getf (C := RX7) (T := TX7) (N := 8) (k := 4) (q := 106) xp0 (by omega) rfl hiX7 (by decide) (by decide +kernel) rfl dX7_readToken_103 rfl ?_
    show X mX7_readToken 0 0 _ _ [.int (nI c), .int (nI (kd (tx 0 i)))] _ _ _
    refine x_icmp_ne (t := 122) (q := 109) dX7_readToken_106 (by decide) rfl (fun c106 => ?_) (fun c106 => ?_)
    · refine x_vret dX7_readToken_122 rfl rfl (Nat.le_refl _) ?_
      exact hk M (by rw [tE, if_neg (fun h => c106 (by rw [h.2]))]; exact hX0) hf
    · refine x_aload_n (q := 110) dX7_readToken_109 rfl rfl ?_
      refine x_dup (q := 111) dX7_readToken_110 rfl rfl ?_
      refine x_getf (C := RX7) (T := TX7) (N := 8) (k := 6) (q := 114) xp0 (by omega) rfl hiX7 (by decide) (by decide +kernel) rfl dX7_readToken_111 rfl ?_
      show X mX7_readToken 0 0 _ _ [.int (nI i), .ref 12] _ _ _
      refine x_iconst (v := 1) (q := 115) dX7_readToken_114 rfl (by decide) ?_
      refine x_iadd (q := 116) dX7_readToken_115 rfl ?_
      rw [nI_1]
      refine x_put (C := RX7) (T := TX7) (N := 8) (k := 6) (q := 119) (ty := .int) tyX7_ok nmX7 xp0 (by omega) rfl hiX7 (by decide) (by decide +kernel) rfl (by decide +kernel) (fun _ => rfl) (fun _ => rfl) (Nat.le_of_ble_eq_true rfl) dX7_readToken_116 rfl (fun M116 w116 o116 => ?_)
      refine x_goto (q := 71) dX7_readToken_119 (by decide) ?_
      have hv1_1_13 := ((o116 (13) (by omega)).trans xp1)
      exact ih (i + 1) M116 (by omega) ⟨w116, hv1_1_13⟩ (fun j hj => ((o116 j (by omega)).trans (hf j hj))) (fun M' h1 h3 => hk M' (by rw [tE, if_pos ⟨by omega, (nIne (by have := kd_lt (tx 0 i); omega) (by omega)).mp c106⟩]; exact h1) h3)

set_option maxHeartbeats 4000000 in
set_option maxRecDepth 100000 in
theorem c_readToken {n N : Nat} {M : Nat → xE} {tx : Nat → Nat → Int32} (hn : 24 < n) (hN : N ≤ 160) (h2 : tx 2 0 = nI N) (hX : oX7 12 tx M) {p : Nat} (hp : p ≤ N) : xMet mX7_readToken [.ref 12, .int (nI p)] n M (fun r M' => none = r ∧ oX7 12 (txT tx N p (tx 7 0)) M' ∧ xfr 12 14 M M') := by
  have hX0 := hX
  obtain ⟨xp0, xp1⟩ := hX
  have hiX7 : ∀ w ∈ wsX70, w ∈ wsX7_readToken := by decide +kernel
  refine xMet.of _ (by decide) rfl (Nat.le_of_ble_eq_true rfl) ?_
  refine x_iload_n (q := 1) dX7_readToken_0 rfl rfl ?_
  refine x_istore_n (L' := fun x2_1 => [(2, .int x2_1), (0, .ref 12), (1, .int (nI p))]) (q := 2) dX7_readToken_1 rfl (by decide) (fun _ => rfl) (fun x2_1 ex2_1 => ?_)
  obtain rfl : x2_1 = nI p := ex2_1
  refine l_tok1 (a := nI p) hn hN h2 (N - p) p M (by omega) hX0 (fun s hs => ?_)
  have hb := tsp_b (tx 0) hp
  have hs2 : tsp (tx 0) N p = s := hs.symm
  rw [hs2] at hb
  refine x_aload_n (q := 28) dX7_readToken_27 rfl rfl ?_
  refine x_iload_n (q := 29) dX7_readToken_28 rfl rfl ?_
  refine x_put (C := RX7) (T := TX7) (N := 8) (k := 5) (q := 32) (ty := .int) tyX7_ok nmX7 xp0 (by omega) rfl hiX7 (by decide) (by decide +kernel) rfl (by decide +kernel) (fun _ => rfl) (fun _ => rfl) (Nat.le_of_ble_eq_true rfl) dX7_readToken_29 rfl (fun M29 w29 o29 => ?_)
  refine x_aload_n (q := 33) dX7_readToken_32 rfl rfl ?_
  refine x_iload_n (q := 34) dX7_readToken_33 rfl rfl ?_
  refine x_put (C := RX7) (T := TX7) (N := 8) (k := 6) (q := 37) (ty := .int) tyX7_ok nmX7 w29 (by omega) rfl hiX7 (by decide) (by decide +kernel) rfl (by decide +kernel) (fun _ => rfl) (fun _ => rfl) (Nat.le_of_ble_eq_true rfl) dX7_readToken_34 rfl (fun M34 w34 o34 => ?_)
  refine x_aload_n (q := 38) dX7_readToken_37 rfl rfl ?_
  refine x_iconst (v := 3) (q := 39) dX7_readToken_38 rfl (by decide) ?_
  refine x_put (C := RX7) (T := TX7) (N := 8) (k := 4) (q := 42) (ty := .int) tyX7_ok nmX7 w34 (by omega) rfl hiX7 (by decide) (by decide +kernel) rfl (by decide +kernel) (fun _ => rfl) (fun _ => rfl) (Nat.le_of_ble_eq_true rfl) dX7_readToken_39 rfl (fun M39 w39 o39 => ?_)
  refine x_iload_n (q := 43) dX7_readToken_42 rfl rfl ?_
  refine x_aload_n (q := 44) dX7_readToken_43 rfl rfl ?_
  refine x_getf (C := RX7) (T := TX7) (N := 8) (k := 2) (q := 47) w39 (by omega) rfl hiX7 (by decide) (by decide +kernel) rfl dX7_readToken_44 rfl ?_
  show X mX7_readToken 0 0 _ _ [.int (tx 2 0), .int (nI s)] _ _ _
  rw [h2]
  refine x_icmp_lt (t := 51) (q := 50) dX7_readToken_47 (by decide) rfl (fun c47 => ?_) (fun c47 => ?_)
  · have e1 : s < N := (nI_ltI (by omega) (by omega)).mp c47
    refine x_aload_n (q := 52) dX7_readToken_51 rfl rfl ?_
    refine x_aload_n (q := 53) dX7_readToken_52 rfl rfl ?_
    refine x_getf (C := RX7) (T := TX7) (N := 8) (k := 0) (q := 56) w39 (by omega) rfl hiX7 (by decide) (by decide +kernel) rfl dX7_readToken_53 rfl ?_
    refine x_iload_n (q := 57) dX7_readToken_56 rfl rfl ?_
    have hv3_1_13 := ((o39 (13) (by omega)).trans ((o34 (13) (by omega)).trans ((o29 (13) (by omega)).trans xp1)))
    refine x_iald (q := 58) hv3_1_13 (by omega) (ixI (show (nI s : Int32) = nI s from rfl) (by omega) (by decide)) dX7_readToken_57 rfl ?_
    rw [ixC (show (nI s : Int32) = nI s from rfl) (by omega)]
    refine x_callS (q := 61) c_kindOf eX7_readToken_52 gX7_readToken_X7_kindOf rfl (Nat.le_of_ble_eq_true rfl) ⟨Nat.le_refl _, Nat.le_refl _⟩ dX7_readToken_58 rfl rfl (fun r58 M58 p58 => ?_)
    obtain ⟨rfl, rfl⟩ := p58
    refine x_put (C := RX7) (T := TX7) (N := 8) (k := 4) (q := 64) (ty := .int) tyX7_ok nmX7 w39 (by omega) rfl hiX7 (by decide) (by decide +kernel) rfl (by decide +kernel) (fun _ => rfl) (fun _ => rfl) (Nat.le_of_ble_eq_true rfl) dX7_readToken_61 rfl (fun M61 w61 o61 => ?_)
    refine x_aload_n (q := 65) dX7_readToken_64 rfl rfl ?_
    refine x_iload_n (q := 66) dX7_readToken_65 rfl rfl ?_
    refine x_iconst (v := 1) (q := 67) dX7_readToken_66 rfl (by decide) ?_
    refine x_iadd (q := 68) dX7_readToken_67 rfl ?_
    rw [nI_1]
    refine x_put (C := RX7) (T := TX7) (N := 8) (k := 6) (q := 71) (ty := .int) tyX7_ok nmX7 w61 (by omega) rfl hiX7 (by decide) (by decide +kernel) rfl (by decide +kernel) (fun _ => rfl) (fun _ => rfl) (Nat.le_of_ble_eq_true rfl) dX7_readToken_68 rfl (fun M68 w68 o68 => ?_)
    have hkl := kd_lt (tx 0 s)
    have hv5_2_13 := ((o68 (13) (by omega)).trans ((o61 (13) (by omega)).trans hv3_1_13))
    by_cases hk2 : kd (tx 0 s) = 2
    · refine x_aload_n (q := 72) dX7_readToken_71 rfl rfl ?_
      refine x_getf (C := RX7) (T := TX7) (N := 8) (k := 4) (q := 75) w68 (by omega) rfl hiX7 (by decide) (by decide +kernel) rfl dX7_readToken_72 rfl ?_
      refine x_iconst (v := 2) (q := 76) dX7_readToken_75 rfl (by decide) ?_
      refine x_icmp_eq (t := 122) (q := 79) dX7_readToken_76 (by decide) rfl (fun c76 => ?_) (fun c76 => absurd (show nI (kd (tx 0 s)) = 2 by rw [hk2]; rfl) c76)
      refine x_vret dX7_readToken_122 rfl rfl (Nat.le_refl _) ?_
      refine ⟨rfl, ?_, fun j hj => ((o68 j (by omega)).trans ((o61 j (by omega)).trans ((o39 j (by omega)).trans ((o34 j (by omega)).trans ((o29 j (by omega)).trans rfl)))))⟩
      unfold txT tkK tkE
      rw [hs2, if_pos e1, if_pos e1, if_pos hk2]
      exact ⟨w68, hv5_2_13⟩
    · exact l_tok2 (c := kd (tx 0 s)) (s := s) (M0 := M) hn hN h2 (by omega) (N - (s + 1)) (s + 1) M68 (by omega) ⟨w68, hv5_2_13⟩ (fun j hj => ((o68 j (by omega)).trans ((o61 j (by omega)).trans ((o39 j (by omega)).trans ((o34 j (by omega)).trans ((o29 j (by omega)).trans rfl)))))) (fun M' h1 h3 => ⟨rfl, by unfold txT tkK tkE; rw [hs2, if_pos e1, if_pos e1, if_neg hk2]; exact h1, h3⟩)
    
  · refine x_vret dX7_readToken_50 rfl rfl (Nat.le_refl _) ?_
    have hv3_1_13 := ((o39 (13) (by omega)).trans ((o34 (13) (by omega)).trans ((o29 (13) (by omega)).trans xp1)))
    have e1 : ¬ s < N := fun h => c47 (nI_lt h (by omega))
    refine ⟨rfl, ?_, fun j hj => ((o39 j (by omega)).trans ((o34 j (by omega)).trans ((o29 j (by omega)).trans rfl)))⟩
    unfold txT tkK tkE
    rw [hs2, if_neg e1, if_neg e1]
    exact ⟨w39, hv3_1_13⟩
  

