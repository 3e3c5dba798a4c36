/-- the set of those below n with p, by bits -/
def bset (p : Nat → Bool) : Nat → Int32
  | 0 => 0
  | k + 1 => if p k then bset p k ||| (1 <<< (nI k &&& 31)) else bset p k
theorem bset_cong {p q : Nat → Bool} : ∀ {n : Nat}, (∀ k, k < n → p k = q k) → bset p n = bset q n
  | 0, _ => rfl
  | n + 1, h => by rw [bset, bset, bset_cong (fun k hk => h k (Nat.lt_succ_of_lt hk)), h n (Nat.lt_succ_self n)]
theorem bt_1 (i : Nat) : bt 1 i = decide (i = 0) := by
  by_cases h : i < 32
  · have : ∀ i, i < 32 → bt 1 i = decide (i = 0) := by decide +kernel
    exact this i h
  · rw [b_big (by omega)]
    simp; omega
theorem bt_bset (p : Nat → Bool) : ∀ (n : Nat), n ≤ 32 → ∀ i, i < 32 → bt (bset p n) i = (decide (i < n) && p i)
  | 0, _, i, _ => by rw [bset, b_0]; simp
  | n + 1, hn, i, hi => by
    have ih := bt_bset p n (by omega) i hi
    rw [bset]
    by_cases hp : p n = true
    · rw [if_pos hp, b_or, ih, b_shl n (by omega) 1 hi, bt_1]
      by_cases e : i = n
      · subst e; simp [hp]
      · have h1 : (decide (n ≤ i) && decide (i - n = 0)) = false := by simp; omega
        rw [h1, Bool.or_false]
        congr 1
        simp; omega
    · rw [if_neg hp, ih]
      by_cases e : i = n
      · subst e; simp [hp]
      · congr 1
        simp; omega
/-- what is left of falls behind a century: those below n -/
def dFall (f : Nat → Int32) (n : Nat) : Nat → Int32 := fun j => if j < n then (if 0 < f j - 1 then f j - 1 else 0) else f j
theorem dFall_s (f : Nat → Int32) (n : Nat) : upd (dFall f n) n (if 0 < f n - 1 then f n - 1 else 0) = dFall f (n + 1) := by
  funext j
  unfold upd dFall
  by_cases e : j = n
  · subst e; simp
  · rw [if_neg e]
    by_cases h : j < n
    · rw [if_pos h, if_pos (show j < n + 1 by omega)]
    · rw [if_neg h, if_neg (show ¬ j < n + 1 by omega)]
theorem xinN {i N : Nat} {b : Nat} (h : i < N) (hN : N ≤ b) (hb : b < 2 ^ 31) : vp_in (nI i) b := vp_in_nI (by omega) hb
theorem nIc {i b : Nat} (h : i < b) (hb : b < 2 ^ 31) : (nI i).toNatClampNeg = i := nI_clamp (by omega)
set_option maxHeartbeats 4000000 in
set_option maxRecDepth 100000 in
theorem l_Day_holding {n N p : Nat} {t : Nat → Nat → Int32} {Q : Option Value → (Nat → xE) → Prop} (hp : p + 3 < n) (hN : N ≤ 6) : ∀ (k i : Nat) (M : Nat → xE), i + k = N → (oX3 p t M) → (Q (some (.int (bset (fun k => decide (0 < t 9 k)) N))) M) → X mX3_holdingBits 0 0 4 [(3, .int (nI i)), (2, .int (bset (fun k => decide (0 < t 9 k)) i)), (0, .ref p), (1, .int (nI N))] [] n M (Q) := by
  have hiX3 : ∀ w ∈ wsX30, w ∈ wsX3_holdingBits := by decide +kernel
  intro k
  induction k with
  | zero =>
    intro i M hik hT hQ
    obtain ⟨tp0, tp1, tp2, tp3⟩ := hT
    refine x_iload_n (q := 5) dX3_holdingBits_4 rfl rfl ?_
    refine x_iload_n (q := 6) dX3_holdingBits_5 rfl rfl ?_
    refine x_icmp_ge (t := 30) (q := 9) dX3_holdingBits_6 (by decide) rfl (fun c6 => ?_) (fun c6 => absurd (by rw [show i = N by omega]; exact nI_le (Nat.le_refl N) (by omega)) c6)
    refine x_iload_n (q := 31) dX3_holdingBits_30 rfl rfl ?_
    refine x_iret dX3_holdingBits_31 rfl rfl (Nat.le_refl _) ?_
    rw [show i = N by omega]
    exact hQ
  | succ k ih =>
    intro i M hik hT hQ
    obtain ⟨tp0, tp1, tp2, tp3⟩ := hT
    refine x_iload_n (q := 5) dX3_holdingBits_4 rfl rfl ?_
    refine x_iload_n (q := 6) dX3_holdingBits_5 rfl rfl ?_
    refine x_icmp_ge (t := 30) (q := 9) dX3_holdingBits_6 (by decide) rfl (fun c6 => absurd c6 (nI_ge (by omega) (by omega))) (fun c6 => ?_)
    refine x_aload_n (q := 10) dX3_holdingBits_9 rfl rfl ?_
    refine x_getf (C := RX3) (T := TX3) (N := 10) (k := 9) (q := 13) tp0 (by omega) rfl hiX3 (by decide) (by decide +kernel) rfl dX3_holdingBits_10 rfl ?_
    refine x_iload_n (q := 14) dX3_holdingBits_13 rfl rfl ?_
    refine x_iald (q := 15) tp3 (by omega) (xinN (show i < N by omega) hN (by decide)) dX3_holdingBits_14 rfl ?_
    refine x_if_le (t := 24) (q := 18) dX3_holdingBits_15 (by decide) rfl (fun c15 => ?_) (fun c15 => ?_)
    · refine x_iinc (L' := fun x3_24 => [(3, .int x3_24), (2, .int (bset (fun k => decide (0 < t 9 k)) i)), (0, .ref p), (1, .int (nI N))]) (q := 27) dX3_holdingBits_24 rfl rfl (by decide) (fun _ => rfl) (fun x3_24 ex3_24 => ?_)
      refine x_goto (q := 4) dX3_holdingBits_27 (by decide) ?_
      rw [ex3_24, show nI i + Int32.ofInt 1 = nI (i + 1) from nI_1 i]
      have e9 : bset (fun k => decide (0 < t 9 k)) i = bset (fun k => decide (0 < t 9 k)) (i + 1) := by
        rw [bset]; rw [nIc (show i < 6 by omega) (by decide)] at c15; simp [xle_nlt.mpr c15]
      refine x_loc (L' := [(3, .int (nI (i + 1))), (2, .int (bset (fun k => decide (0 < t 9 k)) (i + 1))), (0, .ref p), (1, .int (nI N))]) (fun x hx => by simp only [List.mem_cons] at hx ⊢; rcases hx with h | h | h | h | h <;> simp_all) ?_
      exact ih (i + 1) M (by omega) ⟨tp0, tp1, tp2, tp3⟩ hQ
    · refine x_iload_n (q := 19) dX3_holdingBits_18 rfl rfl ?_
      refine x_iconst (v := 1) (q := 20) dX3_holdingBits_19 rfl (by decide) ?_
      refine x_iload_n (q := 21) dX3_holdingBits_20 rfl rfl ?_
      refine x_ishl (q := 22) dX3_holdingBits_21 rfl ?_
      refine x_ior (q := 23) dX3_holdingBits_22 rfl ?_
      refine x_istore_n (L' := fun x2_23 => [(2, .int x2_23), (3, .int (nI i)), (0, .ref p), (1, .int (nI N))]) (q := 24) dX3_holdingBits_23 rfl (by decide) (fun _ => rfl) (fun x2_23 ex2_23 => ?_)
      refine x_iinc (L' := fun x3_24 => [(3, .int x3_24), (2, .int x2_23), (0, .ref p), (1, .int (nI N))]) (q := 27) dX3_holdingBits_24 rfl rfl (by decide) (fun _ => rfl) (fun x3_24 ex3_24 => ?_)
      refine x_goto (q := 4) dX3_holdingBits_27 (by decide) ?_
      rw [ex3_24, show nI i + Int32.ofInt 1 = nI (i + 1) from nI_1 i]
      have e9 : x2_23 = bset (fun k => decide (0 < t 9 k)) (i + 1) := by
        rw [bset]; rw [nIc (show i < 6 by omega) (by decide)] at c15; simp [ex2_23, xlt_nle.mp c15]
      refine x_loc (L' := [(3, .int (nI (i + 1))), (2, .int (bset (fun k => decide (0 < t 9 k)) (i + 1))), (0, .ref p), (1, .int (nI N))]) (fun x hx => by simp only [List.mem_cons] at hx ⊢; rcases hx with h | h | h | h | h <;> simp_all) ?_
      exact ih (i + 1) M (by omega) ⟨tp0, tp1, tp2, tp3⟩ hQ

set_option maxHeartbeats 4000000 in
set_option maxRecDepth 100000 in
theorem c_Day_holding {n : Nat} {M : Nat → xE} {N p : Nat} {t : Nat → Nat → Int32} (hp : p + 3 < n) (hN : N ≤ 6) (hT : oX3 p t M) : xMet mX3_holdingBits [.ref p, .int (nI N)] n M (fun r M' => M = M' ∧ some (.int (bset (fun k => decide (0 < t 9 k)) N)) = r) := by
  refine xMet.of _ (by decide) rfl (Nat.le_of_ble_eq_true rfl) ?_
  refine x_iconst (v := 0) (q := 1) dX3_holdingBits_0 rfl (by decide) ?_
  refine x_istore_n (L' := fun x2_1 => [(2, .int x2_1), (0, .ref p), (1, .int (nI N))]) (q := 2) dX3_holdingBits_1 rfl (by decide) (fun _ => rfl) (fun x2_1 ex2_1 => ?_)
  refine x_iconst (v := 0) (q := 3) dX3_holdingBits_2 rfl (by decide) ?_
  refine x_istore_n (L' := fun x3_3 => [(3, .int x3_3), (2, .int x2_1), (0, .ref p), (1, .int (nI N))]) (q := 4) dX3_holdingBits_3 rfl (by decide) (fun _ => rfl) (fun x3_3 ex3_3 => ?_)
  subst ex2_1
  subst ex3_3
  exact l_Day_holding hp hN N 0 M (by omega) hT ⟨rfl, rfl⟩

def dF (t : Nat → Nat → Int32) (n : Nat) : Nat → Nat → Int32 := fun k => if k = 9 then dFall (t 9) n else t k
def dFell (f : Nat → Int32) (n : Nat) : Int32 := bset (fun k => decide (0 < f k)) n &&& (bset (fun k => decide (0 < dFall f n k)) n ^^^ -1)
theorem dFall_at (f : Nat → Int32) (n : Nat) : dFall f n n = f n := by unfold dFall; rw [if_neg (by omega)]
theorem dFall_0 (f : Nat → Int32) : dFall f 0 = f := by funext j; unfold dFall; rw [if_neg (by omega)]
set_option maxHeartbeats 4000000 in
set_option maxRecDepth 100000 in
theorem l_Day_fall {n N p : Nat} {b0 : Int32} {t : Nat → Nat → Int32} {M0 : Nat → xE} {Q : Option Value → (Nat → xE) → Prop} (hp : p + 3 < n) (hN : N ≤ 6) (hQ : ∀ M : Nat → xE, oX3 p (dF t N) M → xfr p (p + 4) M0 M → Q (some (.int (b0 &&& (bset (fun k => decide (0 < dFall (t 9) N k)) N ^^^ -1)))) M) : ∀ (k i : Nat) (M : Nat → xE), i + k = N → (oX3 p (dF t i) M) → (xfr p (p + 4) M0 M) → X mX3_letWorksFall 0 0 8 [(3, .int (nI i)), (2, .int b0), (0, .ref p), (1, .int (nI N))] [] n M (Q) := by
  have hiX3 : ∀ w ∈ wsX30, w ∈ wsX3_letWorksFall := by decide +kernel
  intro k
  induction k with
  | zero =>
    intro i M hik hT hf
    have hT0 := hT
    obtain ⟨tp0, tp1, tp2, tp3⟩ := hT
    refine x_iload_n (q := 9) dX3_letWorksFall_8 rfl rfl ?_
    refine x_iload_n (q := 10) dX3_letWorksFall_9 rfl rfl ?_
    refine x_icmp_ge (t := 37) (q := 13) dX3_letWorksFall_10 (by decide) rfl (fun c10 => ?_) (fun c10 => absurd (by rw [show i = N by omega]; exact nI_le (Nat.le_refl N) (by omega)) c10)
    refine x_iload_n (q := 38) dX3_letWorksFall_37 rfl rfl ?_
    refine x_aload_n (q := 39) dX3_letWorksFall_38 rfl rfl ?_
    refine x_iload_n (q := 40) dX3_letWorksFall_39 rfl rfl ?_
    refine x_callV (q := 43) (ci := 3) (c_Day_holding (t := dF t i) (by omega) hN hT0) eX3_letWorksFall_74 gX3_letWorksFall_X3_holdingBits tp0 (by omega) rfl rfl rfl (Nat.le_of_ble_eq_true rfl) ⟨Nat.le_refl _, Nat.le_refl _⟩ dX3_letWorksFall_40 rfl rfl (fun r40 M40 p40 => ?_)
    obtain ⟨rfl, rfl⟩ := p40
    refine x_iconst (v := -1) (q := 44) dX3_letWorksFall_43 rfl (by decide) ?_
    refine x_ixor (q := 45) dX3_letWorksFall_44 rfl ?_
    refine x_iand (q := 46) dX3_letWorksFall_45 rfl ?_
    refine x_iret dX3_letWorksFall_46 rfl rfl (Nat.le_refl _) ?_
    have e9 : i = N := by omega
    subst e9
    exact hQ M hT0 hf
  | succ k ih =>
    intro i M hik hT hf
    have hT0 := hT
    obtain ⟨tp0, tp1, tp2, tp3⟩ := hT
    refine x_iload_n (q := 9) dX3_letWorksFall_8 rfl rfl ?_
    refine x_iload_n (q := 10) dX3_letWorksFall_9 rfl rfl ?_
    refine x_icmp_ge (t := 37) (q := 13) dX3_letWorksFall_10 (by decide) rfl (fun c10 => absurd c10 (nI_ge (by omega) (by omega))) (fun c10 => ?_)
    refine x_aload_n (q := 14) dX3_letWorksFall_13 rfl rfl ?_
    refine x_getf (C := RX3) (T := TX3) (N := 10) (k := 9) (q := 17) tp0 (by omega) rfl hiX3 (by decide) (by decide +kernel) rfl dX3_letWorksFall_14 rfl ?_
    refine x_iload_n (q := 18) dX3_letWorksFall_17 rfl rfl ?_
    refine x_iconst (v := 0) (q := 19) dX3_letWorksFall_18 rfl (by decide) ?_
    refine x_aload_n (q := 20) dX3_letWorksFall_19 rfl rfl ?_
    refine x_getf (C := RX3) (T := TX3) (N := 10) (k := 9) (q := 23) tp0 (by omega) rfl hiX3 (by decide) (by decide +kernel) rfl dX3_letWorksFall_20 rfl ?_
    refine x_iload_n (q := 24) dX3_letWorksFall_23 rfl rfl ?_
    refine x_iald (q := 25) tp3 (by omega) (xinN (show i < N by omega) hN (by decide)) dX3_letWorksFall_24 rfl ?_
    refine x_iconst (v := 1) (q := 26) dX3_letWorksFall_25 rfl (by decide) ?_
    refine x_isub (q := 27) dX3_letWorksFall_26 rfl ?_
    refine x_mmax (q := 30) (by decide +kernel) (by decide +kernel) (by decide +kernel) (by decide +kernel) (by decide) (Nat.le_of_ble_eq_true rfl) ⟨Nat.zero_le _, Nat.zero_le _⟩ dX3_letWorksFall_27 rfl ?_
    refine x_iast (q := 31) tp3 (by omega) (xinN (show i < N by omega) hN (by decide)) dX3_letWorksFall_30 rfl (fun M30 w30 o30 => ?_)
    refine x_iinc (L' := fun x3_31 => [(3, .int x3_31), (2, .int b0), (0, .ref p), (1, .int (nI N))]) (q := 34) dX3_letWorksFall_31 rfl rfl (by decide) (fun _ => rfl) (fun x3_31 ex3_31 => ?_)
    refine x_goto (q := 8) dX3_letWorksFall_34 (by decide) ?_
    have hv1_1_p := ((o30 (p) (by omega)).trans tp0)
    have hv1_2_p1 := ((o30 (p + 1) (by omega)).trans tp1)
    have hv1_3_p2 := ((o30 (p + 2) (by omega)).trans tp2)
    rw [ex3_31, show nI i + Int32.ofInt 1 = nI (i + 1) from nI_1 i]
    have w30 := w30
    rw [nIc (show i < 6 by omega) (by decide)] at w30
    have w31 : M30 (p + 3) = .inl (0, 6, .inl (dFall (t 9) (i + 1))) := by
      rw [w30]
      show _ = Sum.inl (0, 6, Sum.inl (dFall (t 9) (i + 1)))
      rw [← dFall_s, show dF t i 9 = dFall (t 9) i from rfl, dFall_at]
    exact ih (i + 1) M30 (by omega) ⟨(o30 _ (by omega)).trans tp0, (o30 _ (by omega)).trans tp1, (o30 _ (by omega)).trans tp2, w31⟩ (fun j hj => (o30 j (by omega)).trans (hf j hj))

set_option maxHeartbeats 4000000 in
set_option maxRecDepth 100000 in
theorem c_Day_fall {n : Nat} {M : Nat → xE} {N p : Nat} {t : Nat → Nat → Int32} (hp : p + 3 < n) (hN : N ≤ 6) (hT : oX3 p t M) : xMet mX3_letWorksFall [.ref p, .int (nI N)] n M (fun r M' => some (.int (dFell (t 9) N)) = r ∧ oX3 p (dF t N) M' ∧ xfr p (p + 4) M M') := by
  have hT0 := hT
  obtain ⟨tp0, tp1, tp2, tp3⟩ := hT
  refine xMet.of _ (by decide) rfl (Nat.le_of_ble_eq_true rfl) ?_
  refine x_aload_n (q := 1) dX3_letWorksFall_0 rfl rfl ?_
  refine x_iload_n (q := 2) dX3_letWorksFall_1 rfl rfl ?_
  refine x_callV (q := 5) (ci := 3) (c_Day_holding (t := t) (by omega) hN hT0) eX3_letWorksFall_74 gX3_letWorksFall_X3_holdingBits tp0 (by omega) rfl rfl rfl (Nat.le_of_ble_eq_true rfl) ⟨Nat.le_refl _, Nat.le_refl _⟩ dX3_letWorksFall_2 rfl rfl (fun r2 M2 p2 => ?_)
  obtain ⟨rfl, rfl⟩ := p2
  refine x_istore_n (L' := fun x2_5 => [(2, .int x2_5), (0, .ref p), (1, .int (nI N))]) (q := 6) dX3_letWorksFall_5 rfl (by decide) (fun _ => rfl) (fun x2_5 ex2_5 => ?_)
  refine x_iconst (v := 0) (q := 7) dX3_letWorksFall_6 rfl (by decide) ?_
  refine x_istore_n (L' := fun x3_7 => [(3, .int x3_7), (2, .int x2_5), (0, .ref p), (1, .int (nI N))]) (q := 8) dX3_letWorksFall_7 rfl (by decide) (fun _ => rfl) (fun x3_7 ex3_7 => ?_)
  subst ex2_5
  subst ex3_7
  exact l_Day_fall (t := t) hp hN (fun M h1 h2 => ⟨rfl, h1, h2⟩) N 0 M (by omega) ⟨tp0, tp1, tp2, by rw [tp3]; show _ = Sum.inl (0, 6, Sum.inl (dFall (t 9) 0)); rw [dFall_0]⟩ (fun j _ => rfl)

def dDraw (z c : Int32) : Int32 := (z * z + 31 * z + 17 * c + 5 - (z * z + 31 * z + 17 * c + 5) / 65521 * 65521) - (z * z + 31 * z + 17 * c + 5 - (z * z + 31 * z + 17 * c + 5) / 65521 * 65521) / 10 * 10
def dCent (t τ : Nat → Nat → Int32) (z : Int32) (N : Nat) : Nat → Nat → Int32 := fun i => if i = 0 then (fun _ => t 0 0 + 1) else if i = 1 then (fun _ => if dDraw z (t 0 0) < τ 14 (t 1 0).toNatClampNeg then τ 13 (t 1 0).toNatClampNeg else t 1 0) else if i = 4 then (fun _ => t 5 0) else if i = 5 then (fun _ => 0) else if i = 7 then (fun _ => τ 12 0) else if i = 9 then dFall (t 9) N else t i
set_option maxHeartbeats 4000000 in
set_option maxRecDepth 100000 in
theorem c_Day_century {n : Nat} {M : Nat → xE} {N p q : Nat} {t τ : Nat → Nat → Int32} {z : Int32} (hpq : p + 4 ≤ q ∨ q + 11 ≤ p) (hp : p + 3 < n) (hq : q + 10 < n) (hN : N ≤ 6) (hN1 : τ 3 0 = nI N) (hw : vp_in (t 1 0) 4) (hT : oX3 p t M) (hS : oX8 q τ M) : xMet mX3_letCenturyGo [.ref p, .ref q, .int z] n M (fun r M' => some (.int (dFell (t 9) N)) = r ∧ oX3 p (dCent t τ z N) M' ∧ xfr p (p + 4) M M') := by
  obtain ⟨tp0, tp1, tp2, tp3⟩ := hT
  obtain ⟨sp0, sp1, sp2, sp3, sp4, sp5, sp6, sp7, sp8, sp9, sp10⟩ := hS
  have hiX3 : ∀ w ∈ wsX30, w ∈ wsX3_letCenturyGo := by decide +kernel
  have hiX8 : ∀ w ∈ wsX80, w ∈ wsX3_letCenturyGo := by decide +kernel
  refine xMet.of _ (by decide) rfl (Nat.le_of_ble_eq_true rfl) ?_
  refine x_iload_n (q := 1) dX3_letCenturyGo_0 rfl rfl ?_
  refine x_iload_n (q := 2) dX3_letCenturyGo_1 rfl rfl ?_
  refine x_imul (q := 3) dX3_letCenturyGo_2 rfl ?_
  refine x_bipush (v := 31) (q := 5) dX3_letCenturyGo_3 rfl (by decide) ?_
  refine x_iload_n (q := 6) dX3_letCenturyGo_5 rfl rfl ?_
  refine x_imul (q := 7) dX3_letCenturyGo_6 rfl ?_
  refine x_iadd (q := 8) dX3_letCenturyGo_7 rfl ?_
  refine x_bipush (v := 17) (q := 10) dX3_letCenturyGo_8 rfl (by decide) ?_
  refine x_aload_n (q := 11) dX3_letCenturyGo_10 rfl rfl ?_
  refine x_getf (C := RX3) (T := TX3) (N := 10) (k := 0) (q := 14) tp0 (by omega) rfl hiX3 (by decide) (by decide +kernel) rfl dX3_letCenturyGo_11 rfl ?_
  refine x_imul (q := 15) dX3_letCenturyGo_14 rfl ?_
  refine x_iadd (q := 16) dX3_letCenturyGo_15 rfl ?_
  refine x_iconst (v := 5) (q := 17) dX3_letCenturyGo_16 rfl (by decide) ?_
  refine x_iadd (q := 18) dX3_letCenturyGo_17 rfl ?_
  refine x_ldc (v := 65521) (q := 20) (by decide +kernel) dX3_letCenturyGo_18 rfl ?_
  refine x_irem (q := 21) dX3_letCenturyGo_20 rfl (by decide) ?_
  refine x_bipush (v := 10) (q := 23) dX3_letCenturyGo_21 rfl (by decide) ?_
  refine x_irem (q := 24) dX3_letCenturyGo_23 rfl (by decide) ?_
  refine x_istore_n (L' := fun x3_24 => [(3, .int x3_24), (0, .ref p), (1, .ref q), (2, .int z)]) (q := 25) dX3_letCenturyGo_24 rfl (by decide) (fun _ => rfl) (fun x3_24 ex3_24 => ?_)
  refine x_iload_n (q := 26) dX3_letCenturyGo_25 rfl rfl ?_
  refine x_aload_n (q := 27) dX3_letCenturyGo_26 rfl rfl ?_
  refine x_getf (C := RX8) (T := TX8) (N := 15) (k := 14) (q := 30) sp0 (by omega) rfl hiX8 (by decide) (by decide +kernel) rfl dX3_letCenturyGo_27 rfl ?_
  refine x_aload_n (q := 31) dX3_letCenturyGo_30 rfl rfl ?_
  refine x_getf (C := RX3) (T := TX3) (N := 10) (k := 1) (q := 34) tp0 (by omega) rfl hiX3 (by decide) (by decide +kernel) rfl dX3_letCenturyGo_31 rfl ?_
  refine x_iald (q := 35) sp10 (by omega) hw dX3_letCenturyGo_34 rfl ?_
  refine x_icmp_ge (t := 51) (q := 38) dX3_letCenturyGo_35 (by decide) rfl (fun c35 => ?_) (fun c35 => ?_)
  · refine x_aload_n (q := 52) dX3_letCenturyGo_51 rfl rfl ?_
    refine x_dup (q := 53) dX3_letCenturyGo_52 rfl rfl ?_
    refine x_getf (C := RX3) (T := TX3) (N := 10) (k := 0) (q := 56) tp0 (by omega) rfl hiX3 (by decide) (by decide +kernel) rfl dX3_letCenturyGo_53 rfl ?_
    refine x_iconst (v := 1) (q := 57) dX3_letCenturyGo_56 rfl (by decide) ?_
    refine x_iadd (q := 58) dX3_letCenturyGo_57 rfl ?_
    refine x_put (C := RX3) (T := TX3) (N := 10) (k := 0) (q := 61) (ty := .int) tyX3_ok nmX3 tp0 (by omega) rfl hiX3 (by decide) (by decide +kernel) rfl (by decide +kernel) (fun _ => rfl) (fun _ => rfl) (Nat.le_of_ble_eq_true rfl) dX3_letCenturyGo_58 rfl (fun M58 w58 o58 => ?_)
    refine x_aload_n (q := 62) dX3_letCenturyGo_61 rfl rfl ?_
    refine x_aload_n (q := 63) dX3_letCenturyGo_62 rfl rfl ?_
    refine x_getf (C := RX3) (T := TX3) (N := 10) (k := 5) (q := 66) w58 (by omega) rfl hiX3 (by decide) (by decide +kernel) rfl dX3_letCenturyGo_63 rfl ?_
    refine x_put (C := RX3) (T := TX3) (N := 10) (k := 4) (q := 69) (ty := .int) tyX3_ok nmX3 w58 (by omega) rfl hiX3 (by decide) (by decide +kernel) rfl (by decide +kernel) (fun _ => rfl) (fun _ => rfl) (Nat.le_of_ble_eq_true rfl) dX3_letCenturyGo_66 rfl (fun M66 w66 o66 => ?_)
    refine x_aload_n (q := 70) dX3_letCenturyGo_69 rfl rfl ?_
    refine x_iconst (v := 0) (q := 71) dX3_letCenturyGo_70 rfl (by decide) ?_
    refine x_put (C := RX3) (T := TX3) (N := 10) (k := 5) (q := 74) (ty := .int) tyX3_ok nmX3 w66 (by omega) rfl hiX3 (by decide) (by decide +kernel) rfl (by decide +kernel) (fun _ => rfl) (fun _ => rfl) (Nat.le_of_ble_eq_true rfl) dX3_letCenturyGo_71 rfl (fun M71 w71 o71 => ?_)
    refine x_aload_n (q := 75) dX3_letCenturyGo_74 rfl rfl ?_
    refine x_getf (C := RX3) (T := TX3) (N := 10) (k := 7) (q := 78) w71 (by omega) rfl hiX3 (by decide) (by decide +kernel) rfl dX3_letCenturyGo_75 rfl ?_
    refine x_aload_n (q := 79) dX3_letCenturyGo_78 rfl rfl ?_
    have hv3_1_q := ((o71 (q) (by omega)).trans ((o66 (q) (by omega)).trans ((o58 (q) (by omega)).trans sp0)))
    refine x_getf (C := RX8) (T := TX8) (N := 15) (k := 12) (q := 82) hv3_1_q (by omega) rfl hiX8 (by decide) (by decide +kernel) rfl dX3_letCenturyGo_79 rfl ?_
    have hv3_2_p1 := ((o71 (p + 1) (by omega)).trans ((o66 (p + 1) (by omega)).trans ((o58 (p + 1) (by omega)).trans tp1)))
    refine x_callS (q := 85) (c_fillI (by omega) (by decide) hv3_2_p1) eX3_letCenturyGo_43 gX3_letCenturyGo_J7_fill_53178 rfl (Nat.le_of_ble_eq_true rfl) ⟨Nat.le_refl _, Nat.le_refl _⟩ dX3_letCenturyGo_82 rfl rfl (fun r82 M82 p82 => ?_)
    obtain ⟨rfl, w82, o82⟩ := p82
    refine x_aload_n (q := 86) dX3_letCenturyGo_85 rfl rfl ?_
    refine x_aload_n (q := 87) dX3_letCenturyGo_86 rfl rfl ?_
    have hv4_3_q := ((o82 (q) (by omega)).trans hv3_1_q)
    refine x_getf (C := RX8) (T := TX8) (N := 15) (k := 3) (q := 90) hv4_3_q (by omega) rfl hiX8 (by decide) (by decide +kernel) rfl dX3_letCenturyGo_87 rfl ?_
    have hv4_4_p := ((o82 (p) (by omega)).trans w71)
    have hv4_5_p2 := ((o82 (p + 2) (by omega)).trans ((o71 (p + 2) (by omega)).trans ((o66 (p + 2) (by omega)).trans ((o58 (p + 2) (by omega)).trans tp2))))
    have hv4_6_p3 := ((o82 (p + 3) (by omega)).trans ((o71 (p + 3) (by omega)).trans ((o66 (p + 3) (by omega)).trans ((o58 (p + 3) (by omega)).trans tp3))))
    have e87 : τ 3 0 = nI N := hN1
    rw [e87]
    refine x_callV (q := 93) (ci := 3) (c_Day_fall (p := p) (t := fun i => if i = 0 then (fun _ => t 0 0 + 1) else if i = 1 then (fun _ => t 1 0) else if i = 4 then (fun _ => t 5 0) else if i = 5 then (fun _ => 0) else if i = 7 then (fun _ => τ 12 0) else t i) (by omega) hN ⟨hv4_4_p, w82, hv4_5_p2, hv4_6_p3⟩) eX3_letCenturyGo_70 gX3_letCenturyGo_X3_letWorksFall hv4_4_p (by omega) rfl rfl rfl (Nat.le_of_ble_eq_true rfl) ⟨Nat.le_refl _, Nat.le_refl _⟩ dX3_letCenturyGo_90 rfl rfl (fun r90 M90 p90 => ?_)
    obtain ⟨rfl, ⟨y90_0, y90_1, y90_2, y90_3⟩, fr90⟩ := p90
    refine x_iret dX3_letCenturyGo_93 rfl rfl (Nat.le_refl _) ?_
    have ee : (if dDraw z (t 0 0) < τ 14 (t 1 0).toNatClampNeg then τ 13 (t 1 0).toNatClampNeg else t 1 0) = t 1 0 := by
      rw [ex3_24] at c35
      exact if_neg (xle_nlt.mpr c35)
    refine ⟨rfl, ?_, (fun j hj => ((fr90 j (by omega)).trans ((o82 j (by omega)).trans ((o71 j (by omega)).trans ((o66 j (by omega)).trans ((o58 j (by omega)).trans rfl))))))⟩
    have hh := y90_0
    refine ⟨?_, y90_1, y90_2, y90_3⟩
    show _ = Sum.inr (3, [Value.int (t 0 0 + 1), Value.int (if dDraw z (t 0 0) < τ 14 (t 1 0).toNatClampNeg then τ 13 (t 1 0).toNatClampNeg else t 1 0), Value.int (t 2 0), Value.int (t 3 0), Value.int (t 5 0), Value.int 0, Value.int (t 6 0), Value.ref (p + 1), Value.ref (p + 2), Value.ref (p + 3)])
    rw [ee]
    exact hh
  · refine x_aload_n (q := 39) dX3_letCenturyGo_38 rfl rfl ?_
    refine x_aload_n (q := 40) dX3_letCenturyGo_39 rfl rfl ?_
    refine x_getf (C := RX8) (T := TX8) (N := 15) (k := 13) (q := 43) sp0 (by omega) rfl hiX8 (by decide) (by decide +kernel) rfl dX3_letCenturyGo_40 rfl ?_
    refine x_aload_n (q := 44) dX3_letCenturyGo_43 rfl rfl ?_
    refine x_getf (C := RX3) (T := TX3) (N := 10) (k := 1) (q := 47) tp0 (by omega) rfl hiX3 (by decide) (by decide +kernel) rfl dX3_letCenturyGo_44 rfl ?_
    refine x_iald (q := 48) sp9 (by omega) hw dX3_letCenturyGo_47 rfl ?_
    refine x_put (C := RX3) (T := TX3) (N := 10) (k := 1) (q := 51) (ty := .int) tyX3_ok nmX3 tp0 (by omega) rfl hiX3 (by decide) (by decide +kernel) rfl (by decide +kernel) (fun _ => rfl) (fun _ => rfl) (Nat.le_of_ble_eq_true rfl) dX3_letCenturyGo_48 rfl (fun M48 w48 o48 => ?_)
    refine x_aload_n (q := 52) dX3_letCenturyGo_51 rfl rfl ?_
    refine x_dup (q := 53) dX3_letCenturyGo_52 rfl rfl ?_
    refine x_getf (C := RX3) (T := TX3) (N := 10) (k := 0) (q := 56) w48 (by omega) rfl hiX3 (by decide) (by decide +kernel) rfl dX3_letCenturyGo_53 rfl ?_
    refine x_iconst (v := 1) (q := 57) dX3_letCenturyGo_56 rfl (by decide) ?_
    refine x_iadd (q := 58) dX3_letCenturyGo_57 rfl ?_
    refine x_put (C := RX3) (T := TX3) (N := 10) (k := 0) (q := 61) (ty := .int) tyX3_ok nmX3 w48 (by omega) rfl hiX3 (by decide) (by decide +kernel) rfl (by decide +kernel) (fun _ => rfl) (fun _ => rfl) (Nat.le_of_ble_eq_true rfl) dX3_letCenturyGo_58 rfl (fun M58 w58 o58 => ?_)
    refine x_aload_n (q := 62) dX3_letCenturyGo_61 rfl rfl ?_
    refine x_aload_n (q := 63) dX3_letCenturyGo_62 rfl rfl ?_
    refine x_getf (C := RX3) (T := TX3) (N := 10) (k := 5) (q := 66) w58 (by omega) rfl hiX3 (by decide) (by decide +kernel) rfl dX3_letCenturyGo_63 rfl ?_
    refine x_put (C := RX3) (T := TX3) (N := 10) (k := 4) (q := 69) (ty := .int) tyX3_ok nmX3 w58 (by omega) rfl hiX3 (by decide) (by decide +kernel) rfl (by decide +kernel) (fun _ => rfl) (fun _ => rfl) (Nat.le_of_ble_eq_true rfl) dX3_letCenturyGo_66 rfl (fun M66 w66 o66 => ?_)
    refine x_aload_n (q := 70) dX3_letCenturyGo_69 rfl rfl ?_
    refine x_iconst (v := 0) (q := 71) dX3_letCenturyGo_70 rfl (by decide) ?_
    refine x_put (C := RX3) (T := TX3) (N := 10) (k := 5) (q := 74) (ty := .int) tyX3_ok nmX3 w66 (by omega) rfl hiX3 (by decide) (by decide +kernel) rfl (by decide +kernel) (fun _ => rfl) (fun _ => rfl) (Nat.le_of_ble_eq_true rfl) dX3_letCenturyGo_71 rfl (fun M71 w71 o71 => ?_)
    refine x_aload_n (q := 75) dX3_letCenturyGo_74 rfl rfl ?_
    refine x_getf (C := RX3) (T := TX3) (N := 10) (k := 7) (q := 78) w71 (by omega) rfl hiX3 (by decide) (by decide +kernel) rfl dX3_letCenturyGo_75 rfl ?_
    refine x_aload_n (q := 79) dX3_letCenturyGo_78 rfl rfl ?_
    have hv4_1_q := ((o71 (q) (by omega)).trans ((o66 (q) (by omega)).trans ((o58 (q) (by omega)).trans ((o48 (q) (by omega)).trans sp0))))
    refine x_getf (C := RX8) (T := TX8) (N := 15) (k := 12) (q := 82) hv4_1_q (by omega) rfl hiX8 (by decide) (by decide +kernel) rfl dX3_letCenturyGo_79 rfl ?_
    have hv4_2_p1 := ((o71 (p + 1) (by omega)).trans ((o66 (p + 1) (by omega)).trans ((o58 (p + 1) (by omega)).trans ((o48 (p + 1) (by omega)).trans tp1))))
    refine x_callS (q := 85) (c_fillI (by omega) (by decide) hv4_2_p1) eX3_letCenturyGo_43 gX3_letCenturyGo_J7_fill_53178 rfl (Nat.le_of_ble_eq_true rfl) ⟨Nat.le_refl _, Nat.le_refl _⟩ dX3_letCenturyGo_82 rfl rfl (fun r82 M82 p82 => ?_)
    obtain ⟨rfl, w82, o82⟩ := p82
    refine x_aload_n (q := 86) dX3_letCenturyGo_85 rfl rfl ?_
    refine x_aload_n (q := 87) dX3_letCenturyGo_86 rfl rfl ?_
    have hv5_3_q := ((o82 (q) (by omega)).trans hv4_1_q)
    refine x_getf (C := RX8) (T := TX8) (N := 15) (k := 3) (q := 90) hv5_3_q (by omega) rfl hiX8 (by decide) (by decide +kernel) rfl dX3_letCenturyGo_87 rfl ?_
    have hv5_4_p := ((o82 (p) (by omega)).trans w71)
    have hv5_5_p2 := ((o82 (p + 2) (by omega)).trans ((o71 (p + 2) (by omega)).trans ((o66 (p + 2) (by omega)).trans ((o58 (p + 2) (by omega)).trans ((o48 (p + 2) (by omega)).trans tp2)))))
    have hv5_6_p3 := ((o82 (p + 3) (by omega)).trans ((o71 (p + 3) (by omega)).trans ((o66 (p + 3) (by omega)).trans ((o58 (p + 3) (by omega)).trans ((o48 (p + 3) (by omega)).trans tp3)))))
    have e87 : τ 3 0 = nI N := hN1
    rw [e87]
    refine x_callV (q := 93) (ci := 3) (c_Day_fall (p := p) (t := fun i => if i = 0 then (fun _ => t 0 0 + 1) else if i = 1 then (fun _ => τ 13 (t 1 0).toNatClampNeg) else if i = 4 then (fun _ => t 5 0) else if i = 5 then (fun _ => 0) else if i = 7 then (fun _ => τ 12 0) else t i) (by omega) hN ⟨hv5_4_p, w82, hv5_5_p2, hv5_6_p3⟩) eX3_letCenturyGo_70 gX3_letCenturyGo_X3_letWorksFall hv5_4_p (by omega) rfl rfl rfl (Nat.le_of_ble_eq_true rfl) ⟨Nat.le_refl _, Nat.le_refl _⟩ dX3_letCenturyGo_90 rfl rfl (fun r90 M90 p90 => ?_)
    obtain ⟨rfl, ⟨y90_0, y90_1, y90_2, y90_3⟩, fr90⟩ := p90
    refine x_iret dX3_letCenturyGo_93 rfl rfl (Nat.le_refl _) ?_
    have ee : (if dDraw z (t 0 0) < τ 14 (t 1 0).toNatClampNeg then τ 13 (t 1 0).toNatClampNeg else t 1 0) = τ 13 (t 1 0).toNatClampNeg := by
      rw [ex3_24] at c35
      exact if_pos (xlt_nle.mp c35)
    refine ⟨rfl, ?_, (fun j hj => ((fr90 j (by omega)).trans ((o82 j (by omega)).trans ((o71 j (by omega)).trans ((o66 j (by omega)).trans ((o58 j (by omega)).trans ((o48 j (by omega)).trans rfl)))))))⟩
    have hh := y90_0
    refine ⟨?_, y90_1, y90_2, y90_3⟩
    show _ = Sum.inr (3, [Value.int (t 0 0 + 1), Value.int (if dDraw z (t 0 0) < τ 14 (t 1 0).toNatClampNeg then τ 13 (t 1 0).toNatClampNeg else t 1 0), Value.int (t 2 0), Value.int (t 3 0), Value.int (t 5 0), Value.int 0, Value.int (t 6 0), Value.ref (p + 1), Value.ref (p + 2), Value.ref (p + 3)])
    rw [ee]
    exact hh

