def bsN (m P : Nat) : Nat → Nat
  | 0 => 0
  | k + 1 => bsN m P k ||| (if dg m k < P then 2 ^ dg m k else 0)
theorem bsN_lt (m P : Nat) : ∀ k, bsN m P k < 2 ^ 10
  | 0 => by show 0 < 2 ^ 10; decide
  | k + 1 => Nat.or_lt_two_pow (bsN_lt m P k) (by split; exact Nat.pow_lt_pow_right (by decide) (dg_lt m k); decide)
def mBallot (m P : Nat) : Bool := decide (m / 10 ^ P = 0) && decide (bsN m P P = 2 ^ P - 1)
def baK (m P B k : Nat) (s : Nat → Int32) : Nat → Int32 := fun j => if 5 * B + k ≤ j ∧ j < 5 * B + P then nI (dg m (P - 1 - (j - 5 * B))) else s j
theorem baK_s {m P B k : Nat} (hk : k < P) (s : Nat → Int32) {v : Int32} (hv : v = nI (dg m (P - 1 - k))) : upd (baK m P B (k + 1) s) (5 * B + k) v = baK m P B k s := by
  funext j
  by_cases e : j = 5 * B + k
  · subst e; rw [pk_us]; unfold baK; rw [if_pos (by omega), hv]; congr 3; omega
  · rw [upd_ne e]
    unfold baK
    by_cases h : 5 * B + (k + 1) ≤ j ∧ j < 5 * B + P
    · rw [if_pos h, if_pos (by omega)]
    · rw [if_neg h, if_neg (by omega)]
theorem baK_P (m P B : Nat) (s : Nat → Int32) : baK m P B P s = s := by funext j; unfold baK; rw [if_neg (by omega)]
theorem baK_0 (m P B : Nat) (s : Nat → Int32) : baK m P B 0 s = baPut m P B s := rfl
theorem dg_div (m k : Nat) : m / 10 ^ k / 10 = m / 10 ^ (k + 1) := by rw [Nat.div_div_eq_div_mul, Nat.pow_succ]
set_option maxHeartbeats 4000000 in
set_option maxRecDepth 100000 in
theorem l_m_ballot1 {n P W G B m : Nat} {t τ : Nat → Nat → Int32} {u : Nat → Nat → Int64} {Q : Option Value → (Nat → xE) → Prop} (hn : 113 < n) (hw : RT τ P W G (t 0)) (hB : B ≤ 9) (hB0 : t 27 0 = nI B) (hm : m < 2 ^ 31) : ∀ (k i : Nat) (M : Nat → xE), i + k = P → (oX11 99 t u M) → (X mX11_ballot 0 0 59 [(4, .int (nI P)), (3, .int (nI (m / 10 ^ P))), (2, .int (nI (bsN m P P))), (0, .ref 99), (1, .int (nI m))] [] n M Q) → X mX11_ballot 0 0 7 [(4, .int (nI i)), (3, .int (nI (m / 10 ^ i))), (2, .int (nI (bsN m P i))), (0, .ref 99), (1, .int (nI m))] [] n M (Q) := by
  have hiX11 : ∀ w ∈ wsX110, w ∈ wsX11_ballot := by decide +kernel
  intro k
  induction k with
  | zero =>
    intro i M hik hM hk1
    have hM0 := hM
    obtain ⟨mp0, mp1, mp2, mp3, mp4, mp5, mp6, mp7, mp8, mp9, mp10, mp11, mp12, mp13, mp14⟩ := hM
    have hP5 := rtP hw
    have hmi : m / 10 ^ i < 2 ^ 31 := Nat.lt_of_le_of_lt (Nat.div_le_self _ _) hm
    refine x_iload (q := 9) dX11_ballot_7 rfl rfl ?_
    refine x_aload_n (q := 10) dX11_ballot_9 rfl rfl ?_
    refine x_getf (C := RX11) (T := TX11) (N := 29) (k := 0) (q := 13) mp0 (by omega) rfl hiX11 (by decide) (by decide +kernel) rfl dX11_ballot_10 rfl ?_
    refine x_iconst (v := 0) (q := 14) dX11_ballot_13 rfl (by decide) ?_
    refine x_iald (q := 15) mp1 (by omega) (ixI (show (0 : Int32) = nI 0 from rfl) (by omega) (by decide)) dX11_ballot_14 rfl ?_
    rw [ixC (show (0 : Int32) = nI 0 from rfl) (by omega)]
    rw [rtn hw]
    refine x_icmp_ge (t := 59) (q := 18) dX11_ballot_15 (by decide) rfl (fun c15 => ?_) (fun c15 => absurd (by rw [show i = P by omega]; exact nI_le (Nat.le_refl _) (by omega)) c15)
    have e9 : i = P := by omega
    subst e9
    exact hk1
  | succ k ih =>
    intro i M hik hM hk1
    have hM0 := hM
    obtain ⟨mp0, mp1, mp2, mp3, mp4, mp5, mp6, mp7, mp8, mp9, mp10, mp11, mp12, mp13, mp14⟩ := hM
    have hP5 := rtP hw
    have hmi : m / 10 ^ i < 2 ^ 31 := Nat.lt_of_le_of_lt (Nat.div_le_self _ _) hm
    refine x_iload (q := 9) dX11_ballot_7 rfl rfl ?_
    refine x_aload_n (q := 10) dX11_ballot_9 rfl rfl ?_
    refine x_getf (C := RX11) (T := TX11) (N := 29) (k := 0) (q := 13) mp0 (by omega) rfl hiX11 (by decide) (by decide +kernel) rfl dX11_ballot_10 rfl ?_
    refine x_iconst (v := 0) (q := 14) dX11_ballot_13 rfl (by decide) ?_
    refine x_iald (q := 15) mp1 (by omega) (ixI (show (0 : Int32) = nI 0 from rfl) (by omega) (by decide)) dX11_ballot_14 rfl ?_
    rw [ixC (show (0 : Int32) = nI 0 from rfl) (by omega)]
    rw [rtn hw]
    refine x_icmp_ge (t := 59) (q := 18) dX11_ballot_15 (by decide) rfl (fun c15 => absurd c15 (nI_ge (a := i) (b := P) (by omega) (by omega))) (fun c15 => ?_)
    refine x_iload_n (q := 19) dX11_ballot_18 rfl rfl ?_
    refine x_if_lt (t := 59) (q := 22) dX11_ballot_19 (by decide) rfl (fun c19 => absurd c19 (by rw [fa_lt, nI_toInt hm]; show ¬ (m : Int) < 0; omega)) (fun c19 => ?_)
    refine x_iload_n (q := 23) dX11_ballot_22 rfl rfl ?_
    refine x_iload_n (q := 24) dX11_ballot_23 rfl rfl ?_
    refine x_bipush (v := 10) (q := 26) dX11_ballot_24 rfl (by decide) ?_
    refine x_irem (q := 27) dX11_ballot_26 rfl ((by decide)) ?_
    rw [show nI (m / 10 ^ i) - nI (m / 10 ^ i) / 10 * 10 = nI (dg m i) from pk_rem (d := 10) hmi (by decide) (by decide)]
    refine x_aload_n (q := 28) dX11_ballot_27 rfl rfl ?_
    refine x_getf (C := RX11) (T := TX11) (N := 29) (k := 0) (q := 31) mp0 (by omega) rfl hiX11 (by decide) (by decide +kernel) rfl dX11_ballot_28 rfl ?_
    refine x_iconst (v := 0) (q := 32) dX11_ballot_31 rfl (by decide) ?_
    refine x_iald (q := 33) mp1 (by omega) (ixI (show (0 : Int32) = nI 0 from rfl) (by omega) (by decide)) dX11_ballot_32 rfl ?_
    rw [ixC (show (0 : Int32) = nI 0 from rfl) (by omega)]
    rw [rtn hw]
    refine x_icmp_ge (t := 45) (q := 36) dX11_ballot_33 (by decide) rfl (fun c33 => ?_) (fun c33 => ?_)
    · refine x_iconst (v := 0) (q := 46) dX11_ballot_45 rfl (by decide) ?_
      refine x_ior (q := 47) dX11_ballot_46 rfl ?_
      refine x_istore_n (L' := fun x2_47 => [(2, .int x2_47), (4, .int (nI i)), (3, .int (nI (m / 10 ^ i))), (0, .ref 99), (1, .int (nI m))]) (q := 48) dX11_ballot_47 rfl (by decide) (fun _ => rfl) (fun x2_47 ex2_47 => ?_)
      obtain rfl : x2_47 = nI (bsN m P (i + 1)) := ex2_47.trans (by rw [bsN]; first | (rw [if_neg (show ¬ dg m i < P from fun h => nI_ge h (by omega) c33), Nat.or_zero, Int32.or_zero]; done) | (rw [if_pos (show dg m i < P from Nat.lt_of_not_le (fun h => c33 (nI_le h (by have := dg_lt m i; omega)))), fa_or]; done))
      refine x_iload_n (q := 49) dX11_ballot_48 rfl rfl ?_
      refine x_bipush (v := 10) (q := 51) dX11_ballot_49 rfl (by decide) ?_
      refine x_idiv (q := 52) dX11_ballot_51 rfl ((by decide)) ?_
      rw [show nI (m / 10 ^ i) / 10 = nI (m / 10 ^ (i + 1)) by rw [← dg_div]; exact pk_div (d := 10) hmi (by decide) (by decide)]
      refine x_istore_n (L' := fun x3_52 => [(3, .int x3_52), (2, .int (nI (bsN m P (i + 1)))), (4, .int (nI i)), (0, .ref 99), (1, .int (nI m))]) (q := 53) dX11_ballot_52 rfl (by decide) (fun _ => rfl) (fun x3_52 ex3_52 => ?_)
      obtain rfl : x3_52 = nI (m / 10 ^ (i + 1)) := ex3_52
      refine x_iinc (L' := fun x4_53 => [(4, .int x4_53), (3, .int (nI (m / 10 ^ (i + 1)))), (2, .int (nI (bsN m P (i + 1)))), (0, .ref 99), (1, .int (nI m))]) (q := 56) dX11_ballot_53 rfl rfl (by decide) (fun _ => rfl) (fun x4_53 ex4_53 => ?_)
      obtain rfl : x4_53 = nI (i + 1) := ex4_53.trans (nI_1 i)
      refine x_goto (q := 7) dX11_ballot_56 (by decide) ?_
      refine x_pick (L' := [(4, .int (nI (i + 1))), (3, .int (nI (m / 10 ^ (i + 1)))), (2, .int (nI (bsN m P (i + 1)))), (0, .ref 99), (1, .int (nI m))]) [0, 1, 2, 3, 4] rfl ?_
      exact ih (i + 1) M (by omega) hM0 hk1
    · refine x_iconst (v := 1) (q := 37) dX11_ballot_36 rfl (by decide) ?_
      refine x_iload_n (q := 38) dX11_ballot_37 rfl rfl ?_
      refine x_bipush (v := 10) (q := 40) dX11_ballot_38 rfl (by decide) ?_
      refine x_irem (q := 41) dX11_ballot_40 rfl ((by decide)) ?_
      rw [show nI (m / 10 ^ i) - nI (m / 10 ^ i) / 10 * 10 = nI (dg m i) from pk_rem (d := 10) hmi (by decide) (by decide)]
      refine x_ishl (q := 42) dX11_ballot_41 rfl ?_
      rw [xshl1 _ (by have := dg_lt m i; omega)]
      refine x_goto (q := 46) dX11_ballot_42 (by decide) ?_
      refine x_ior (q := 47) dX11_ballot_46 rfl ?_
      refine x_istore_n (L' := fun x2_47 => [(2, .int x2_47), (4, .int (nI i)), (3, .int (nI (m / 10 ^ i))), (0, .ref 99), (1, .int (nI m))]) (q := 48) dX11_ballot_47 rfl (by decide) (fun _ => rfl) (fun x2_47 ex2_47 => ?_)
      obtain rfl : x2_47 = nI (bsN m P (i + 1)) := ex2_47.trans (by rw [bsN]; first | (rw [if_neg (show ¬ dg m i < P from fun h => nI_ge h (by omega) c33), Nat.or_zero, Int32.or_zero]; done) | (rw [if_pos (show dg m i < P from Nat.lt_of_not_le (fun h => c33 (nI_le h (by have := dg_lt m i; omega)))), fa_or]; done))
      refine x_iload_n (q := 49) dX11_ballot_48 rfl rfl ?_
      refine x_bipush (v := 10) (q := 51) dX11_ballot_49 rfl (by decide) ?_
      refine x_idiv (q := 52) dX11_ballot_51 rfl ((by decide)) ?_
      rw [show nI (m / 10 ^ i) / 10 = nI (m / 10 ^ (i + 1)) by rw [← dg_div]; exact pk_div (d := 10) hmi (by decide) (by decide)]
      refine x_istore_n (L' := fun x3_52 => [(3, .int x3_52), (2, .int (nI (bsN m P (i + 1)))), (4, .int (nI i)), (0, .ref 99), (1, .int (nI m))]) (q := 53) dX11_ballot_52 rfl (by decide) (fun _ => rfl) (fun x3_52 ex3_52 => ?_)
      obtain rfl : x3_52 = nI (m / 10 ^ (i + 1)) := ex3_52
      refine x_iinc (L' := fun x4_53 => [(4, .int x4_53), (3, .int (nI (m / 10 ^ (i + 1)))), (2, .int (nI (bsN m P (i + 1)))), (0, .ref 99), (1, .int (nI m))]) (q := 56) dX11_ballot_53 rfl rfl (by decide) (fun _ => rfl) (fun x4_53 ex4_53 => ?_)
      obtain rfl : x4_53 = nI (i + 1) := ex4_53.trans (nI_1 i)
      refine x_goto (q := 7) dX11_ballot_56 (by decide) ?_
      refine x_pick (L' := [(4, .int (nI (i + 1))), (3, .int (nI (m / 10 ^ (i + 1)))), (2, .int (nI (bsN m P (i + 1)))), (0, .ref 99), (1, .int (nI m))]) [0, 1, 2, 3, 4] rfl ?_
      exact ih (i + 1) M (by omega) hM0 hk1

set_option maxHeartbeats 4000000 in
set_option maxRecDepth 100000 in
theorem l_m_ballot2 {n P W G B m : Nat} {t τ : Nat → Nat → Int32} {u : Nat → Nat → Int64} {Q : Option Value → (Nat → xE) → Prop} (hn : 113 < n) (hw : RT τ P W G (t 0)) (hB : B ≤ 9) (hB0 : t 27 0 = nI B) (hm : m < 2 ^ 31) {x : Int32} {M0 : Nat → xE} (hBl : B < 9) : ∀ (k : Nat) (M : Nat → xE), (k ≤ P) → (oX11 99 (fun z => if z = 28 then baK m P B k (t 28) else t z) u M) → (xfr 99 114 M0 M) → (∀ M, oX11 99 (fun z => if z = 28 then baPut m P B (t 28) else t z) u M → xfr 99 114 M0 M → X mX11_ballot 0 0 154 [(4, .int (nI 0 - 1)), (3, .int (nI (m / 10 ^ (P - 0)))), (2, .int x), (0, .ref 99), (1, .int (nI m))] [] n M Q) → X mX11_ballot 0 0 120 [(4, .int (nI k - 1)), (3, .int (nI (m / 10 ^ (P - k)))), (2, .int x), (0, .ref 99), (1, .int (nI m))] [] n M (Q) := by
  have hiX11 : ∀ w ∈ wsX110, w ∈ wsX11_ballot := by decide +kernel
  intro k
  induction k with
  | zero =>
    intro M hkP hM hf hk1
    have hM0 := hM
    obtain ⟨mp0, mp1, mp2, mp3, mp4, mp5, mp6, mp7, mp8, mp9, mp10, mp11, mp12, mp13, mp14⟩ := hM
    have hP5 := rtP hw
    have mp14 : M (99 + 14) = .inl (0, 45, .inl (baK m P B _ (t 28))) := mp14
    refine x_iload (q := 122) dX11_ballot_120 rfl rfl ?_
    refine x_if_lt (t := 154) (q := 125) dX11_ballot_122 (by decide) rfl (fun c122 => ?_) (fun c122 => absurd (show nI 0 - 1 < 0 by decide) c122)
    exact hk1 M hM0 hf
  | succ k ih =>
    intro M hkP hM hf hk1
    have hM0 := hM
    obtain ⟨mp0, mp1, mp2, mp3, mp4, mp5, mp6, mp7, mp8, mp9, mp10, mp11, mp12, mp13, mp14⟩ := hM
    have hP5 := rtP hw
    have mp14 : M (99 + 14) = .inl (0, 45, .inl (baK m P B _ (t 28))) := mp14
    rw [nIk1]
    have hmi : m / 10 ^ (P - (k + 1)) < 2 ^ 31 := Nat.lt_of_le_of_lt (Nat.div_le_self _ _) hm
    refine x_iload (q := 122) dX11_ballot_120 rfl rfl ?_
    refine x_if_lt (t := 154) (q := 125) dX11_ballot_122 (by decide) rfl (fun c122 => absurd c122 (by rw [fa_lt, nI_toInt (by omega)]; show ¬ (k : Int) < 0; omega)) (fun c122 => ?_)
    refine x_aload_n (q := 126) dX11_ballot_125 rfl rfl ?_
    refine x_getf (C := RX11) (T := TX11) (N := 29) (k := 28) (q := 129) mp0 (by omega) rfl hiX11 (by decide) (by decide +kernel) rfl dX11_ballot_126 rfl ?_
    refine x_iconst (v := 5) (q := 130) dX11_ballot_129 rfl (by decide) ?_
    refine x_aload_n (q := 131) dX11_ballot_130 rfl rfl ?_
    refine x_getf (C := RX11) (T := TX11) (N := 29) (k := 27) (q := 134) mp0 (by omega) rfl hiX11 (by decide) (by decide +kernel) rfl dX11_ballot_131 rfl ?_
    show X mX11_ballot 0 0 _ _ (.int (t 27 0) :: _) _ _ _
    rw [hB0]
    refine x_imul (q := 135) dX11_ballot_134 rfl ?_
    refine x_iload (q := 137) dX11_ballot_135 rfl rfl ?_
    refine x_iadd (q := 138) dX11_ballot_137 rfl ?_
    refine x_iload_n (q := 139) dX11_ballot_138 rfl rfl ?_
    refine x_bipush (v := 10) (q := 141) dX11_ballot_139 rfl (by decide) ?_
    refine x_irem (q := 142) dX11_ballot_141 rfl ((by decide)) ?_
    rw [show nI (m / 10 ^ (P - (k + 1))) - nI (m / 10 ^ (P - (k + 1))) / 10 * 10 = nI (dg m (P - (k + 1))) from pk_rem (d := 10) hmi (by decide) (by decide)]
    refine x_iast (q := 143) mp14 (by omega) (ixI (show (((5 * nI B) + nI k) : Int32) = nI ((5 * B) + k) from (nIs (nIm rfl rfl) rfl)) (by omega) (by decide)) dX11_ballot_142 rfl (fun M142 w142 o142 => ?_)
    rw [ixC (show (((5 * nI B) + nI k) : Int32) = nI ((5 * B) + k) from (nIs (nIm rfl rfl) rfl)) (by omega)] at w142
    refine x_iload_n (q := 144) dX11_ballot_143 rfl rfl ?_
    refine x_bipush (v := 10) (q := 146) dX11_ballot_144 rfl (by decide) ?_
    refine x_idiv (q := 147) dX11_ballot_146 rfl ((by decide)) ?_
    rw [show nI (m / 10 ^ (P - (k + 1))) / 10 = nI (m / 10 ^ (P - k)) by rw [show P - k = P - (k + 1) + 1 by omega, ← dg_div]; exact pk_div (d := 10) hmi (by decide) (by decide)]
    refine x_istore_n (L' := fun x3_147 => [(3, .int x3_147), (4, .int (nI k)), (2, .int x), (0, .ref 99), (1, .int (nI m))]) (q := 148) dX11_ballot_147 rfl (by decide) (fun _ => rfl) (fun x3_147 ex3_147 => ?_)
    obtain rfl : x3_147 = nI (m / 10 ^ (P - k)) := ex3_147
    refine x_iinc (L' := fun x4_148 => [(4, .int x4_148), (3, .int (nI (m / 10 ^ (P - k)))), (2, .int x), (0, .ref 99), (1, .int (nI m))]) (q := 151) dX11_ballot_148 rfl rfl (by decide) (fun _ => rfl) (fun x4_148 ex4_148 => ?_)
    obtain rfl : x4_148 = nI k - 1 := ex4_148.trans (nIp k)
    refine x_goto (q := 120) dX11_ballot_151 (by decide) ?_
    rw [baK_s (show k < P by omega) (t 28) (by rw [show P - 1 - k = P - (k + 1) by omega])] at w142
    have hv1_1_99 := ((o142 (99) (by omega)).trans mp0)
    have hv1_2_100 := ((o142 (100) (by omega)).trans mp1)
    have hv1_3_101 := ((o142 (101) (by omega)).trans mp2)
    have hv1_4_102 := ((o142 (102) (by omega)).trans mp3)
    have hv1_5_103 := ((o142 (103) (by omega)).trans mp4)
    have hv1_6_104 := ((o142 (104) (by omega)).trans mp5)
    have hv1_7_105 := ((o142 (105) (by omega)).trans mp6)
    have hv1_8_106 := ((o142 (106) (by omega)).trans mp7)
    have hv1_9_107 := ((o142 (107) (by omega)).trans mp8)
    have hv1_10_108 := ((o142 (108) (by omega)).trans mp9)
    have hv1_11_109 := ((o142 (109) (by omega)).trans mp10)
    have hv1_12_110 := ((o142 (110) (by omega)).trans mp11)
    have hv1_13_111 := ((o142 (111) (by omega)).trans mp12)
    have hv1_14_112 := ((o142 (112) (by omega)).trans mp13)
    refine x_pick (L' := [(4, .int (nI k - 1)), (3, .int (nI (m / 10 ^ (P - k)))), (2, .int x), (0, .ref 99), (1, .int (nI m))]) [0, 1, 2, 3, 4] rfl ?_
    exact ih M142 (by omega) ⟨hv1_1_99, hv1_2_100, hv1_3_101, hv1_4_102, hv1_5_103, hv1_6_104, hv1_7_105, hv1_8_106, hv1_9_107, hv1_10_108, hv1_11_109, hv1_12_110, hv1_13_111, hv1_14_112, w142⟩ (fun j hj => ((o142 j (by omega)).trans (hf j hj))) hk1

theorem i32_nat {a : Int32} (h : ¬ a < 0) : ∃ m : Nat, m < 2 ^ 31 ∧ a = nI m := by
  rw [fa_lt, show (0 : Int32).toInt = 0 from rfl] at h
  have hr := fb_rng a
  refine ⟨a.toInt.toNat, by omega, ?_⟩
  rw [fa_eq, nI_toInt (by omega)]
  omega
set_option maxHeartbeats 4000000 in
set_option maxRecDepth 100000 in
theorem c_m_ballot {n : Nat} {M : Nat → xE} {t : Nat → Nat → Int32} {u : Nat → Nat → Int64} (hn : 113 < n) (hM : oX11 99 t u M) {τ : Nat → Nat → Int32} {P W G : Nat} (hw : RT τ P W G (t 0)) {B : Nat} (hB : B ≤ 9) (hB0 : t 27 0 = nI B) {a : Int32} : xMet mX11_ballot [.ref 99, .int a] n M (fun r M' => (a < 0 ∧ M = M' ∧ some (.int (-3)) = r) ∨ ∃ m : Nat, m < 2 ^ 31 ∧ a = nI m ∧ (if mBallot m P = true then (if P = 0 then (M = M' ∧ some (.int (-4)) = r) else (if B < 9 then (some (.int (nI (B + 1))) = r ∧ oX11 99 (fun z => if z = 27 then (fun _ => nI (B + 1)) else if z = 28 then baPut m P B (t 28) else t z) u M' ∧ xfr 99 114 M M') else (M = M' ∧ some (.int (-5)) = r))) else (M = M' ∧ some (.int (-3)) = r))) := by
  have hM0 := hM
  obtain ⟨mp0, mp1, mp2, mp3, mp4, mp5, mp6, mp7, mp8, mp9, mp10, mp11, mp12, mp13, mp14⟩ := hM
  have hP5 := rtP hw
  have hiX11 : ∀ w ∈ wsX110, w ∈ wsX11_ballot := by decide +kernel
  refine xMet.of _ (by decide) rfl (Nat.le_of_ble_eq_true rfl) ?_
  refine x_iconst (v := 0) (q := 1) dX11_ballot_0 rfl (by decide) ?_
  refine x_istore_n (L' := fun x2_1 => [(2, .int x2_1), (0, .ref 99), (1, .int a)]) (q := 2) dX11_ballot_1 rfl (by decide) (fun _ => rfl) (fun x2_1 ex2_1 => ?_)
  by_cases hneg : a < 0
  · refine x_iload_n (q := 3) dX11_ballot_2 rfl rfl ?_
    refine x_istore_n (L' := fun x3_3 => [(3, .int x3_3), (2, .int x2_1), (0, .ref 99), (1, .int a)]) (q := 4) dX11_ballot_3 rfl (by decide) (fun _ => rfl) (fun x3_3 ex3_3 => ?_)
    refine x_iconst (v := 0) (q := 5) dX11_ballot_4 rfl (by decide) ?_
    refine x_istore (L' := fun x4_5 => [(4, .int x4_5), (3, .int x3_3), (2, .int x2_1), (0, .ref 99), (1, .int a)]) (q := 7) dX11_ballot_5 rfl (by decide) (fun _ => rfl) (fun x4_5 ex4_5 => ?_)
    refine x_iload (q := 9) dX11_ballot_7 rfl rfl ?_
    refine x_aload_n (q := 10) dX11_ballot_9 rfl rfl ?_
    refine x_getf (C := RX11) (T := TX11) (N := 29) (k := 0) (q := 13) mp0 (by omega) rfl hiX11 (by decide) (by decide +kernel) rfl dX11_ballot_10 rfl ?_
    refine x_iconst (v := 0) (q := 14) dX11_ballot_13 rfl (by decide) ?_
    refine x_iald (q := 15) mp1 (by omega) (ixI (show (0 : Int32) = nI 0 from rfl) (by omega) (by decide)) dX11_ballot_14 rfl ?_
    rw [ixC (show (0 : Int32) = nI 0 from rfl) (by omega)]
    rw [rtn hw]
    refine x_icmp_ge (t := 59) (q := 18) dX11_ballot_15 (by decide) rfl (fun c15 => ?_) (fun c15 => ?_)
    · refine x_iload_n (q := 60) dX11_ballot_59 rfl rfl ?_
      refine x_if_lt (t := 81) (q := 63) dX11_ballot_60 (by decide) rfl (fun c60 => ?_) (fun c60 => absurd hneg c60)
      refine x_bipush (v := -3) (q := 83) dX11_ballot_81 rfl (by decide) ?_
      refine x_iret dX11_ballot_83 rfl rfl (Nat.le_refl _) ?_
      exact Or.inl ⟨hneg, rfl, rfl⟩
    · refine x_iload_n (q := 19) dX11_ballot_18 rfl rfl ?_
      refine x_if_lt (t := 59) (q := 22) dX11_ballot_19 (by decide) rfl (fun c19 => ?_) (fun c19 => absurd hneg c19)
      refine x_iload_n (q := 60) dX11_ballot_59 rfl rfl ?_
      refine x_if_lt (t := 81) (q := 63) dX11_ballot_60 (by decide) rfl (fun c60 => ?_) (fun c60 => absurd hneg c60)
      refine x_bipush (v := -3) (q := 83) dX11_ballot_81 rfl (by decide) ?_
      refine x_iret dX11_ballot_83 rfl rfl (Nat.le_refl _) ?_
      exact Or.inl ⟨hneg, rfl, rfl⟩
  · obtain ⟨m, hm, rfl⟩ := i32_nat hneg
    refine x_iload_n (q := 3) dX11_ballot_2 rfl rfl ?_
    refine x_istore_n (L' := fun x3_3 => [(3, .int x3_3), (2, .int x2_1), (0, .ref 99), (1, .int (nI m))]) (q := 4) dX11_ballot_3 rfl (by decide) (fun _ => rfl) (fun x3_3 ex3_3 => ?_)
    obtain rfl : x3_3 = nI m := ex3_3
    refine x_iconst (v := 0) (q := 5) dX11_ballot_4 rfl (by decide) ?_
    refine x_istore (L' := fun x4_5 => [(4, .int x4_5), (3, .int (nI m)), (2, .int x2_1), (0, .ref 99), (1, .int (nI m))]) (q := 7) dX11_ballot_5 rfl (by decide) (fun _ => rfl) (fun x4_5 ex4_5 => ?_)
    subst ex4_5
    subst ex2_1
    refine x_pick (L' := [(4, .int (nI 0)), (3, .int (nI (m / 10 ^ 0))), (2, .int (nI (bsN m P 0))), (0, .ref 99), (1, .int (nI m))]) [0, 1, 2, 3, 4] (by rw [Nat.pow_zero, Nat.div_one]; rfl) ?_
    refine l_m_ballot1 hn hw hB hB0 hm P 0 M (by omega) hM0 ?_
    have hmi : m / 10 ^ P < 2 ^ 31 := Nat.lt_of_le_of_lt (Nat.div_le_self _ _) hm
    have hle : 2 ^ P ≤ 2 ^ 5 := Nat.pow_le_pow_right (by decide) hP5
    have hone : 1 ≤ 2 ^ P := Nat.one_le_two_pow
    have hs : (1 : Int32) <<< (nI P &&& 31) - 1 = nI (2 ^ P - 1) := by rw [xshl1 _ (by omega)]; exact pk_sub hone
    have hbl := bsN_lt m P P
    refine x_iload_n (q := 60) dX11_ballot_59 rfl rfl ?_
    refine x_if_lt (t := 81) (q := 63) dX11_ballot_60 (by decide) rfl (fun c60 => absurd c60 hneg) (fun c60 => ?_)
    refine x_iload_n (q := 64) dX11_ballot_63 rfl rfl ?_
    refine x_if_gt (t := 81) (q := 67) dX11_ballot_64 (by decide) rfl (fun c64 => ?_) (fun c64 => ?_)
    · refine x_bipush (v := -3) (q := 83) dX11_ballot_81 rfl (by decide) ?_
      refine x_iret dX11_ballot_83 rfl rfl (Nat.le_refl _) ?_
      refine Or.inr ⟨m, hm, rfl, ?_⟩
      rw [if_neg (show ¬ mBallot m P = true from fun h => by
        unfold mBallot at h
        rw [Bool.and_eq_true, decide_eq_true_iff, decide_eq_true_iff] at h
        first
          | exact absurd c64 (by rw [h.1]; decide)
          | exact c78 (by rw [h.2]; exact hs.symm))]
      exact ⟨rfl, rfl⟩
    · refine x_iload_n (q := 68) dX11_ballot_67 rfl rfl ?_
      refine x_iconst (v := 1) (q := 69) dX11_ballot_68 rfl (by decide) ?_
      refine x_aload_n (q := 70) dX11_ballot_69 rfl rfl ?_
      refine x_getf (C := RX11) (T := TX11) (N := 29) (k := 0) (q := 73) mp0 (by omega) rfl hiX11 (by decide) (by decide +kernel) rfl dX11_ballot_70 rfl ?_
      refine x_iconst (v := 0) (q := 74) dX11_ballot_73 rfl (by decide) ?_
      refine x_iald (q := 75) mp1 (by omega) (ixI (show (0 : Int32) = nI 0 from rfl) (by omega) (by decide)) dX11_ballot_74 rfl ?_
      rw [ixC (show (0 : Int32) = nI 0 from rfl) (by omega)]
      rw [rtn hw]
      refine x_ishl (q := 76) dX11_ballot_75 rfl ?_
      refine x_iconst (v := 1) (q := 77) dX11_ballot_76 rfl (by decide) ?_
      refine x_isub (q := 78) dX11_ballot_77 rfl ?_
      refine x_icmp_eq (t := 84) (q := 81) dX11_ballot_78 (by decide) rfl (fun c78 => ?_) (fun c78 => ?_)
      · refine x_aload_n (q := 85) dX11_ballot_84 rfl rfl ?_
        refine x_getf (C := RX11) (T := TX11) (N := 29) (k := 0) (q := 88) mp0 (by omega) rfl hiX11 (by decide) (by decide +kernel) rfl dX11_ballot_85 rfl ?_
        refine x_iconst (v := 0) (q := 89) dX11_ballot_88 rfl (by decide) ?_
        refine x_iald (q := 90) mp1 (by omega) (ixI (show (0 : Int32) = nI 0 from rfl) (by omega) (by decide)) dX11_ballot_89 rfl ?_
        rw [ixC (show (0 : Int32) = nI 0 from rfl) (by omega)]
        rw [rtn hw]
        refine x_if_ne (t := 96) (q := 93) dX11_ballot_90 (by decide) rfl (fun c90 => ?_) (fun c90 => ?_)
        · refine x_aload_n (q := 97) dX11_ballot_96 rfl rfl ?_
          refine x_getf (C := RX11) (T := TX11) (N := 29) (k := 27) (q := 100) mp0 (by omega) rfl hiX11 (by decide) (by decide +kernel) rfl dX11_ballot_97 rfl ?_
          rw [hB0]
          refine x_bipush (v := 9) (q := 102) dX11_ballot_100 rfl (by decide) ?_
          refine x_icmp_ne (t := 108) (q := 105) dX11_ballot_102 (by decide) rfl (fun c102 => ?_) (fun c102 => ?_)
          · have hlt : B < 9 := Nat.lt_of_le_of_ne hB (fun h => c102 (by rw [h]; rfl))
            refine x_iload_n (q := 109) dX11_ballot_108 rfl rfl ?_
            refine x_istore_n (L' := fun x3_109 => [(3, .int x3_109), (4, .int (nI P)), (2, .int (nI (bsN m P P))), (0, .ref 99), (1, .int (nI m))]) (q := 110) dX11_ballot_109 rfl (by decide) (fun _ => rfl) (fun x3_109 ex3_109 => ?_)
            obtain rfl : x3_109 = nI m := ex3_109
            refine x_aload_n (q := 111) dX11_ballot_110 rfl rfl ?_
            refine x_getf (C := RX11) (T := TX11) (N := 29) (k := 0) (q := 114) mp0 (by omega) rfl hiX11 (by decide) (by decide +kernel) rfl dX11_ballot_111 rfl ?_
            refine x_iconst (v := 0) (q := 115) dX11_ballot_114 rfl (by decide) ?_
            refine x_iald (q := 116) mp1 (by omega) (ixI (show (0 : Int32) = nI 0 from rfl) (by omega) (by decide)) dX11_ballot_115 rfl ?_
            rw [ixC (show (0 : Int32) = nI 0 from rfl) (by omega)]
            rw [rtn hw]
            refine x_iconst (v := 1) (q := 117) dX11_ballot_116 rfl (by decide) ?_
            refine x_isub (q := 118) dX11_ballot_117 rfl ?_
            refine x_istore (L' := fun x4_118 => [(4, .int x4_118), (3, .int (nI m)), (2, .int (nI (bsN m P P))), (0, .ref 99), (1, .int (nI m))]) (q := 120) dX11_ballot_118 rfl (by decide) (fun _ => rfl) (fun x4_118 ex4_118 => ?_)
            obtain rfl : x4_118 = nI P - 1 := ex4_118
            have hPp : 0 < P := Nat.pos_of_ne_zero (fun h => c90 (by rw [h]; rfl))
            refine x_pick (L' := [(4, .int (nI P - 1)), (3, .int (nI (m / 10 ^ (P - P)))), (2, .int (nI (bsN m P P))), (0, .ref 99), (1, .int (nI m))]) [0, 1, 2, 3, 4] (by rw [Nat.sub_self, Nat.pow_zero, Nat.div_one]; rfl) ?_
            refine l_m_ballot2 (t := t) (u := u) (M0 := M) hn hw hB hB0 hm hlt P M (Nat.le_refl _) ⟨mp0, mp1, mp2, mp3, mp4, mp5, mp6, mp7, mp8, mp9, mp10, mp11, mp12, mp13, by rw [mp14]; show _ = Sum.inl (0, 45, Sum.inl (baK m P B P (t 28))); rw [baK_P]⟩ (fun j _ => rfl) (fun M154 k1 k2 => ?_)
            obtain ⟨kp0, kp1, kp2, kp3, kp4, kp5, kp6, kp7, kp8, kp9, kp10, kp11, kp12, kp13, kp14⟩ := k1
            refine x_aload_n (q := 155) dX11_ballot_154 rfl rfl ?_
            refine x_dup (q := 156) dX11_ballot_155 rfl rfl ?_
            refine x_getf (C := RX11) (T := TX11) (N := 29) (k := 27) (q := 159) kp0 (by omega) rfl hiX11 (by decide) (by decide +kernel) rfl dX11_ballot_156 rfl ?_
            show X mX11_ballot 0 0 _ _ (.int (t 27 0) :: _) _ _ _
            rw [hB0]
            refine x_iconst (v := 1) (q := 160) dX11_ballot_159 rfl (by decide) ?_
            refine x_iadd (q := 161) dX11_ballot_160 rfl ?_
            rw [nI_1]
            refine x_put (C := RX11) (T := TX11) (N := 29) (k := 27) (q := 164) (ty := .int) tyX11_ok nmX11 kp0 (by omega) rfl hiX11 (by decide) (by decide +kernel) rfl (by decide +kernel) (fun _ => rfl) (fun _ => rfl) (Nat.le_of_ble_eq_true rfl) dX11_ballot_161 rfl (fun M161 w161 o161 => ?_)
            refine x_aload_n (q := 165) dX11_ballot_164 rfl rfl ?_
            refine x_getf (C := RX11) (T := TX11) (N := 29) (k := 27) (q := 168) w161 (by omega) rfl hiX11 (by decide) (by decide +kernel) rfl dX11_ballot_165 rfl ?_
            refine x_iret dX11_ballot_168 rfl rfl (Nat.le_refl _) ?_
            have hv1_1_100 := ((o161 (100) (by omega)).trans kp1)
            have hv1_2_101 := ((o161 (101) (by omega)).trans kp2)
            have hv1_3_102 := ((o161 (102) (by omega)).trans kp3)
            have hv1_4_103 := ((o161 (103) (by omega)).trans kp4)
            have hv1_5_104 := ((o161 (104) (by omega)).trans kp5)
            have hv1_6_105 := ((o161 (105) (by omega)).trans kp6)
            have hv1_7_106 := ((o161 (106) (by omega)).trans kp7)
            have hv1_8_107 := ((o161 (107) (by omega)).trans kp8)
            have hv1_9_108 := ((o161 (108) (by omega)).trans kp9)
            have hv1_10_109 := ((o161 (109) (by omega)).trans kp10)
            have hv1_11_110 := ((o161 (110) (by omega)).trans kp11)
            have hv1_12_111 := ((o161 (111) (by omega)).trans kp12)
            have hv1_13_112 := ((o161 (112) (by omega)).trans kp13)
            have hv1_14_113 := ((o161 (113) (by omega)).trans kp14)
            refine Or.inr ⟨m, hm, rfl, ?_⟩
            have hmb : mBallot m P = true := by
              unfold mBallot
              rw [Bool.and_eq_true, decide_eq_true_iff, decide_eq_true_iff]
              exact ⟨Nat.eq_zero_of_not_pos (fun h => c64 (nI_lt (a := 0) h hmi)), (nIne (by omega) (by omega)).mp (c78.trans hs)⟩
            rw [if_pos hmb, if_neg (show ¬ P = 0 from fun h => c90 (by rw [h]; rfl)), if_pos hlt]
            exact ⟨rfl, ⟨w161, hv1_1_100, hv1_2_101, hv1_3_102, hv1_4_103, hv1_5_104, hv1_6_105, hv1_7_106, hv1_8_107, hv1_9_108, hv1_10_109, hv1_11_110, hv1_12_111, hv1_13_112, hv1_14_113⟩, fun j hj => ((o161 j (by omega)).trans (k2 j hj))⟩
            
          · refine x_bipush (v := -5) (q := 107) dX11_ballot_105 rfl (by decide) ?_
            refine x_iret dX11_ballot_107 rfl rfl (Nat.le_refl _) ?_
            refine Or.inr ⟨m, hm, rfl, ?_⟩
            have hmb : mBallot m P = true := by
              unfold mBallot
              rw [Bool.and_eq_true, decide_eq_true_iff, decide_eq_true_iff]
              exact ⟨Nat.eq_zero_of_not_pos (fun h => c64 (nI_lt (a := 0) h hmi)), (nIne (by omega) (by omega)).mp (c78.trans hs)⟩
            rw [if_pos hmb, if_neg (show ¬ P = 0 from fun h => c90 (by rw [h]; rfl)), if_neg (show ¬ B < 9 from fun h => by have := (nIne (a := B) (b := 9) (by omega) (by decide)).mp c102; omega)]
            exact ⟨rfl, rfl⟩
        · refine x_bipush (v := -4) (q := 95) dX11_ballot_93 rfl (by decide) ?_
          refine x_iret dX11_ballot_95 rfl rfl (Nat.le_refl _) ?_
          refine Or.inr ⟨m, hm, rfl, ?_⟩
          have hmb : mBallot m P = true := by
            unfold mBallot
            rw [Bool.and_eq_true, decide_eq_true_iff, decide_eq_true_iff]
            exact ⟨Nat.eq_zero_of_not_pos (fun h => c64 (nI_lt (a := 0) h hmi)), (nIne (by omega) (by omega)).mp (c78.trans hs)⟩
          rw [if_pos hmb, if_pos ((nIne (a := P) (b := 0) (by omega) (by decide)).mp c90)]
          exact ⟨rfl, rfl⟩
      · refine x_bipush (v := -3) (q := 83) dX11_ballot_81 rfl (by decide) ?_
        refine x_iret dX11_ballot_83 rfl rfl (Nat.le_refl _) ?_
        refine Or.inr ⟨m, hm, rfl, ?_⟩
        rw [if_neg (show ¬ mBallot m P = true from fun h => by
          unfold mBallot at h
          rw [Bool.and_eq_true, decide_eq_true_iff, decide_eq_true_iff] at h
          first
            | exact absurd c64 (by rw [h.1]; decide)
            | exact c78 (by rw [h.2]; exact hs.symm))]
        exact ⟨rfl, rfl⟩
    
  

