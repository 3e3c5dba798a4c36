set_option maxHeartbeats 4000000 in
set_option maxRecDepth 100000 in
theorem l_m_power {n b e : Nat} {Q : Option Value → (Nat → xE) → Prop} (he : e < 2 ^ 30) : ∀ (k i : Nat) (M : Nat → xE), i + k = e → (Q (some (.int (nI (b ^ e)))) M) → X mX11_power 0 0 4 [(3, .int (nI i)), (2, .int (nI (b ^ i))), (0, .int (nI b)), (1, .int (nI e))] [] n M (Q) := by
  intro k
  induction k with
  | zero =>
    intro i M hik hQ
    refine x_iload_n (q := 5) dX11_power_4 rfl rfl ?_
    refine x_iload_n (q := 6) dX11_power_5 rfl rfl ?_
    refine x_icmp_ge (t := 19) (q := 9) dX11_power_6 (by decide) rfl (fun c6 => ?_) (fun c6 => absurd (by rw [show i = e by omega]; exact nI_le (Nat.le_refl _) (by omega)) c6)
    refine x_iload_n (q := 20) dX11_power_19 rfl rfl ?_
    refine x_iret dX11_power_20 rfl rfl (Nat.le_refl _) ?_
    rw [show i = e by omega]
    exact hQ
  | succ k ih =>
    intro i M hik hQ
    refine x_iload_n (q := 5) dX11_power_4 rfl rfl ?_
    refine x_iload_n (q := 6) dX11_power_5 rfl rfl ?_
    refine x_icmp_ge (t := 19) (q := 9) dX11_power_6 (by decide) rfl (fun c6 => absurd c6 (nI_ge (a := i) (b := e) (by omega) (by omega))) (fun c6 => ?_)
    refine x_iload_n (q := 10) dX11_power_9 rfl rfl ?_
    refine x_iload_n (q := 11) dX11_power_10 rfl rfl ?_
    refine x_imul (q := 12) dX11_power_11 rfl ?_
    refine x_istore_n (L' := fun x2_12 => [(2, .int x2_12), (3, .int (nI i)), (0, .int (nI b)), (1, .int (nI e))]) (q := 13) dX11_power_12 rfl (by decide) (fun _ => rfl) (fun x2_12 ex2_12 => ?_)
    obtain rfl : x2_12 = nI (b ^ (i + 1)) := ex2_12.trans (by rw [pk_mul, Nat.pow_succ])
    refine x_iinc (L' := fun x3_13 => [(3, .int x3_13), (2, .int (nI (b ^ (i + 1)))), (0, .int (nI b)), (1, .int (nI e))]) (q := 16) dX11_power_13 rfl rfl (by decide) (fun _ => rfl) (fun x3_13 ex3_13 => ?_)
    obtain rfl : x3_13 = nI (i + 1) := ex3_13.trans (nI_1 i)
    refine x_goto (q := 4) dX11_power_16 (by decide) ?_
    refine x_pick (L' := [(3, .int (nI (i + 1))), (2, .int (nI (b ^ (i + 1)))), (0, .int (nI b)), (1, .int (nI e))]) [0, 1, 2, 3] rfl ?_
    exact ih (i + 1) M (by omega) hQ

set_option maxHeartbeats 4000000 in
set_option maxRecDepth 100000 in
theorem c_m_power {n : Nat} {M : Nat → xE} {b e : Nat} (he : e < 2 ^ 30) : xMet mX11_power [.int (nI b), .int (nI e)] n M (fun r M' => M = M' ∧ some (.int (nI (b ^ e))) = r) := by
  refine xMet.of _ (by decide) rfl (Nat.le_of_ble_eq_true rfl) ?_
  refine x_iconst (v := 1) (q := 1) dX11_power_0 rfl (by decide) ?_
  refine x_istore_n (L' := fun x2_1 => [(2, .int x2_1), (0, .int (nI b)), (1, .int (nI e))]) (q := 2) dX11_power_1 rfl (by decide) (fun _ => rfl) (fun x2_1 ex2_1 => ?_)
  refine x_iconst (v := 0) (q := 3) dX11_power_2 rfl (by decide) ?_
  refine x_istore_n (L' := fun x3_3 => [(3, .int x3_3), (2, .int x2_1), (0, .int (nI b)), (1, .int (nI e))]) (q := 4) dX11_power_3 rfl (by decide) (fun _ => rfl) (fun x3_3 ex3_3 => ?_)
  subst ex2_1
  subst ex3_3
  exact l_m_power he e 0 M (by omega) ⟨rfl, rfl⟩

theorem nIk1 (k : Nat) : nI (k + 1) - 1 = nI k := pk_sub (b := 1) (by omega)
theorem nIp (k : Nat) : nI k + Int32.ofInt (-1) = nI k - 1 := by rw [Int32.sub_eq_add_neg]; rfl
theorem nIn0 {k : Nat} (h : 0 < k) (h2 : k < 2 ^ 31) : ¬ nI k = 0 := fun e => by have := (nIne (a := k) (b := 0) h2 (by decide)).mp e; omega
/-- a row of the plan, as the model goes through it: k works are left -/
def wbR (τ δ : Nat → Nat → Int32) (P : Nat) (aw : Int32) : Nat → Nat → (Nat → Int32) → Int32 → Int32
  | 0, _, _, s => s
  | k + 1, c, l, s => if c % (P + 1) = 0 then wbR τ δ P aw k (c / (P + 1)) l (s + if 0 < δ 9 k then τ 7 k else 0)
    else if bo aw (nI (c % (P + 1) - 1)) = 1 ∧ hsk τ (c % (P + 1) - 1) k = true ∧ τ 5 k ≤ l (c % (P + 1) - 1) then wbR τ δ P aw k (c / (P + 1)) (upd l (c % (P + 1) - 1) (l (c % (P + 1) - 1) - τ 5 k)) (s + τ 7 k) else -1
theorem wbR_cong {τ δ : Nat → Nat → Int32} {P : Nat} {aw : Int32} : ∀ (k c : Nat) (l l2 : Nat → Int32) (s : Int32), (∀ p, p < P → l p = l2 p) → wbR τ δ P aw k c l s = wbR τ δ P aw k c l2 s := by
  intro k
  induction k with
  | zero => intros; rfl
  | succ k ih =>
    intro c l l2 s h
    rw [wbR, wbR]
    by_cases h0 : c % (P + 1) = 0
    · rw [if_pos h0, if_pos h0]; exact ih _ _ _ _ h
    · rw [if_neg h0, if_neg h0]
      have hp : c % (P + 1) - 1 < P := by have := Nat.mod_lt c (show P + 1 > 0 by omega); omega
      rw [h _ hp]
      split
      · apply ih
        intro p hp2
        by_cases e : p = c % (P + 1) - 1
        · rw [e, pk_us, pk_us]
        · rw [upd_ne e, upd_ne e, h p hp2]
      · rfl
set_option maxHeartbeats 4000000 in
set_option maxRecDepth 100000 in
theorem l_m_worthBy {n P W G : Nat} {a aw : Int32} {t τ δ : Nat → Nat → Int32} {u : Nat → Nat → Int64} {Q : Option Value → (Nat → xE) → Prop} {M0 : Nat → xE} (hn : 113 < n) (hw : RT τ P W G (t 0)) (hd : ∀ k, k < 22 → t 1 k = dv δ k) : ∀ (k : Nat) (M : Nat → xE) (c : Nat) (l : Nat → Int32) (s : Int32), (k ≤ W) → (c < 2 ^ 31) → (oX11 99 (fun z => if z = 12 then l else t z) u M) → (xfr 99 114 M0 M) → (∀ M' l', oX11 99 (fun z => if z = 12 then l' else t z) u M' → xfr 99 114 M0 M' → Q (some (.int (wbR τ δ P aw k c l s))) M') → X mX11_worthBy 0 0 16 [(5, .int (nI k - 1)), (4, .int (nI c)), (3, .int s), (0, .ref 99), (1, .int a), (2, .int aw)] [] n M (Q) := by
  have hiX11 : ∀ w ∈ wsX110, w ∈ wsX11_worthBy := by decide +kernel
  intro k
  induction k with
  | zero =>
    intro M c l s hkW hcb hM hf hQ
    have hM0 := hM
    obtain ⟨mp0, mp1, mp2, mp3, mp4, mp5, mp6, mp7, mp8, mp9, mp10, mp11, mp12, mp13, mp14⟩ := hM
    have hP5 := rtP hw
    have hW6 := rtW hw
    have mp1 : M (99 + 1) = .inl (0, 122, .inl (t 0)) := mp1
    have mp2 : M (99 + 2) = .inl (0, 242, .inl (t 1)) := mp2
    have mp5 : M (99 + 5) = .inl (0, 5, .inl (l)) := mp5
    refine x_iload (q := 18) dX11_worthBy_16 rfl rfl ?_
    refine x_if_lt (t := 156) (q := 21) dX11_worthBy_18 (by decide) rfl (fun c18 => ?_) (fun c18 => absurd (show nI 0 - 1 < 0 by decide) c18)
    refine x_iload_n (q := 157) dX11_worthBy_156 rfl rfl ?_
    refine x_iret dX11_worthBy_157 rfl rfl (Nat.le_refl _) ?_
    exact hQ M l hM0 hf
  | succ k ih =>
    intro M c l s hkW hcb hM hf hQ
    have hM0 := hM
    obtain ⟨mp0, mp1, mp2, mp3, mp4, mp5, mp6, mp7, mp8, mp9, mp10, mp11, mp12, mp13, mp14⟩ := hM
    have hP5 := rtP hw
    have hW6 := rtW hw
    have mp1 : M (99 + 1) = .inl (0, 122, .inl (t 0)) := mp1
    have mp2 : M (99 + 2) = .inl (0, 242, .inl (t 1)) := mp2
    have mp5 : M (99 + 5) = .inl (0, 5, .inl (l)) := mp5
    rw [nIk1]
    refine x_iload (q := 18) dX11_worthBy_16 rfl rfl ?_
    refine x_if_lt (t := 156) (q := 21) dX11_worthBy_18 (by decide) rfl (fun c18 => absurd c18 (by rw [fa_lt, nI_toInt (by omega)]; show ¬ (k : Int) < 0; omega)) (fun c18 => ?_)
    refine x_iload (q := 23) dX11_worthBy_21 rfl rfl ?_
    refine x_aload_n (q := 24) dX11_worthBy_23 rfl rfl ?_
    refine x_getf (C := RX11) (T := TX11) (N := 29) (k := 0) (q := 27) mp0 (by omega) rfl hiX11 (by decide) (by decide +kernel) rfl dX11_worthBy_24 rfl ?_
    refine x_iconst (v := 0) (q := 28) dX11_worthBy_27 rfl (by decide) ?_
    refine x_iald (q := 29) mp1 (by omega) (ixI (show (0 : Int32) = nI 0 from rfl) (by omega) (by decide)) dX11_worthBy_28 rfl ?_
    rw [ixC (show (0 : Int32) = nI 0 from rfl) (by omega)]
    rw [rtn hw]
    refine x_iconst (v := 1) (q := 30) dX11_worthBy_29 rfl (by decide) ?_
    refine x_iadd (q := 31) dX11_worthBy_30 rfl ?_
    rw [nI_1]
    refine x_irem (q := 32) dX11_worthBy_31 rfl (nIn0 (k := P + 1) (by omega) (by omega)) ?_
    rw [pk_rem hcb (by omega) (by omega)]
    refine x_iconst (v := 1) (q := 33) dX11_worthBy_32 rfl (by decide) ?_
    refine x_isub (q := 34) dX11_worthBy_33 rfl ?_
    have hmod := Nat.mod_lt c (show P + 1 > 0 by omega)
    have hdl := Nat.div_le_self c (P + 1)
    rcases Nat.eq_zero_or_pos (c % (P + 1)) with h0 | h0
    · rw [h0, show nI 0 - 1 = -1 by decide]
      refine x_istore (L' := fun x6_34 => [(6, .int x6_34), (5, .int (nI k)), (4, .int (nI c)), (3, .int s), (0, .ref 99), (1, .int a), (2, .int aw)]) (q := 36) dX11_worthBy_34 rfl (by decide) (fun _ => rfl) (fun x6_34 ex6_34 => ?_)
      obtain rfl : x6_34 = -1 := ex6_34
      refine x_iload (q := 38) dX11_worthBy_36 rfl rfl ?_
      refine x_aload_n (q := 39) dX11_worthBy_38 rfl rfl ?_
      refine x_getf (C := RX11) (T := TX11) (N := 29) (k := 0) (q := 42) mp0 (by omega) rfl hiX11 (by decide) (by decide +kernel) rfl dX11_worthBy_39 rfl ?_
      refine x_iconst (v := 0) (q := 43) dX11_worthBy_42 rfl (by decide) ?_
      refine x_iald (q := 44) mp1 (by omega) (ixI (show (0 : Int32) = nI 0 from rfl) (by omega) (by decide)) dX11_worthBy_43 rfl ?_
      rw [ixC (show (0 : Int32) = nI 0 from rfl) (by omega)]
      rw [rtn hw]
      refine x_iconst (v := 1) (q := 45) dX11_worthBy_44 rfl (by decide) ?_
      refine x_iadd (q := 46) dX11_worthBy_45 rfl ?_
      rw [nI_1]
      refine x_idiv (q := 47) dX11_worthBy_46 rfl (nIn0 (k := P + 1) (by omega) (by omega)) ?_
      rw [pk_div hcb (by omega) (by omega)]
      refine x_istore (L' := fun x4_47 => [(4, .int x4_47), (6, .int (-1)), (5, .int (nI k)), (3, .int s), (0, .ref 99), (1, .int a), (2, .int aw)]) (q := 49) dX11_worthBy_47 rfl (by decide) (fun _ => rfl) (fun x4_47 ex4_47 => ?_)
      obtain rfl : x4_47 = nI (c / (P + 1)) := ex4_47
      refine x_iload (q := 51) dX11_worthBy_49 rfl rfl ?_
      refine x_if_lt (t := 116) (q := 54) dX11_worthBy_51 (by decide) rfl (fun c51 => ?_) (fun c51 => absurd c51 (by decide))
      refine x_iload_n (q := 117) dX11_worthBy_116 rfl rfl ?_
      refine x_iload (q := 119) dX11_worthBy_117 rfl rfl ?_
      refine x_if_ge (t := 134) (q := 122) dX11_worthBy_119 (by decide) rfl (fun c119 => absurd c119 (by decide)) (fun c119 => ?_)
      refine x_aload_n (q := 123) dX11_worthBy_122 rfl rfl ?_
      refine x_getf (C := RX11) (T := TX11) (N := 29) (k := 1) (q := 126) mp0 (by omega) rfl hiX11 (by decide) (by decide +kernel) rfl dX11_worthBy_123 rfl ?_
      refine x_iconst (v := 5) (q := 127) dX11_worthBy_126 rfl (by decide) ?_
      refine x_iload (q := 129) dX11_worthBy_127 rfl rfl ?_
      refine x_iadd (q := 130) dX11_worthBy_129 rfl ?_
      refine x_iald (q := 131) mp2 (by omega) (ixI (show ((5 + nI k) : Int32) = nI (5 + k) from (nIs rfl rfl)) (by omega) (by decide)) dX11_worthBy_130 rfl ?_
      rw [ixC (show ((5 + nI k) : Int32) = nI (5 + k) from (nIs rfl rfl)) (by omega)]
      rw [rdholds hd (show k < 6 by omega)]
      refine x_if_le (t := 147) (q := 134) dX11_worthBy_131 (by decide) rfl (fun c131 => ?_) (fun c131 => ?_)
      · refine x_iconst (v := 0) (q := 148) dX11_worthBy_147 rfl (by decide) ?_
        refine x_iadd (q := 149) dX11_worthBy_148 rfl ?_
        refine x_istore_n (L' := fun x3_149 => [(3, .int x3_149), (4, .int (nI (c / (P + 1)))), (6, .int (-1)), (5, .int (nI k)), (0, .ref 99), (1, .int a), (2, .int aw)]) (q := 150) dX11_worthBy_149 rfl (by decide) (fun _ => rfl) (fun x3_149 ex3_149 => ?_)
        obtain rfl : x3_149 = s + (if 0 < δ 9 k then τ 7 k else 0) := ex3_149.trans (by first | rw [if_pos (xlt_nle.mp c131)] | rw [if_neg (fun h => xlt_nle.mpr h c131)])
        refine x_iinc (L' := fun x5_150 => [(5, .int x5_150), (3, .int (s + (if 0 < δ 9 k then τ 7 k else 0))), (4, .int (nI (c / (P + 1)))), (6, .int (-1)), (0, .ref 99), (1, .int a), (2, .int aw)]) (q := 153) dX11_worthBy_150 rfl rfl (by decide) (fun _ => rfl) (fun x5_150 ex5_150 => ?_)
        obtain rfl : x5_150 = nI k - 1 := ex5_150.trans (nIp k)
        refine x_goto (q := 16) dX11_worthBy_153 (by decide) ?_
        have hst : wbR τ δ P aw (k + 1) c l s = wbR τ δ P aw k (c / (P + 1)) l (s + (if 0 < δ 9 k then τ 7 k else 0)) := by rw [wbR, if_pos h0]
        rw [hst] at hQ
        refine x_pick (L' := [(5, .int (nI k - 1)), (4, .int (nI (c / (P + 1)))), (3, .int (s + (if 0 < δ 9 k then τ 7 k else 0))), (0, .ref 99), (1, .int a), (2, .int aw)]) [0, 2, 1, 4, 5, 6] rfl ?_
        exact ih M (c / (P + 1)) l (s + (if 0 < δ 9 k then τ 7 k else 0)) (by omega) (by omega) ⟨mp0, mp1, mp2, mp3, mp4, mp5, mp6, mp7, mp8, mp9, mp10, mp11, mp12, mp13, mp14⟩ (fun j hj => (hf j hj)) hQ
      · refine x_aload_n (q := 135) dX11_worthBy_134 rfl rfl ?_
        refine x_getf (C := RX11) (T := TX11) (N := 29) (k := 0) (q := 138) mp0 (by omega) rfl hiX11 (by decide) (by decide +kernel) rfl dX11_worthBy_135 rfl ?_
        refine x_bipush (v := 30) (q := 140) dX11_worthBy_138 rfl (by decide) ?_
        refine x_iload (q := 142) dX11_worthBy_140 rfl rfl ?_
        refine x_iadd (q := 143) dX11_worthBy_142 rfl ?_
        refine x_iald (q := 144) mp1 (by omega) (ixI (show ((30 + nI k) : Int32) = nI (30 + k) from (nIs rfl rfl)) (by omega) (by decide)) dX11_worthBy_143 rfl ?_
        rw [ixC (show ((30 + nI k) : Int32) = nI (30 + k) from (nIs rfl rfl)) (by omega)]
        rw [rtworth hw (show k < W by omega)]
        refine x_goto (q := 148) dX11_worthBy_144 (by decide) ?_
        refine x_iadd (q := 149) dX11_worthBy_148 rfl ?_
        refine x_istore_n (L' := fun x3_149 => [(3, .int x3_149), (4, .int (nI (c / (P + 1)))), (6, .int (-1)), (5, .int (nI k)), (0, .ref 99), (1, .int a), (2, .int aw)]) (q := 150) dX11_worthBy_149 rfl (by decide) (fun _ => rfl) (fun x3_149 ex3_149 => ?_)
        obtain rfl : x3_149 = s + (if 0 < δ 9 k then τ 7 k else 0) := ex3_149.trans (by first | rw [if_pos (xlt_nle.mp c131)] | rw [if_neg (fun h => xlt_nle.mpr h c131)])
        refine x_iinc (L' := fun x5_150 => [(5, .int x5_150), (3, .int (s + (if 0 < δ 9 k then τ 7 k else 0))), (4, .int (nI (c / (P + 1)))), (6, .int (-1)), (0, .ref 99), (1, .int a), (2, .int aw)]) (q := 153) dX11_worthBy_150 rfl rfl (by decide) (fun _ => rfl) (fun x5_150 ex5_150 => ?_)
        obtain rfl : x5_150 = nI k - 1 := ex5_150.trans (nIp k)
        refine x_goto (q := 16) dX11_worthBy_153 (by decide) ?_
        have hst : wbR τ δ P aw (k + 1) c l s = wbR τ δ P aw k (c / (P + 1)) l (s + (if 0 < δ 9 k then τ 7 k else 0)) := by rw [wbR, if_pos h0]
        rw [hst] at hQ
        refine x_pick (L' := [(5, .int (nI k - 1)), (4, .int (nI (c / (P + 1)))), (3, .int (s + (if 0 < δ 9 k then τ 7 k else 0))), (0, .ref 99), (1, .int a), (2, .int aw)]) [0, 2, 1, 4, 5, 6] rfl ?_
        exact ih M (c / (P + 1)) l (s + (if 0 < δ 9 k then τ 7 k else 0)) (by omega) (by omega) ⟨mp0, mp1, mp2, mp3, mp4, mp5, mp6, mp7, mp8, mp9, mp10, mp11, mp12, mp13, mp14⟩ (fun j hj => (hf j hj)) hQ
    · obtain ⟨p, hp⟩ : ∃ p, c % (P + 1) = p + 1 := ⟨c % (P + 1) - 1, by omega⟩
      have hpP : p < P := by omega
      have hp1 : c % (P + 1) - 1 = p := by omega
      rw [hp, nIk1]
      refine x_istore (L' := fun x6_34 => [(6, .int x6_34), (5, .int (nI k)), (4, .int (nI c)), (3, .int s), (0, .ref 99), (1, .int a), (2, .int aw)]) (q := 36) dX11_worthBy_34 rfl (by decide) (fun _ => rfl) (fun x6_34 ex6_34 => ?_)
      obtain rfl : x6_34 = nI p := ex6_34
      refine x_iload (q := 38) dX11_worthBy_36 rfl rfl ?_
      refine x_aload_n (q := 39) dX11_worthBy_38 rfl rfl ?_
      refine x_getf (C := RX11) (T := TX11) (N := 29) (k := 0) (q := 42) mp0 (by omega) rfl hiX11 (by decide) (by decide +kernel) rfl dX11_worthBy_39 rfl ?_
      refine x_iconst (v := 0) (q := 43) dX11_worthBy_42 rfl (by decide) ?_
      refine x_iald (q := 44) mp1 (by omega) (ixI (show (0 : Int32) = nI 0 from rfl) (by omega) (by decide)) dX11_worthBy_43 rfl ?_
      rw [ixC (show (0 : Int32) = nI 0 from rfl) (by omega)]
      rw [rtn hw]
      refine x_iconst (v := 1) (q := 45) dX11_worthBy_44 rfl (by decide) ?_
      refine x_iadd (q := 46) dX11_worthBy_45 rfl ?_
      rw [nI_1]
      refine x_idiv (q := 47) dX11_worthBy_46 rfl (nIn0 (k := P + 1) (by omega) (by omega)) ?_
      rw [pk_div hcb (by omega) (by omega)]
      refine x_istore (L' := fun x4_47 => [(4, .int x4_47), (6, .int (nI p)), (5, .int (nI k)), (3, .int s), (0, .ref 99), (1, .int a), (2, .int aw)]) (q := 49) dX11_worthBy_47 rfl (by decide) (fun _ => rfl) (fun x4_47 ex4_47 => ?_)
      obtain rfl : x4_47 = nI (c / (P + 1)) := ex4_47
      refine x_iload (q := 51) dX11_worthBy_49 rfl rfl ?_
      refine x_if_lt (t := 116) (q := 54) dX11_worthBy_51 (by decide) rfl (fun c51 => absurd c51 (by rw [fa_lt, nI_toInt (by omega)]; show ¬ (p : Int) < 0; omega)) (fun c51 => ?_)
      refine x_iload_n (q := 55) dX11_worthBy_54 rfl rfl ?_
      refine x_iload (q := 57) dX11_worthBy_55 rfl rfl ?_
      refine x_callS (q := 60) c_m_has eX11_worthBy_164 gX11_worthBy_X11_has rfl (Nat.le_of_ble_eq_true rfl) ⟨Nat.le_refl _, Nat.le_refl _⟩ dX11_worthBy_57 rfl rfl (fun r57 M57 p57 => ?_)
      obtain ⟨rfl, p57⟩ := p57
      rcases p57 with ⟨b57, rfl⟩ | ⟨b57, rfl⟩
      · refine x_if_eq (t := 94) (q := 63) dX11_worthBy_60 (by decide) rfl (fun c60 => absurd c60 (by decide)) (fun c60 => ?_)
        refine x_aload_n (q := 64) dX11_worthBy_63 rfl rfl ?_
        refine x_iload (q := 66) dX11_worthBy_64 rfl rfl ?_
        refine x_iload (q := 68) dX11_worthBy_66 rfl rfl ?_
        refine x_callV (q := 71) (ci := 11) (c_m_hasSkill (t := (fun z => if z = 12 then l else t z)) (u := u) hn hM0 hw hpP (show k < W by omega)) eX11_worthBy_167 gX11_worthBy_X11_hasSkill mp0 (by omega) rfl rfl rfl (Nat.le_of_ble_eq_true rfl) ⟨Nat.le_refl _, Nat.le_refl _⟩ dX11_worthBy_68 rfl rfl (fun r68 M68 p68 => ?_)
        obtain ⟨rfl, p68⟩ := p68
        rcases p68 with ⟨b68, rfl⟩ | ⟨b68, rfl⟩
        · refine x_if_eq (t := 94) (q := 74) dX11_worthBy_71 (by decide) rfl (fun c71 => absurd c71 (by decide)) (fun c71 => ?_)
          refine x_aload_n (q := 75) dX11_worthBy_74 rfl rfl ?_
          refine x_getf (C := RX11) (T := TX11) (N := 29) (k := 12) (q := 78) mp0 (by omega) rfl hiX11 (by decide) (by decide +kernel) rfl dX11_worthBy_75 rfl ?_
          refine x_iload (q := 80) dX11_worthBy_78 rfl rfl ?_
          refine x_iald (q := 81) mp5 (by omega) (ixI (show (nI p : Int32) = nI p from rfl) (by omega) (by decide)) dX11_worthBy_80 rfl ?_
          rw [ixC (show (nI p : Int32) = nI p from rfl) (by omega)]
          refine x_aload_n (q := 82) dX11_worthBy_81 rfl rfl ?_
          refine x_getf (C := RX11) (T := TX11) (N := 29) (k := 0) (q := 85) mp0 (by omega) rfl hiX11 (by decide) (by decide +kernel) rfl dX11_worthBy_82 rfl ?_
          refine x_bipush (v := 18) (q := 87) dX11_worthBy_85 rfl (by decide) ?_
          refine x_iload (q := 89) dX11_worthBy_87 rfl rfl ?_
          refine x_iadd (q := 90) dX11_worthBy_89 rfl ?_
          refine x_iald (q := 91) mp1 (by omega) (ixI (show ((18 + nI k) : Int32) = nI (18 + k) from (nIs rfl rfl)) (by omega) (by decide)) dX11_worthBy_90 rfl ?_
          rw [ixC (show ((18 + nI k) : Int32) = nI (18 + k) from (nIs rfl rfl)) (by omega)]
          rw [rtmin hw (show k < W by omega)]
          refine x_icmp_ge (t := 96) (q := 94) dX11_worthBy_91 (by decide) rfl (fun c91 => ?_) (fun c91 => ?_)
          · refine x_aload_n (q := 97) dX11_worthBy_96 rfl rfl ?_
            refine x_getf (C := RX11) (T := TX11) (N := 29) (k := 12) (q := 100) mp0 (by omega) rfl hiX11 (by decide) (by decide +kernel) rfl dX11_worthBy_97 rfl ?_
            refine x_iload (q := 102) dX11_worthBy_100 rfl rfl ?_
            refine x_dup2 (q := 103) dX11_worthBy_102 rfl rfl rfl ?_
            refine x_iald (q := 104) mp5 (by omega) (ixI (show (nI p : Int32) = nI p from rfl) (by omega) (by decide)) dX11_worthBy_103 rfl ?_
            rw [ixC (show (nI p : Int32) = nI p from rfl) (by omega)]
            refine x_aload_n (q := 105) dX11_worthBy_104 rfl rfl ?_
            refine x_getf (C := RX11) (T := TX11) (N := 29) (k := 0) (q := 108) mp0 (by omega) rfl hiX11 (by decide) (by decide +kernel) rfl dX11_worthBy_105 rfl ?_
            refine x_bipush (v := 18) (q := 110) dX11_worthBy_108 rfl (by decide) ?_
            refine x_iload (q := 112) dX11_worthBy_110 rfl rfl ?_
            refine x_iadd (q := 113) dX11_worthBy_112 rfl ?_
            refine x_iald (q := 114) mp1 (by omega) (ixI (show ((18 + nI k) : Int32) = nI (18 + k) from (nIs rfl rfl)) (by omega) (by decide)) dX11_worthBy_113 rfl ?_
            rw [ixC (show ((18 + nI k) : Int32) = nI (18 + k) from (nIs rfl rfl)) (by omega)]
            rw [rtmin hw (show k < W by omega)]
            refine x_isub (q := 115) dX11_worthBy_114 rfl ?_
            refine x_iast (q := 116) mp5 (by omega) (ixI (show (nI p : Int32) = nI p from rfl) (by omega) (by decide)) dX11_worthBy_115 rfl (fun M115 w115 o115 => ?_)
            rw [ixC (show (nI p : Int32) = nI p from rfl) (by omega)] at w115
            refine x_iload_n (q := 117) dX11_worthBy_116 rfl rfl ?_
            refine x_iload (q := 119) dX11_worthBy_117 rfl rfl ?_
            refine x_if_ge (t := 134) (q := 122) dX11_worthBy_119 (by decide) rfl (fun c119 => ?_) (fun c119 => absurd (by rw [fa_le, nI_toInt (by omega)]; show (0 : Int) ≤ (p : Int); omega) c119)
            refine x_aload_n (q := 135) dX11_worthBy_134 rfl rfl ?_
            have hv1_1_99 := ((o115 (99) (by omega)).trans mp0)
            refine x_getf (C := RX11) (T := TX11) (N := 29) (k := 0) (q := 138) hv1_1_99 (by omega) rfl hiX11 (by decide) (by decide +kernel) rfl dX11_worthBy_135 rfl ?_
            refine x_bipush (v := 30) (q := 140) dX11_worthBy_138 rfl (by decide) ?_
            refine x_iload (q := 142) dX11_worthBy_140 rfl rfl ?_
            refine x_iadd (q := 143) dX11_worthBy_142 rfl ?_
            have hv1_2_100 := ((o115 (100) (by omega)).trans mp1)
            refine x_iald (q := 144) hv1_2_100 (by omega) (ixI (show ((30 + nI k) : Int32) = nI (30 + k) from (nIs rfl rfl)) (by omega) (by decide)) dX11_worthBy_143 rfl ?_
            rw [ixC (show ((30 + nI k) : Int32) = nI (30 + k) from (nIs rfl rfl)) (by omega)]
            rw [rtworth hw (show k < W by omega)]
            refine x_goto (q := 148) dX11_worthBy_144 (by decide) ?_
            refine x_iadd (q := 149) dX11_worthBy_148 rfl ?_
            refine x_istore_n (L' := fun x3_149 => [(3, .int x3_149), (4, .int (nI (c / (P + 1)))), (6, .int (nI p)), (5, .int (nI k)), (0, .ref 99), (1, .int a), (2, .int aw)]) (q := 150) dX11_worthBy_149 rfl (by decide) (fun _ => rfl) (fun x3_149 ex3_149 => ?_)
            obtain rfl : x3_149 = s + τ 7 k := ex3_149
            refine x_iinc (L' := fun x5_150 => [(5, .int x5_150), (3, .int (s + τ 7 k)), (4, .int (nI (c / (P + 1)))), (6, .int (nI p)), (0, .ref 99), (1, .int a), (2, .int aw)]) (q := 153) dX11_worthBy_150 rfl rfl (by decide) (fun _ => rfl) (fun x5_150 ex5_150 => ?_)
            obtain rfl : x5_150 = nI k - 1 := ex5_150.trans (nIp k)
            refine x_goto (q := 16) dX11_worthBy_153 (by decide) ?_
            have hv1_3_101 := ((o115 (101) (by omega)).trans mp2)
            have hv1_4_102 := ((o115 (102) (by omega)).trans mp3)
            have hv1_5_103 := ((o115 (103) (by omega)).trans mp4)
            have hv1_6_105 := ((o115 (105) (by omega)).trans mp6)
            have hv1_7_106 := ((o115 (106) (by omega)).trans mp7)
            have hv1_8_107 := ((o115 (107) (by omega)).trans mp8)
            have hv1_9_108 := ((o115 (108) (by omega)).trans mp9)
            have hv1_10_109 := ((o115 (109) (by omega)).trans mp10)
            have hv1_11_110 := ((o115 (110) (by omega)).trans mp11)
            have hv1_12_111 := ((o115 (111) (by omega)).trans mp12)
            have hv1_13_112 := ((o115 (112) (by omega)).trans mp13)
            have hv1_14_113 := ((o115 (113) (by omega)).trans mp14)
            have hst : wbR τ δ P aw (k + 1) c l s = wbR τ δ P aw k (c / (P + 1)) (upd l p (l p - τ 5 k)) (s + τ 7 k) := by rw [wbR, if_neg (show ¬ c % (P + 1) = 0 by omega), hp1, if_pos ⟨b57, b68, c91⟩]
            rw [hst] at hQ
            refine x_pick (L' := [(5, .int (nI k - 1)), (4, .int (nI (c / (P + 1)))), (3, .int (s + τ 7 k)), (0, .ref 99), (1, .int a), (2, .int aw)]) [0, 2, 1, 4, 5, 6] rfl ?_
            exact ih M115 (c / (P + 1)) (upd l p (l p - τ 5 k)) (s + τ 7 k) (by omega) (by omega) ⟨hv1_1_99, hv1_2_100, hv1_3_101, hv1_4_102, hv1_5_103, w115, hv1_6_105, hv1_7_106, hv1_8_107, hv1_9_108, hv1_10_109, hv1_11_110, hv1_12_111, hv1_13_112, hv1_14_113⟩ (fun j hj => ((o115 j (by omega)).trans (hf j hj))) hQ
          · refine x_iconst (v := -1) (q := 95) dX11_worthBy_94 rfl (by decide) ?_
            refine x_iret dX11_worthBy_95 rfl rfl (Nat.le_refl _) ?_
            have hst : wbR τ δ P aw (k + 1) c l s = -1 := by
              rw [wbR, if_neg (show ¬ c % (P + 1) = 0 by omega), hp1, if_neg]
              rintro ⟨g1, g2, g3⟩
              first | exact b57 g1 | exact b68 g2 | exact c91 g3
            rw [hst] at hQ
            exact hQ M l hM0 hf
        · refine x_if_eq (t := 94) (q := 74) dX11_worthBy_71 (by decide) rfl (fun c71 => ?_) (fun c71 => absurd c71 (by decide))
          refine x_iconst (v := -1) (q := 95) dX11_worthBy_94 rfl (by decide) ?_
          refine x_iret dX11_worthBy_95 rfl rfl (Nat.le_refl _) ?_
          have hst : wbR τ δ P aw (k + 1) c l s = -1 := by
            rw [wbR, if_neg (show ¬ c % (P + 1) = 0 by omega), hp1, if_neg]
            rintro ⟨g1, g2, g3⟩
            first | exact b57 g1 | exact b68 g2 | exact c91 g3
          rw [hst] at hQ
          exact hQ M l hM0 hf
      · refine x_if_eq (t := 94) (q := 63) dX11_worthBy_60 (by decide) rfl (fun c60 => ?_) (fun c60 => absurd c60 (by decide))
        refine x_iconst (v := -1) (q := 95) dX11_worthBy_94 rfl (by decide) ?_
        refine x_iret dX11_worthBy_95 rfl rfl (Nat.le_refl _) ?_
        have hst : wbR τ δ P aw (k + 1) c l s = -1 := by
          rw [wbR, if_neg (show ¬ c % (P + 1) = 0 by omega), hp1, if_neg]
          rintro ⟨g1, g2, g3⟩
          first | exact b57 g1 | exact b68 g2 | exact c91 g3
        rw [hst] at hQ
        exact hQ M l hM0 hf
    

set_option maxHeartbeats 4000000 in
set_option maxRecDepth 100000 in
theorem c_m_worthBy {n : Nat} {M : Nat → xE} {t : Nat → Nat → Int32} {u : Nat → Nat → Int64} (hn : 113 < n) (hM : oX11 99 t u M) {τ : Nat → Nat → Int32} {P W G : Nat} (hw : RT τ P W G (t 0)) {δ : Nat → Nat → Int32} (hd : ∀ k, k < 22 → t 1 k = dv δ k) {c : Nat} (hc : c < 2 ^ 31) {aw : Int32} : xMet mX11_worthBy [.ref 99, .int (nI c), .int aw] n M (fun r M' => some (.int (wbR τ δ P aw W c (t 12) 0)) = r ∧ (∃ l', oX11 99 (fun z => if z = 12 then l' else t z) u M') ∧ xfr 99 114 M M') := by
  have hM0 := hM
  obtain ⟨mp0, mp1, mp2, mp3, mp4, mp5, mp6, mp7, mp8, mp9, mp10, mp11, mp12, mp13, mp14⟩ := hM
  have hP5 := rtP hw
  have hW6 := rtW hw
  have hG5 := rtG hw
  have hiX11 : ∀ w ∈ wsX110, w ∈ wsX11_worthBy := by decide +kernel
  refine xMet.of _ (by decide) rfl (Nat.le_of_ble_eq_true rfl) ?_
  refine x_iconst (v := 0) (q := 1) dX11_worthBy_0 rfl (by decide) ?_
  refine x_istore_n (L' := fun x3_1 => [(3, .int x3_1), (0, .ref 99), (1, .int (nI c)), (2, .int aw)]) (q := 2) dX11_worthBy_1 rfl (by decide) (fun _ => rfl) (fun x3_1 ex3_1 => ?_)
  refine x_iload_n (q := 3) dX11_worthBy_2 rfl rfl ?_
  refine x_istore (L' := fun x4_3 => [(4, .int x4_3), (3, .int x3_1), (0, .ref 99), (1, .int (nI c)), (2, .int aw)]) (q := 5) dX11_worthBy_3 rfl (by decide) (fun _ => rfl) (fun x4_3 ex4_3 => ?_)
  obtain rfl : x4_3 = nI c := ex4_3
  refine x_aload_n (q := 6) dX11_worthBy_5 rfl rfl ?_
  refine x_getf (C := RX11) (T := TX11) (N := 29) (k := 0) (q := 9) mp0 (by omega) rfl hiX11 (by decide) (by decide +kernel) rfl dX11_worthBy_6 rfl ?_
  refine x_bipush (v := 11) (q := 11) dX11_worthBy_9 rfl (by decide) ?_
  refine x_iald (q := 12) mp1 (by omega) (ixI (show (11 : Int32) = nI 11 from rfl) (by omega) (by decide)) dX11_worthBy_11 rfl ?_
  rw [ixC (show (11 : Int32) = nI 11 from rfl) (by omega)]
  rw [rtmany hw]
  refine x_iconst (v := 1) (q := 13) dX11_worthBy_12 rfl (by decide) ?_
  refine x_isub (q := 14) dX11_worthBy_13 rfl ?_
  refine x_istore (L' := fun x5_14 => [(5, .int x5_14), (4, .int (nI c)), (3, .int x3_1), (0, .ref 99), (1, .int (nI c)), (2, .int aw)]) (q := 16) dX11_worthBy_14 rfl (by decide) (fun _ => rfl) (fun x5_14 ex5_14 => ?_)
  obtain rfl : x5_14 = nI W - 1 := ex5_14
  subst ex3_1
  exact l_m_worthBy (t := t) (u := u) (M0 := M) hn hw hd W M c (t 12) 0 (Nat.le_refl _) hc ⟨mp0, mp1, mp2, mp3, mp4, mp5, mp6, mp7, mp8, mp9, mp10, mp11, mp12, mp13, mp14⟩ (fun j _ => rfl) (fun M' l' h1 h3 => ⟨rfl, ⟨l', h1⟩, h3⟩)

