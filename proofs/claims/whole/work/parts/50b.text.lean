section XS2
variable {f : xM} {k0 s0 pc q n : Nat} {L : List (Nat × Value)} {S : List Value} {M : Nat → xE} {Q : Option Value → (Nat → xE) → Prop}
theorem x_pop {a : Value} (hd : decode f.2.1 pc = .ok (.pop, 1)) (hq : pc + 1 = q) (ha : a.category = 1) (kk : X f k0 s0 q L S n M Q) : X f k0 s0 pc L (a :: S) n M Q := by
  subst hq
  exact X.lift (fun _ _ _ _ _ _ _ _ _ _ _ _ _ _ _ _ _ hx hb _ k => lv_pop hx hb hd (by rw [xv_cat]; exact ha) k) kk
theorem x_aretE {v : Nat} {nm : String} (hd : decode f.2.1 pc = .ok (.areturn, 1)) (hr : f.2.2.2.1 = some (.object nm)) (hc : k0 = f.2.2.2.2.2.cells) (hs : s0 ≤ f.2.2.2.2.2.slots) (hQ : Q (some (.retAddr v)) M) : X f k0 s0 pc L (.retAddr v :: []) n M Q := by
  intro g p l e s m args below meth c H locs ls C hk hP hS hl
  refine W.widen (k := f.2.2.2.2.2.cells) (n := f.2.2.2.2.2.slots) (Nat.le_of_eq hc) hs ?_
  have hlocks : meth.locks = false := C.2.2.2.2.1
  have hgs := C.2.2.2.2.2.2.2.2.2.2
  have hnn : s.heap.size - g.1 + f.2.2.2.2.2.cells = n := by omega
  exact W.aret C.1 C.2.1 (C.2.2.2.1.trans hr) (Or.inl ⟨_, rfl⟩) (Or.inr ⟨_, rfl⟩) (fun t ht hW => ⟨⟨_, M, rfl, hQ, by rw [ht, hnn]; exact hP⟩, hS.F ht⟩) hS.2.2 hd
end XS2
theorem shr0 {L : Nat} (h : L < 2 ^ 31) : nI L >>> ((0 : Int32) &&& 31) = nI L := by
  have := pk_shrN h ((0 : Int32) &&& 31) 0 (by decide)
  rw [this, Nat.pow_zero, Nat.div_one]
theorem wL_lt : ∀ c, c < 12 → xLen.getD c 0 < 7 := by decide +kernel
theorem wB_ch : ∀ c, c < 12 → ∀ i, i < xLen.getD c 0 → ((((xByt.getD c []).getD i 0) &&& 255).toUInt32 % 65536).toInt32 = (xByt.getD c []).getD i 0 ∧ narrow .char (.int ((xByt.getD c []).getD i 0)) = .int ((xByt.getD c []).getD i 0) := by
  intro c hc
  rcases (show c = 0 ∨ c = 1 ∨ c = 2 ∨ c = 3 ∨ c = 4 ∨ c = 5 ∨ c = 6 ∨ c = 7 ∨ c = 8 ∨ c = 9 ∨ c = 10 ∨ c = 11 by omega) with h | h | h | h | h | h | h | h | h | h | h | h <;> subst h <;> decide +kernel
set_option maxHeartbeats 4000000 in
set_option maxRecDepth 100000 in
theorem c_coder {n : Nat} {M : Nat → xE} {c : Nat} (hc : c < 12) : xMet mJ0_coder_7d493 [.retAddr (c + 1)] n M (fun r M' => M = M' ∧ some (.int (0)) = r) := by
  refine xMet.of _ (by decide) rfl (Nat.le_of_ble_eq_true rfl) ?_
  refine x_gsC (q := 3) (by decide +kernel) dJ0_coder_7d493_0 rfl ?_
  refine x_if_eq (t := 13) (q := 6) dJ0_coder_7d493_3 (by decide) rfl (fun c3 => absurd c3 (by decide)) (fun c3 => ?_)
  refine x_aload_e (q := 7) dJ0_coder_7d493_6 rfl rfl ?_
  refine x_gfC (i := c) (q := 10) (by omega) (by decide +kernel) dJ0_coder_7d493_7 rfl ?_
  refine x_goto (q := 14) dJ0_coder_7d493_10 (by decide) ?_
  refine x_zret dJ0_coder_7d493_14 rfl rfl rfl (Nat.le_refl _) ?_
  exact ⟨rfl, rfl⟩

set_option maxHeartbeats 4000000 in
set_option maxRecDepth 100000 in
theorem c_slen {n : Nat} {M : Nat → xE} {c : Nat} (hc : c < 12) : xMet mJ0_length_8abf5 [.retAddr (c + 1)] n M (fun r M' => M = M' ∧ some (.int (nI (wL c))) = r) := by
  refine xMet.of _ (by decide) rfl (Nat.le_of_ble_eq_true rfl) ?_
  refine x_aload_e (q := 1) dJ0_length_8abf5_0 rfl rfl ?_
  refine x_gfV (i := c) (q := 4) (by omega) (by decide +kernel) dJ0_length_8abf5_1 rfl ?_
  refine x_lenB (i := c) (q := 5) (by omega) dJ0_length_8abf5_4 rfl ?_
  refine x_aload_e (q := 6) dJ0_length_8abf5_5 rfl rfl ?_
  refine x_callVE (q := 9) (i := c) (c_coder hc) eJ0_length_8abf5_335 gJ0_length_8abf5_J0_coder_7d493 (by omega) rfl rfl (Nat.le_of_ble_eq_true rfl) ⟨Nat.le_refl _, Nat.le_refl _⟩ dJ0_length_8abf5_6 rfl rfl (fun r6 M6 p6 => ?_)
  obtain ⟨rfl, rfl⟩ := p6
  refine x_ishr (q := 10) dJ0_length_8abf5_9 rfl ?_
  refine x_iret dJ0_length_8abf5_10 rfl rfl (Nat.le_refl _) ?_
  refine ⟨rfl, ?_⟩
  rw [shr0 (by have := wL_lt c hc; omega)]
  rfl

set_option maxHeartbeats 4000000 in
set_option maxRecDepth 100000 in
theorem c_latin {n : Nat} {M : Nat → xE} {c : Nat} (hc : c < 12) : xMet mJ0_isLatin1_aae02 [.retAddr (c + 1)] n M (fun r M' => M = M' ∧ some (.int (1)) = r) := by
  refine xMet.of _ (by decide) rfl (Nat.le_of_ble_eq_true rfl) ?_
  refine x_gsC (q := 3) (by decide +kernel) dJ0_isLatin1_aae02_0 rfl ?_
  refine x_if_eq (t := 17) (q := 6) dJ0_isLatin1_aae02_3 (by decide) rfl (fun c3 => absurd c3 (by decide)) (fun c3 => ?_)
  refine x_aload_e (q := 7) dJ0_isLatin1_aae02_6 rfl rfl ?_
  refine x_gfC (i := c) (q := 10) (by omega) (by decide +kernel) dJ0_isLatin1_aae02_7 rfl ?_
  refine x_if_ne (t := 17) (q := 13) dJ0_isLatin1_aae02_10 (by decide) rfl (fun c10 => absurd c10 (by decide)) (fun c10 => ?_)
  refine x_iconst (v := 1) (q := 14) dJ0_isLatin1_aae02_13 rfl (by decide) ?_
  refine x_goto (q := 18) dJ0_isLatin1_aae02_14 (by decide) ?_
  refine x_zret dJ0_isLatin1_aae02_18 rfl rfl rfl (Nat.le_refl _) ?_
  exact ⟨rfl, rfl⟩

set_option maxHeartbeats 4000000 in
set_option maxRecDepth 100000 in
theorem c_chk3a {n : Nat} {M : Nat → xE} {i L : Nat} (hi : i < L) (hL : L < 2 ^ 31) : xMet mJ3_checkIndex_8e157 [.int (nI i), .int (nI L), .retAddr 25] n M (fun r M' => M = M' ∧ some (.int (nI i)) = r) := by
  refine xMet.of _ (by decide) rfl (Nat.le_of_ble_eq_true rfl) ?_
  refine x_iload_n (q := 1) dJ3_checkIndex_8e157_0 rfl rfl ?_
  refine x_if_lt (t := 9) (q := 4) dJ3_checkIndex_8e157_1 (by decide) rfl (fun c1 => absurd c1 (by rw [fa_lt, nI_toInt (by omega)]; show ¬ (i : Int) < 0; omega)) (fun c1 => ?_)
  refine x_iload_n (q := 5) dJ3_checkIndex_8e157_4 rfl rfl ?_
  refine x_iload_n (q := 6) dJ3_checkIndex_8e157_5 rfl rfl ?_
  refine x_icmp_lt (t := 16) (q := 9) dJ3_checkIndex_8e157_6 (by decide) rfl (fun c6 => ?_) (fun c6 => absurd (nI_lt hi hL) c6)
  refine x_iload_n (q := 17) dJ3_checkIndex_8e157_16 rfl rfl ?_
  refine x_iret dJ3_checkIndex_8e157_17 rfl rfl (Nat.le_refl _) ?_
  exact ⟨rfl, rfl⟩

set_option maxHeartbeats 4000000 in
set_option maxRecDepth 100000 in
theorem c_chk3b {n : Nat} {M : Nat → xE} {i L : Nat} (hi : i < L) (hL : L < 2 ^ 31) : xMet mJ3_checkIndex_8e157 [.int (nI i), .int (nI L), .null] n M (fun r M' => M = M' ∧ some (.int (nI i)) = r) := by
  refine xMet.of _ (by decide) rfl (Nat.le_of_ble_eq_true rfl) ?_
  refine x_iload_n (q := 1) dJ3_checkIndex_8e157_0 rfl rfl ?_
  refine x_if_lt (t := 9) (q := 4) dJ3_checkIndex_8e157_1 (by decide) rfl (fun c1 => absurd c1 (by rw [fa_lt, nI_toInt (by omega)]; show ¬ (i : Int) < 0; omega)) (fun c1 => ?_)
  refine x_iload_n (q := 5) dJ3_checkIndex_8e157_4 rfl rfl ?_
  refine x_iload_n (q := 6) dJ3_checkIndex_8e157_5 rfl rfl ?_
  refine x_icmp_lt (t := 16) (q := 9) dJ3_checkIndex_8e157_6 (by decide) rfl (fun c6 => ?_) (fun c6 => absurd (nI_lt hi hL) c6)
  refine x_iload_n (q := 17) dJ3_checkIndex_8e157_16 rfl rfl ?_
  refine x_iret dJ3_checkIndex_8e157_17 rfl rfl (Nat.le_refl _) ?_
  exact ⟨rfl, rfl⟩

set_option maxHeartbeats 4000000 in
set_option maxRecDepth 100000 in
theorem c_chk0 {n : Nat} {M : Nat → xE} {i L : Nat} (hi : i < L) (hL : L < 2 ^ 31) : xMet mJ0_checkIndex_df160 [.int (nI i), .int (nI L)] n M (fun r M' => M = M' ∧ none = r) := by
  refine xMet.of _ (by decide) rfl (Nat.le_of_ble_eq_true rfl) ?_
  refine x_iload_n (q := 1) dJ0_checkIndex_df160_0 rfl rfl ?_
  refine x_iload_n (q := 2) dJ0_checkIndex_df160_1 rfl rfl ?_
  refine x_gsF (q := 5) (by decide +kernel) dJ0_checkIndex_df160_2 rfl (fun v2 hv2 => ?_)
  rcases hv2 with rfl | rfl
  · refine x_callS (q := 8) (c_chk3a hi hL) eJ0_checkIndex_df160_1059 gJ0_checkIndex_df160_J3_checkIndex_8e157 rfl (Nat.le_of_ble_eq_true rfl) ⟨Nat.le_refl _, Nat.le_refl _⟩ dJ0_checkIndex_df160_5 rfl rfl (fun r5 M5 p5 => ?_)
    obtain ⟨rfl, rfl⟩ := p5
    refine x_pop (q := 9) dJ0_checkIndex_df160_8 rfl rfl ?_
    refine x_vret dJ0_checkIndex_df160_9 rfl rfl (Nat.le_refl _) ?_
    exact ⟨rfl, rfl⟩
  · refine x_callS (q := 8) (c_chk3b hi hL) eJ0_checkIndex_df160_1059 gJ0_checkIndex_df160_J3_checkIndex_8e157 rfl (Nat.le_of_ble_eq_true rfl) ⟨Nat.le_refl _, Nat.le_refl _⟩ dJ0_checkIndex_df160_5 rfl rfl (fun r5 M5 p5 => ?_)
    obtain ⟨rfl, rfl⟩ := p5
    refine x_pop (q := 9) dJ0_checkIndex_df160_8 rfl rfl ?_
    refine x_vret dJ0_checkIndex_df160_9 rfl rfl (Nat.le_refl _) ?_
    exact ⟨rfl, rfl⟩
  

set_option maxHeartbeats 4000000 in
set_option maxRecDepth 100000 in
theorem c_ch1 {n : Nat} {M : Nat → xE} {c : Nat} (hc : c < 12) {i : Nat} (hi : i < xLen.getD c 0) : xMet mJ1_charAt_3b067 [.retAddr (c + 13), .int (nI i)] n M (fun r M' => M = M' ∧ some (.int (wB c i)) = r) := by
  have hw := wL_lt c hc
  refine xMet.of _ (by decide) rfl (Nat.le_of_ble_eq_true rfl) ?_
  refine x_iload_n (q := 1) dJ1_charAt_3b067_0 rfl rfl ?_
  refine x_aload_e (q := 2) dJ1_charAt_3b067_1 rfl rfl ?_
  refine x_lenB (i := c) (q := 3) (by omega) dJ1_charAt_3b067_2 rfl ?_
  refine x_callS (q := 6) (c_chk0 hi (by omega)) eJ1_charAt_3b067_9 gJ1_charAt_3b067_J0_checkIndex_df160 rfl (Nat.le_of_ble_eq_true rfl) ⟨Nat.le_refl _, Nat.le_refl _⟩ dJ1_charAt_3b067_3 rfl rfl (fun r3 M3 p3 => ?_)
  obtain ⟨rfl, rfl⟩ := p3
  refine x_aload_e (q := 7) dJ1_charAt_3b067_6 rfl rfl ?_
  refine x_iload_n (q := 8) dJ1_charAt_3b067_7 rfl rfl ?_
  refine x_ldB (i := c) (q := 9) (by omega) (vp_in_nI hi (by omega)) dJ1_charAt_3b067_8 rfl ?_
  rw [nI_clamp (show i < 2 ^ 31 by omega)]
  refine x_sipush (v := 255) (q := 12) dJ1_charAt_3b067_9 rfl (by decide) ?_
  refine x_iand (q := 13) dJ1_charAt_3b067_12 rfl ?_
  refine x_i2c (q := 14) dJ1_charAt_3b067_13 rfl rfl ?_
  rw [(wB_ch c hc i hi).1]
  refine x_zret dJ1_charAt_3b067_14 rfl (wB_ch c hc i hi).2 rfl (Nat.le_refl _) ?_
  exact ⟨rfl, rfl⟩

set_option maxHeartbeats 4000000 in
set_option maxRecDepth 100000 in
theorem c_chAt {n : Nat} {M : Nat → xE} {c : Nat} (hc : c < 12) {i : Nat} (hi : i < xLen.getD c 0) : xMet mJ0_charAt_5068e [.retAddr (c + 1), .int (nI i)] n M (fun r M' => M = M' ∧ some (.int (wB c i)) = r) := by
  refine xMet.of _ (by decide) rfl (Nat.le_of_ble_eq_true rfl) ?_
  refine x_aload_e (q := 1) dJ0_charAt_5068e_0 rfl rfl ?_
  refine x_callVE (q := 4) (i := c) (c_latin hc) eJ0_charAt_5068e_492 gJ0_charAt_5068e_J0_isLatin1_aae02 (by omega) rfl rfl (Nat.le_of_ble_eq_true rfl) ⟨Nat.le_refl _, Nat.le_refl _⟩ dJ0_charAt_5068e_1 rfl rfl (fun r1 M1 p1 => ?_)
  obtain ⟨rfl, rfl⟩ := p1
  refine x_if_eq (t := 16) (q := 7) dJ0_charAt_5068e_4 (by decide) rfl (fun c4 => absurd c4 (by decide)) (fun c4 => ?_)
  refine x_aload_e (q := 8) dJ0_charAt_5068e_7 rfl rfl ?_
  refine x_gfV (i := c) (q := 11) (by omega) (by decide +kernel) dJ0_charAt_5068e_8 rfl ?_
  refine x_iload_n (q := 12) dJ0_charAt_5068e_11 rfl rfl ?_
  refine x_callS (q := 15) (c_ch1 hc hi) eJ0_charAt_5068e_495 gJ0_charAt_5068e_J1_charAt_3b067 rfl (Nat.le_of_ble_eq_true rfl) ⟨Nat.le_refl _, Nat.le_refl _⟩ dJ0_charAt_5068e_12 rfl rfl (fun r12 M12 p12 => ?_)
  obtain ⟨rfl, rfl⟩ := p12
  refine x_zret dJ0_charAt_5068e_15 rfl (wB_ch c hc i hi).2 rfl (Nat.le_refl _) ?_
  exact ⟨rfl, rfl⟩

set_option maxHeartbeats 4000000 in
set_option maxRecDepth 100000 in
theorem c_wordOf {n : Nat} {M : Nat → xE} {c : Nat} (hc : c < 12) : xMet mX7_wordOf [.int (nI c)] n M (fun r M' => M = M' ∧ some (.retAddr (c + 1)) = r) := by
  refine xMet.of _ (by decide) rfl (Nat.le_of_ble_eq_true rfl) ?_
  refine x_iload_n (q := 1) dX7_wordOf_0 rfl rfl ?_
  by_cases hs1 : vp_in (nI c) 11
  · obtain ⟨k1, hk1, ek1⟩ := vp_in_of hs1 (by decide)
    rcases (show k1 = 0 ∨ k1 = 1 ∨ k1 = 2 ∨ k1 = 3 ∨ k1 = 4 ∨ k1 = 5 ∨ k1 = 6 ∨ k1 = 7 ∨ k1 = 8 ∨ k1 = 9 ∨ k1 = 10 by omega) with ej | ej | ej | ej | ej | ej | ej | ej | ej | ej | ej
    · rw [ej] at ek1
      refine x_tableIn (t := 60) (off := 59) dX7_wordOf_1 (by rw [ek1]; decide) (by rw [ek1]; decide) (by rw [ek1]; decide +kernel) (by decide) ?_
      refine x_ldcS (i := 0) (q := 62) rfl rfl dX7_wordOf_60 rfl ?_
      refine x_aretE dX7_wordOf_62 rfl rfl (Nat.le_refl _) ?_
      refine ⟨rfl, ?_⟩
      rw [(nIne (a := c) (b := 0) (by omega) (by decide)).mp ek1]
    · rw [ej] at ek1
      refine x_tableIn (t := 63) (off := 62) dX7_wordOf_1 (by rw [ek1]; decide) (by rw [ek1]; decide) (by rw [ek1]; decide +kernel) (by decide) ?_
      refine x_ldcS (i := 1) (q := 65) rfl rfl dX7_wordOf_63 rfl ?_
      refine x_aretE dX7_wordOf_65 rfl rfl (Nat.le_refl _) ?_
      refine ⟨rfl, ?_⟩
      rw [(nIne (a := c) (b := 1) (by omega) (by decide)).mp ek1]
    · rw [ej] at ek1
      refine x_tableIn (t := 66) (off := 65) dX7_wordOf_1 (by rw [ek1]; decide) (by rw [ek1]; decide) (by rw [ek1]; decide +kernel) (by decide) ?_
      refine x_ldcS (i := 2) (q := 68) rfl rfl dX7_wordOf_66 rfl ?_
      refine x_aretE dX7_wordOf_68 rfl rfl (Nat.le_refl _) ?_
      refine ⟨rfl, ?_⟩
      rw [(nIne (a := c) (b := 2) (by omega) (by decide)).mp ek1]
    · rw [ej] at ek1
      refine x_tableIn (t := 69) (off := 68) dX7_wordOf_1 (by rw [ek1]; decide) (by rw [ek1]; decide) (by rw [ek1]; decide +kernel) (by decide) ?_
      refine x_ldcS (i := 3) (q := 71) rfl rfl dX7_wordOf_69 rfl ?_
      refine x_aretE dX7_wordOf_71 rfl rfl (Nat.le_refl _) ?_
      refine ⟨rfl, ?_⟩
      rw [(nIne (a := c) (b := 3) (by omega) (by decide)).mp ek1]
    · rw [ej] at ek1
      refine x_tableIn (t := 72) (off := 71) dX7_wordOf_1 (by rw [ek1]; decide) (by rw [ek1]; decide) (by rw [ek1]; decide +kernel) (by decide) ?_
      refine x_ldcS (i := 4) (q := 74) rfl rfl dX7_wordOf_72 rfl ?_
      refine x_aretE dX7_wordOf_74 rfl rfl (Nat.le_refl _) ?_
      refine ⟨rfl, ?_⟩
      rw [(nIne (a := c) (b := 4) (by omega) (by decide)).mp ek1]
    · rw [ej] at ek1
      refine x_tableIn (t := 75) (off := 74) dX7_wordOf_1 (by rw [ek1]; decide) (by rw [ek1]; decide) (by rw [ek1]; decide +kernel) (by decide) ?_
      refine x_ldcS (i := 5) (q := 77) rfl rfl dX7_wordOf_75 rfl ?_
      refine x_aretE dX7_wordOf_77 rfl rfl (Nat.le_refl _) ?_
      refine ⟨rfl, ?_⟩
      rw [(nIne (a := c) (b := 5) (by omega) (by decide)).mp ek1]
    · rw [ej] at ek1
      refine x_tableIn (t := 78) (off := 77) dX7_wordOf_1 (by rw [ek1]; decide) (by rw [ek1]; decide) (by rw [ek1]; decide +kernel) (by decide) ?_
      refine x_ldcS (i := 6) (q := 80) rfl rfl dX7_wordOf_78 rfl ?_
      refine x_aretE dX7_wordOf_80 rfl rfl (Nat.le_refl _) ?_
      refine ⟨rfl, ?_⟩
      rw [(nIne (a := c) (b := 6) (by omega) (by decide)).mp ek1]
    · rw [ej] at ek1
      refine x_tableIn (t := 81) (off := 80) dX7_wordOf_1 (by rw [ek1]; decide) (by rw [ek1]; decide) (by rw [ek1]; decide +kernel) (by decide) ?_
      refine x_ldcS (i := 7) (q := 83) rfl rfl dX7_wordOf_81 rfl ?_
      refine x_aretE dX7_wordOf_83 rfl rfl (Nat.le_refl _) ?_
      refine ⟨rfl, ?_⟩
      rw [(nIne (a := c) (b := 7) (by omega) (by decide)).mp ek1]
    · rw [ej] at ek1
      refine x_tableIn (t := 84) (off := 83) dX7_wordOf_1 (by rw [ek1]; decide) (by rw [ek1]; decide) (by rw [ek1]; decide +kernel) (by decide) ?_
      refine x_ldcS (i := 8) (q := 86) rfl rfl dX7_wordOf_84 rfl ?_
      refine x_aretE dX7_wordOf_86 rfl rfl (Nat.le_refl _) ?_
      refine ⟨rfl, ?_⟩
      rw [(nIne (a := c) (b := 8) (by omega) (by decide)).mp ek1]
    · rw [ej] at ek1
      refine x_tableIn (t := 87) (off := 86) dX7_wordOf_1 (by rw [ek1]; decide) (by rw [ek1]; decide) (by rw [ek1]; decide +kernel) (by decide) ?_
      refine x_ldcS (i := 9) (q := 89) rfl rfl dX7_wordOf_87 rfl ?_
      refine x_aretE dX7_wordOf_89 rfl rfl (Nat.le_refl _) ?_
      refine ⟨rfl, ?_⟩
      rw [(nIne (a := c) (b := 9) (by omega) (by decide)).mp ek1]
    · rw [ej] at ek1
      refine x_tableIn (t := 90) (off := 89) dX7_wordOf_1 (by rw [ek1]; decide) (by rw [ek1]; decide) (by rw [ek1]; decide +kernel) (by decide) ?_
      refine x_ldcS (i := 10) (q := 92) rfl rfl dX7_wordOf_90 rfl ?_
      refine x_aretE dX7_wordOf_92 rfl rfl (Nat.le_refl _) ?_
      refine ⟨rfl, ?_⟩
      rw [(nIne (a := c) (b := 10) (by omega) (by decide)).mp ek1]
  · refine x_tableOut (t := 93) dX7_wordOf_1 (by rw [vp_in_iff] at hs1; omega) (by decide) ?_
    refine x_ldcS (i := 11) (q := 95) rfl rfl dX7_wordOf_93 rfl ?_
    refine x_aretE dX7_wordOf_95 rfl rfl (Nat.le_refl _) ?_
    refine ⟨rfl, ?_⟩
    have e11 : c = 11 := by rw [vp_in_iff, nI_toInt (by omega)] at hs1; omega
    rw [e11]

