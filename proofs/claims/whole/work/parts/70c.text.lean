theorem wdF_lt {lt : Nat → Int32} {s e : Nat} : ∀ k c x, wdF lt s e k c = some x → x < c + k
  | 0, c, x, h => by cases h
  | k + 1, c, x, h => by
    rw [wdF] at h
    split at h
    · cases h; omega
    · have := wdF_lt k (c + 1) x h; omega
theorem wdT_lt {lt : Nat → Int32} {n p x : Nat} (h : wdT lt n p = some x) : x < 12 := by
  unfold wdT at h
  split at h
  · have := wdF_lt 12 0 x h; omega
  · cases h
theorem oI_s {o : Option Nat} (ho : ∀ x, o = some x → x < 12) (h : ¬ oI o = -1) : ∃ x, o = some x ∧ x < 12 := by
  cases o with
  | none => exact absurd rfl h
  | some x => exact ⟨x, rfl, ho x rfl⟩
theorem oI_n {o : Option Nat} (ho : ∀ x, o = some x → x < 12) (h : oI o = -1) : o = none := by
  cases o with
  | none => rfl
  | some x => exact absurd h (m1ne (by have := ho x rfl; omega))
theorem rm_P {P W G c : Nat} (h : rm P W G c = true) (h1 : 1 ≤ c) (h2 : c < 5) : P < 5 := by unfold rm at h; rw [if_pos ⟨h1, h2⟩] at h; exact of_decide_eq_true h
theorem rm_W {P W G : Nat} (h : rm P W G 6 = true) : W < 6 := by unfold rm at h; rw [if_neg (by omega), if_pos rfl] at h; exact of_decide_eq_true h
theorem rm_G {P W G c : Nat} (h : rm P W G c = true) (hc : c = 7 ∨ c = 8) : G < 5 := by unfold rm at h; rw [if_neg (by omega), if_neg (by omega), if_pos hc] at h; exact of_decide_eq_true h
theorem rdP_at {lt : Nat → Int32} {N : Nat} {cl : Int32} {τ : Nat → Nat → Int32} {c q : Nat} {P : Nat} {M' : Nat → xE} (hc : c = 0 ∨ c = 11 ∨ (1 ≤ c ∧ c < 5)) (h1 : oTx lt N cl q (-1) M') (h2 : q ≤ N) (h3 : oX8 14 (doA τ (c, 0, 0, 0, 0)) M') : rdP lt N cl τ (rdB lt N P c q) M' := by
  unfold rdB
  rw [if_neg (by omega), if_neg (by omega), if_neg (by omega), if_neg (by omega), if_neg (by omega)]
  exact ⟨h1, h2, h3⟩
set_option maxHeartbeats 4000000 in
set_option maxRecDepth 100000 in
theorem c_readClause {n N : Nat} {M : Nat → xE} {lt : Nat → Int32} {cl : Int32} {q : Nat} (hn : 24 < n) (hN : N ≤ 160) (hq : q ≤ N) (hX : oTx lt N cl q (-1) M) {τ : Nat → Nat → Int32} (hD : oX8 14 τ M) {P W G : Nat} (hP : P ≤ 5) (hW : W ≤ 6) (hG : G ≤ 5) (hP0 : τ 0 0 = nI P) (hW0 : τ 3 0 = nI W) (hG0 : τ 8 0 = nI G) : xMet mX7_readClause [.ref 12] n M (fun r M' => none = r ∧ rdP lt N cl τ (rdC lt N P W G q) M' ∧ xfr 12 25 M M') := by
  have hX0 := hX
  obtain ⟨xp0, xp1⟩ := hX
  have hb := tkE_b lt hq
  have hb0 := tsp_b lt hq
  have hD0 := hD
  obtain ⟨dp0, dp1, dp2, dp3, dp4, dp5, dp6, dp7, dp8, dp9, dp10⟩ := hD
  have hkl := tkK_lt lt N q
  have hwd := fun x (h : wdT lt N q = some x) => wdT_lt h
  have hiX7 : ∀ w ∈ wsX70, w ∈ wsX7_readClause := by decide +kernel
  refine xMet.of _ (by decide) rfl (Nat.le_of_ble_eq_true rfl) ?_
  refine x_aload_n (q := 1) dX7_readClause_0 rfl rfl ?_
  refine x_callV (q := 4) (ci := 7) (c_clause hn hN hq hX0) eX7_readClause_56 gX7_readClause_X7_clauseOfToken xp0 (by omega) rfl rfl rfl (Nat.le_of_ble_eq_true rfl) ⟨Nat.le_refl _, Nat.le_refl _⟩ dX7_readClause_1 rfl rfl (fun r1 M1 p1 => ?_)
  obtain ⟨rfl, rfl⟩ := p1
  refine x_istore_n (L' := fun x1_4 => [(1, .int x1_4), (0, .ref 12)]) (q := 5) dX7_readClause_4 rfl (by decide) (fun _ => rfl) (fun x1_4 ex1_4 => ?_)
  refine x_iload_n (q := 6) dX7_readClause_5 rfl rfl ?_
  refine x_iconst (v := -1) (q := 7) dX7_readClause_6 rfl (by decide) ?_
  refine x_icmp_eq (t := 18) (q := 10) dX7_readClause_7 (by decide) rfl (fun c7 => ?_) (fun c7 => ?_)
  · refine x_aload_n (q := 19) dX7_readClause_18 rfl rfl ?_
    refine x_aload_n (q := 20) dX7_readClause_19 rfl rfl ?_
    refine x_getf (C := RX7) (T := TX7) (N := 8) (k := 5) (q := 23) xp0 (by omega) rfl hiX7 (by decide) (by decide +kernel) rfl dX7_readClause_20 rfl ?_
    refine x_put (C := RX7) (T := TX7) (N := 8) (k := 7) (q := 26) (ty := .int) tyX7_ok nmX7 xp0 (by omega) rfl hiX7 (by decide) (by decide +kernel) rfl (by decide +kernel) (fun _ => rfl) (fun _ => rfl) (Nat.le_of_ble_eq_true rfl) dX7_readClause_23 rfl (fun M23 w23 o23 => ?_)
    refine x_vret dX7_readClause_26 rfl rfl (Nat.le_refl _) ?_
    have hv1_1_13 := ((o23 (13) (by omega)).trans xp1)
    have hv1_2_14 := ((o23 (14) (by omega)).trans dp0)
    have hv1_3_15 := ((o23 (15) (by omega)).trans dp1)
    have hv1_4_16 := ((o23 (16) (by omega)).trans dp2)
    have hv1_5_17 := ((o23 (17) (by omega)).trans dp3)
    have hv1_6_18 := ((o23 (18) (by omega)).trans dp4)
    have hv1_7_19 := ((o23 (19) (by omega)).trans dp5)
    have hv1_8_20 := ((o23 (20) (by omega)).trans dp6)
    have hv1_9_21 := ((o23 (21) (by omega)).trans dp7)
    have hv1_10_22 := ((o23 (22) (by omega)).trans dp8)
    have hv1_11_23 := ((o23 (23) (by omega)).trans dp9)
    have hv1_12_24 := ((o23 (24) (by omega)).trans dp10)
    refine ⟨rfl, ?_, (fun j hj => ((o23 j (by omega)).trans rfl))⟩
    have hn0 : wdT lt N q = none := oI_n hwd (by rw [← ex1_4]; exact c7)
    unfold rdC
    rw [hn0]
    exact ⟨⟨q, ⟨w23, hv1_1_13⟩⟩, by omega, τ, ⟨hv1_2_14, hv1_3_15, hv1_4_16, hv1_5_17, hv1_6_18, hv1_7_19, hv1_8_20, hv1_9_21, hv1_10_22, hv1_11_23, hv1_12_24⟩⟩
  · obtain ⟨x, hx, hxl⟩ := oI_s hwd (by rw [← ex1_4]; exact c7)
    obtain rfl : x1_4 = nI x := by rw [ex1_4, hx]; rfl
    refine x_aload_n (q := 11) dX7_readClause_10 rfl rfl ?_
    refine x_iload_n (q := 12) dX7_readClause_11 rfl rfl ?_
    refine x_callV (q := 15) (ci := 7) (c_room hn hN hq hX0 hD0 hP hW hG hP0 hW0 hG0 hxl) eX7_readClause_60 gX7_readClause_X7_hasRoomFor xp0 (by omega) rfl rfl rfl (Nat.le_of_ble_eq_true rfl) ⟨Nat.le_refl _, Nat.le_refl _⟩ dX7_readClause_12 rfl rfl (fun r12 M12 p12 => ?_)
    obtain ⟨rfl, p12⟩ := p12
    rcases p12 with ⟨b12, rfl⟩ | ⟨b12, rfl⟩
    · refine x_if_ne (t := 27) (q := 18) dX7_readClause_15 (by decide) rfl (fun c15 => ?_) (fun c15 => absurd c15 (by decide))
      refine x_aload_n (q := 28) dX7_readClause_27 rfl rfl ?_
      refine x_aload_n (q := 29) dX7_readClause_28 rfl rfl ?_
      refine x_getf (C := RX7) (T := TX7) (N := 8) (k := 6) (q := 32) xp0 (by omega) rfl hiX7 (by decide) (by decide +kernel) rfl dX7_readClause_29 rfl ?_
      refine x_callV (q := 35) (ci := 7) (c_rt hn hN hX0 hb.2) eX7_readClause_36 gX7_readClause_X7_readToken xp0 (by omega) rfl rfl rfl (Nat.le_of_ble_eq_true rfl) ⟨Nat.le_refl _, Nat.le_refl _⟩ dX7_readClause_32 rfl rfl (fun r32 M32 p32 => ?_)
      obtain ⟨rfl, ⟨z0, z1⟩, fr32⟩ := p32
      have hq2 : tkE lt N q ≤ N := hb.2
      have hv1_1_14 := ((fr32 (14) (by omega)).trans dp0)
      have hv1_2_15 := ((fr32 (15) (by omega)).trans dp1)
      have hv1_3_16 := ((fr32 (16) (by omega)).trans dp2)
      have hv1_4_17 := ((fr32 (17) (by omega)).trans dp3)
      have hv1_5_18 := ((fr32 (18) (by omega)).trans dp4)
      have hv1_6_19 := ((fr32 (19) (by omega)).trans dp5)
      have hv1_7_20 := ((fr32 (20) (by omega)).trans dp6)
      have hv1_8_21 := ((fr32 (21) (by omega)).trans dp7)
      have hv1_9_22 := ((fr32 (22) (by omega)).trans dp8)
      have hv1_10_23 := ((fr32 (23) (by omega)).trans dp9)
      have hv1_11_24 := ((fr32 (24) (by omega)).trans dp10)
      have hT2 : oTx lt N cl (tkE lt N q) (-1) M32 := ⟨z0, z1⟩
      have hD2 : oX8 14 τ M32 := ⟨hv1_1_14, hv1_2_15, hv1_3_16, hv1_4_17, hv1_5_18, hv1_6_19, hv1_7_20, hv1_8_21, hv1_9_22, hv1_10_23, hv1_11_24⟩
      have hres : ∀ M' : Nat → xE, rdP lt N cl τ (rdB lt N P x (tkE lt N q)) M' → rdP lt N cl τ (rdC lt N P W G q) M' := fun M' h => by unfold rdC; rw [hx]; show rdP lt N cl τ (if rm P W G x = true then _ else _) _; rw [if_pos b12]; exact h
      clear hx
      refine x_iload_n (q := 36) dX7_readClause_35 rfl rfl ?_
      by_cases hs36 : vp_in (nI x) 12
      · obtain ⟨k36, hk36, ek36⟩ := vp_in_of hs36 (by decide)
        rcases (show k36 = 0 ∨ k36 = 1 ∨ k36 = 2 ∨ k36 = 3 ∨ k36 = 4 ∨ k36 = 5 ∨ k36 = 6 ∨ k36 = 7 ∨ k36 = 8 ∨ k36 = 9 ∨ k36 = 10 ∨ k36 = 11 by omega) with ej | ej | ej | ej | ej | ej | ej | ej | ej | ej | ej | ej
        · rw [ej] at ek36
          refine x_tableIn (t := 100) (off := 64) dX7_readClause_36 (by rw [ek36]; decide) (by rw [ek36]; decide) (by rw [ek36]; decide +kernel) (by decide) ?_
          obtain rfl : x = 0 := (nIne (a := x) (b := 0) (by omega) (by decide)).mp ek36
          refine x_aload_n (q := 101) dX7_readClause_100 rfl rfl ?_
          refine x_getf (C := RX7) (T := TX7) (N := 8) (k := 1) (q := 104) z0 (by omega) rfl hiX7 (by decide) (by decide +kernel) rfl dX7_readClause_101 rfl ?_
          refine x_callV (q := 107) (ci := 8) (c_Told_none (p := 14) (by omega) hD2) eX7_readClause_64 gX7_readClause_X8_tellNothing hv1_1_14 (by omega) rfl rfl rfl (Nat.le_of_ble_eq_true rfl) ⟨Nat.le_refl _, Nat.le_refl _⟩ dX7_readClause_104 rfl rfl (fun r104 M104 p104 => ?_)
          obtain ⟨rfl, hV104, fr104⟩ := p104
          refine x_goto (q := 174) dX7_readClause_107 (by decide) ?_
          have hv2_12_12 := ((fr104 (12) (by omega)).trans z0)
          have hv2_13_13 := ((fr104 (13) (by omega)).trans z1)
          refine x_vret dX7_readClause_174 rfl rfl (Nat.le_refl _) ⟨rfl, hres _ (rdP_at (by omega) ⟨hv2_12_12, hv2_13_13⟩ hq2 hV104), (fun j hj => (fr104 j (by omega)).trans (fr32 j (by omega)))⟩
        · rw [ej] at ek36
          refine x_tableIn (t := 164) (off := 128) dX7_readClause_36 (by rw [ek36]; decide) (by rw [ek36]; decide) (by rw [ek36]; decide +kernel) (by decide) ?_
          obtain rfl : x = 1 := (nIne (a := x) (b := 1) (by omega) (by decide)).mp ek36
          refine x_aload_n (q := 165) dX7_readClause_164 rfl rfl ?_
          refine x_getf (C := RX7) (T := TX7) (N := 8) (k := 1) (q := 168) z0 (by omega) rfl hiX7 (by decide) (by decide +kernel) rfl dX7_readClause_165 rfl ?_
          refine x_iload_n (q := 169) dX7_readClause_168 rfl rfl ?_
          refine x_iconst (v := 1) (q := 170) dX7_readClause_169 rfl (by decide) ?_
          refine x_isub (q := 171) dX7_readClause_170 rfl ?_
          refine x_callV (q := 174) (ci := 8) (c_Told_one (p := 14) (by omega) hD2 (by rw [hP0]; exact vp_in_nI (rm_P b12 (by omega) (by omega)) (by decide))) eX7_readClause_85 gX7_readClause_X8_addOne hv1_1_14 (by omega) rfl rfl rfl (Nat.le_of_ble_eq_true rfl) ⟨Nat.le_refl _, Nat.le_refl _⟩ dX7_readClause_171 rfl rfl (fun r171 M171 p171 => ?_)
          obtain ⟨rfl, hV171, fr171⟩ := p171
          have hv2_12_12 := ((fr171 (12) (by omega)).trans z0)
          have hv2_13_13 := ((fr171 (13) (by omega)).trans z1)
          refine x_vret dX7_readClause_174 rfl rfl (Nat.le_refl _) ⟨rfl, hres _ (rdP_at (by omega) ⟨hv2_12_12, hv2_13_13⟩ hq2 hV171), (fun j hj => (fr171 j (by omega)).trans (fr32 j (by omega)))⟩
        · rw [ej] at ek36
          refine x_tableIn (t := 164) (off := 128) dX7_readClause_36 (by rw [ek36]; decide) (by rw [ek36]; decide) (by rw [ek36]; decide +kernel) (by decide) ?_
          obtain rfl : x = 2 := (nIne (a := x) (b := 2) (by omega) (by decide)).mp ek36
          refine x_aload_n (q := 165) dX7_readClause_164 rfl rfl ?_
          refine x_getf (C := RX7) (T := TX7) (N := 8) (k := 1) (q := 168) z0 (by omega) rfl hiX7 (by decide) (by decide +kernel) rfl dX7_readClause_165 rfl ?_
          refine x_iload_n (q := 169) dX7_readClause_168 rfl rfl ?_
          refine x_iconst (v := 1) (q := 170) dX7_readClause_169 rfl (by decide) ?_
          refine x_isub (q := 171) dX7_readClause_170 rfl ?_
          refine x_callV (q := 174) (ci := 8) (c_Told_one (p := 14) (by omega) hD2 (by rw [hP0]; exact vp_in_nI (rm_P b12 (by omega) (by omega)) (by decide))) eX7_readClause_85 gX7_readClause_X8_addOne hv1_1_14 (by omega) rfl rfl rfl (Nat.le_of_ble_eq_true rfl) ⟨Nat.le_refl _, Nat.le_refl _⟩ dX7_readClause_171 rfl rfl (fun r171 M171 p171 => ?_)
          obtain ⟨rfl, hV171, fr171⟩ := p171
          have hv2_12_12 := ((fr171 (12) (by omega)).trans z0)
          have hv2_13_13 := ((fr171 (13) (by omega)).trans z1)
          refine x_vret dX7_readClause_174 rfl rfl (Nat.le_refl _) ⟨rfl, hres _ (rdP_at (by omega) ⟨hv2_12_12, hv2_13_13⟩ hq2 hV171), (fun j hj => (fr171 j (by omega)).trans (fr32 j (by omega)))⟩
        · rw [ej] at ek36
          refine x_tableIn (t := 164) (off := 128) dX7_readClause_36 (by rw [ek36]; decide) (by rw [ek36]; decide) (by rw [ek36]; decide +kernel) (by decide) ?_
          obtain rfl : x = 3 := (nIne (a := x) (b := 3) (by omega) (by decide)).mp ek36
          refine x_aload_n (q := 165) dX7_readClause_164 rfl rfl ?_
          refine x_getf (C := RX7) (T := TX7) (N := 8) (k := 1) (q := 168) z0 (by omega) rfl hiX7 (by decide) (by decide +kernel) rfl dX7_readClause_165 rfl ?_
          refine x_iload_n (q := 169) dX7_readClause_168 rfl rfl ?_
          refine x_iconst (v := 1) (q := 170) dX7_readClause_169 rfl (by decide) ?_
          refine x_isub (q := 171) dX7_readClause_170 rfl ?_
          refine x_callV (q := 174) (ci := 8) (c_Told_one (p := 14) (by omega) hD2 (by rw [hP0]; exact vp_in_nI (rm_P b12 (by omega) (by omega)) (by decide))) eX7_readClause_85 gX7_readClause_X8_addOne hv1_1_14 (by omega) rfl rfl rfl (Nat.le_of_ble_eq_true rfl) ⟨Nat.le_refl _, Nat.le_refl _⟩ dX7_readClause_171 rfl rfl (fun r171 M171 p171 => ?_)
          obtain ⟨rfl, hV171, fr171⟩ := p171
          have hv2_12_12 := ((fr171 (12) (by omega)).trans z0)
          have hv2_13_13 := ((fr171 (13) (by omega)).trans z1)
          refine x_vret dX7_readClause_174 rfl rfl (Nat.le_refl _) ⟨rfl, hres _ (rdP_at (by omega) ⟨hv2_12_12, hv2_13_13⟩ hq2 hV171), (fun j hj => (fr171 j (by omega)).trans (fr32 j (by omega)))⟩
        · rw [ej] at ek36
          refine x_tableIn (t := 164) (off := 128) dX7_readClause_36 (by rw [ek36]; decide) (by rw [ek36]; decide) (by rw [ek36]; decide +kernel) (by decide) ?_
          obtain rfl : x = 4 := (nIne (a := x) (b := 4) (by omega) (by decide)).mp ek36
          refine x_aload_n (q := 165) dX7_readClause_164 rfl rfl ?_
          refine x_getf (C := RX7) (T := TX7) (N := 8) (k := 1) (q := 168) z0 (by omega) rfl hiX7 (by decide) (by decide +kernel) rfl dX7_readClause_165 rfl ?_
          refine x_iload_n (q := 169) dX7_readClause_168 rfl rfl ?_
          refine x_iconst (v := 1) (q := 170) dX7_readClause_169 rfl (by decide) ?_
          refine x_isub (q := 171) dX7_readClause_170 rfl ?_
          refine x_callV (q := 174) (ci := 8) (c_Told_one (p := 14) (by omega) hD2 (by rw [hP0]; exact vp_in_nI (rm_P b12 (by omega) (by omega)) (by decide))) eX7_readClause_85 gX7_readClause_X8_addOne hv1_1_14 (by omega) rfl rfl rfl (Nat.le_of_ble_eq_true rfl) ⟨Nat.le_refl _, Nat.le_refl _⟩ dX7_readClause_171 rfl rfl (fun r171 M171 p171 => ?_)
          obtain ⟨rfl, hV171, fr171⟩ := p171
          have hv2_12_12 := ((fr171 (12) (by omega)).trans z0)
          have hv2_13_13 := ((fr171 (13) (by omega)).trans z1)
          refine x_vret dX7_readClause_174 rfl rfl (Nat.le_refl _) ⟨rfl, hres _ (rdP_at (by omega) ⟨hv2_12_12, hv2_13_13⟩ hq2 hV171), (fun j hj => (fr171 j (by omega)).trans (fr32 j (by omega)))⟩
        · rw [ej] at ek36
          refine x_tableIn (t := 110) (off := 74) dX7_readClause_36 (by rw [ek36]; decide) (by rw [ek36]; decide) (by rw [ek36]; decide +kernel) (by decide) ?_
          obtain rfl : x = 5 := (nIne (a := x) (b := 5) (by omega) (by decide)).mp ek36
          refine x_aload_n (q := 111) dX7_readClause_110 rfl rfl ?_
          refine x_callV (q := 114) (ci := 7) (c_rLikes hn hN hq2 hT2 hD2 hP hP0) eX7_readClause_67 gX7_readClause_X7_readLikes z0 (by omega) rfl rfl rfl (Nat.le_of_ble_eq_true rfl) ⟨Nat.le_refl _, Nat.le_refl _⟩ dX7_readClause_111 rfl rfl (fun r111 M111 p111 => ?_)
          obtain ⟨rfl, hR111, fr111⟩ := p111
          refine x_goto (q := 174) dX7_readClause_114 (by decide) ?_
          refine x_vret dX7_readClause_174 rfl rfl (Nat.le_refl _) ⟨rfl, hres _ hR111, (fun j hj => (fr111 j hj).trans (fr32 j (by omega)))⟩
        · rw [ej] at ek36
          refine x_tableIn (t := 117) (off := 81) dX7_readClause_36 (by rw [ek36]; decide) (by rw [ek36]; decide) (by rw [ek36]; decide +kernel) (by decide) ?_
          obtain rfl : x = 6 := (nIne (a := x) (b := 6) (by omega) (by decide)).mp ek36
          refine x_aload_n (q := 118) dX7_readClause_117 rfl rfl ?_
          refine x_callV (q := 121) (ci := 7) (c_rWork hn hN hq2 hT2 hD2 hP hP0 (rm_W b12) hW0) eX7_readClause_70 gX7_readClause_X7_readWork z0 (by omega) rfl rfl rfl (Nat.le_of_ble_eq_true rfl) ⟨Nat.le_refl _, Nat.le_refl _⟩ dX7_readClause_118 rfl rfl (fun r118 M118 p118 => ?_)
          obtain ⟨rfl, hR118, fr118⟩ := p118
          refine x_goto (q := 174) dX7_readClause_121 (by decide) ?_
          refine x_vret dX7_readClause_174 rfl rfl (Nat.le_refl _) ⟨rfl, hres _ hR118, (fun j hj => (fr118 j hj).trans (fr32 j (by omega)))⟩
        · rw [ej] at ek36
          refine x_tableIn (t := 124) (off := 88) dX7_readClause_36 (by rw [ek36]; decide) (by rw [ek36]; decide) (by rw [ek36]; decide +kernel) (by decide) ?_
          obtain rfl : x = 7 := (nIne (a := x) (b := 7) (by omega) (by decide)).mp ek36
          refine x_aload_n (q := 125) dX7_readClause_124 rfl rfl ?_
          refine x_iconst (v := 1) (q := 126) dX7_readClause_125 rfl (by decide) ?_
          refine x_callV (q := 129) (ci := 7) (c_rGrow hn hN hq2 hT2 hD2 hP hP0 (rm_G b12 (Or.inl rfl)) hG0) eX7_readClause_73 gX7_readClause_X7_readGood z0 (by omega) rfl rfl rfl (Nat.le_of_ble_eq_true rfl) ⟨Nat.le_refl _, Nat.le_refl _⟩ dX7_readClause_126 rfl rfl (fun r126 M126 p126 => ?_)
          obtain ⟨rfl, hR126, fr126⟩ := p126
          refine x_goto (q := 174) dX7_readClause_129 (by decide) ?_
          refine x_vret dX7_readClause_174 rfl rfl (Nat.le_refl _) ⟨rfl, hres _ hR126, (fun j hj => (fr126 j hj).trans (fr32 j (by omega)))⟩
        · rw [ej] at ek36
          refine x_tableIn (t := 132) (off := 96) dX7_readClause_36 (by rw [ek36]; decide) (by rw [ek36]; decide) (by rw [ek36]; decide +kernel) (by decide) ?_
          obtain rfl : x = 8 := (nIne (a := x) (b := 8) (by omega) (by decide)).mp ek36
          refine x_aload_n (q := 133) dX7_readClause_132 rfl rfl ?_
          refine x_iconst (v := 0) (q := 134) dX7_readClause_133 rfl (by decide) ?_
          refine x_callV (q := 137) (ci := 7) (c_rWither hn hN hq2 hT2 hD2 hP hP0 (rm_G b12 (Or.inr rfl)) hG0) eX7_readClause_73 gX7_readClause_X7_readGood z0 (by omega) rfl rfl rfl (Nat.le_of_ble_eq_true rfl) ⟨Nat.le_refl _, Nat.le_refl _⟩ dX7_readClause_134 rfl rfl (fun r134 M134 p134 => ?_)
          obtain ⟨rfl, hR134, fr134⟩ := p134
          refine x_goto (q := 174) dX7_readClause_137 (by decide) ?_
          refine x_vret dX7_readClause_174 rfl rfl (Nat.le_refl _) ⟨rfl, hres _ hR134, (fun j hj => (fr134 j hj).trans (fr32 j (by omega)))⟩
        · rw [ej] at ek36
          refine x_tableIn (t := 140) (off := 104) dX7_readClause_36 (by rw [ek36]; decide) (by rw [ek36]; decide) (by rw [ek36]; decide +kernel) (by decide) ?_
          obtain rfl : x = 9 := (nIne (a := x) (b := 9) (by omega) (by decide)).mp ek36
          refine x_aload_n (q := 141) dX7_readClause_140 rfl rfl ?_
          refine x_callV (q := 144) (ci := 7) (c_rLength hn hN hq2 hT2 hD2 hP hP0) eX7_readClause_76 gX7_readClause_X7_readLength z0 (by omega) rfl rfl rfl (Nat.le_of_ble_eq_true rfl) ⟨Nat.le_refl _, Nat.le_refl _⟩ dX7_readClause_141 rfl rfl (fun r141 M141 p141 => ?_)
          obtain ⟨rfl, hR141, fr141⟩ := p141
          refine x_goto (q := 174) dX7_readClause_144 (by decide) ?_
          refine x_vret dX7_readClause_174 rfl rfl (Nat.le_refl _) ⟨rfl, hres _ hR141, (fun j hj => (fr141 j hj).trans (fr32 j (by omega)))⟩
        · rw [ej] at ek36
          refine x_tableIn (t := 147) (off := 111) dX7_readClause_36 (by rw [ek36]; decide) (by rw [ek36]; decide) (by rw [ek36]; decide +kernel) (by decide) ?_
          obtain rfl : x = 10 := (nIne (a := x) (b := 10) (by omega) (by decide)).mp ek36
          refine x_aload_n (q := 148) dX7_readClause_147 rfl rfl ?_
          refine x_callV (q := 151) (ci := 7) (c_rWorld hn hN hq2 hT2 hD2 hP hP0) eX7_readClause_79 gX7_readClause_X7_readWorld z0 (by omega) rfl rfl rfl (Nat.le_of_ble_eq_true rfl) ⟨Nat.le_refl _, Nat.le_refl _⟩ dX7_readClause_148 rfl rfl (fun r148 M148 p148 => ?_)
          obtain ⟨rfl, hR148, fr148⟩ := p148
          refine x_goto (q := 174) dX7_readClause_151 (by decide) ?_
          refine x_vret dX7_readClause_174 rfl rfl (Nat.le_refl _) ⟨rfl, hres _ hR148, (fun j hj => (fr148 j hj).trans (fr32 j (by omega)))⟩
        · rw [ej] at ek36
          refine x_tableIn (t := 154) (off := 118) dX7_readClause_36 (by rw [ek36]; decide) (by rw [ek36]; decide) (by rw [ek36]; decide +kernel) (by decide) ?_
          obtain rfl : x = 11 := (nIne (a := x) (b := 11) (by omega) (by decide)).mp ek36
          refine x_aload_n (q := 155) dX7_readClause_154 rfl rfl ?_
          refine x_getf (C := RX7) (T := TX7) (N := 8) (k := 1) (q := 158) z0 (by omega) rfl hiX7 (by decide) (by decide +kernel) rfl dX7_readClause_155 rfl ?_
          refine x_callV (q := 161) (ci := 8) (c_Told_still (p := 14) (by omega) hD2) eX7_readClause_82 gX7_readClause_X8_tellStill hv1_1_14 (by omega) rfl rfl rfl (Nat.le_of_ble_eq_true rfl) ⟨Nat.le_refl _, Nat.le_refl _⟩ dX7_readClause_158 rfl rfl (fun r158 M158 p158 => ?_)
          obtain ⟨rfl, hV158, fr158⟩ := p158
          refine x_goto (q := 174) dX7_readClause_161 (by decide) ?_
          have hv2_12_12 := ((fr158 (12) (by omega)).trans z0)
          have hv2_13_13 := ((fr158 (13) (by omega)).trans z1)
          refine x_vret dX7_readClause_174 rfl rfl (Nat.le_refl _) ⟨rfl, hres _ (rdP_at (by omega) ⟨hv2_12_12, hv2_13_13⟩ hq2 hV158), (fun j hj => (fr158 j (by omega)).trans (fr32 j (by omega)))⟩
      · refine x_tableOut (t := 164) dX7_readClause_36 (by rw [vp_in_iff] at hs36; omega) (by decide) ?_
        exact absurd (vp_in_nI hxl (by decide)) hs36
    · refine x_if_ne (t := 27) (q := 18) dX7_readClause_15 (by decide) rfl (fun c15 => absurd c15 (by decide)) (fun c15 => ?_)
      refine x_aload_n (q := 19) dX7_readClause_18 rfl rfl ?_
      refine x_aload_n (q := 20) dX7_readClause_19 rfl rfl ?_
      refine x_getf (C := RX7) (T := TX7) (N := 8) (k := 5) (q := 23) xp0 (by omega) rfl hiX7 (by decide) (by decide +kernel) rfl dX7_readClause_20 rfl ?_
      refine x_put (C := RX7) (T := TX7) (N := 8) (k := 7) (q := 26) (ty := .int) tyX7_ok nmX7 xp0 (by omega) rfl hiX7 (by decide) (by decide +kernel) rfl (by decide +kernel) (fun _ => rfl) (fun _ => rfl) (Nat.le_of_ble_eq_true rfl) dX7_readClause_23 rfl (fun M23 w23 o23 => ?_)
      refine x_vret dX7_readClause_26 rfl rfl (Nat.le_refl _) ?_
      have hv1_1_13 := ((o23 (13) (by omega)).trans xp1)
      have hv1_2_14 := ((o23 (14) (by omega)).trans dp0)
      have hv1_3_15 := ((o23 (15) (by omega)).trans dp1)
      have hv1_4_16 := ((o23 (16) (by omega)).trans dp2)
      have hv1_5_17 := ((o23 (17) (by omega)).trans dp3)
      have hv1_6_18 := ((o23 (18) (by omega)).trans dp4)
      have hv1_7_19 := ((o23 (19) (by omega)).trans dp5)
      have hv1_8_20 := ((o23 (20) (by omega)).trans dp6)
      have hv1_9_21 := ((o23 (21) (by omega)).trans dp7)
      have hv1_10_22 := ((o23 (22) (by omega)).trans dp8)
      have hv1_11_23 := ((o23 (23) (by omega)).trans dp9)
      have hv1_12_24 := ((o23 (24) (by omega)).trans dp10)
      refine ⟨rfl, ?_, (fun j hj => ((o23 j (by omega)).trans rfl))⟩
      unfold rdC
      rw [hx]
      show rdP lt N cl τ (if rm P W G x = true then _ else _) _
      rw [if_neg b12]
      exact ⟨⟨q, ⟨w23, hv1_1_13⟩⟩, by omega, τ, ⟨hv1_2_14, hv1_3_15, hv1_4_16, hv1_5_17, hv1_6_18, hv1_7_19, hv1_8_20, hv1_9_21, hv1_10_22, hv1_11_23, hv1_12_24⟩⟩

