def cP (P : Nat) (x : tAct) : Nat := if x.1 = 0 then 0 else if 1 ≤ x.1 ∧ x.1 < 5 then P + 1 else P
def cW (W : Nat) (x : tAct) : Nat := if x.1 = 0 then 0 else if x.1 = 6 then W + 1 else W
def cG (G : Nat) (x : tAct) : Nat := if x.1 = 0 then 0 else if x.1 = 7 ∨ x.1 = 8 then G + 1 else G
/-- what a clause that stands may be -/
def actOK (P W G : Nat) (x : tAct) : Prop := x.1 < 12 ∧ rm P W G x.1 = true ∧ (x.1 = 5 → x.2.1 < P ∧ x.2.2.1 < P ∧ ¬ x.2.2.1 = x.2.1) ∧ (x.1 = 6 → x.2.1 < 3 ∧ (1 ≤ x.2.2.1 ∧ x.2.2.1 < 61) ∧ (1 ≤ x.2.2.2.1 ∧ x.2.2.2.1 < 10) ∧ x.2.2.2.2 < 51) ∧ (x.1 = 7 ∨ x.1 = 8 → x.2.1 < 100 ∧ x.2.2.1 < 10) ∧ (x.1 = 9 → 1 ≤ x.2.1 ∧ x.2.1 < 100) ∧ (x.1 = 10 → x.2.1 < 4 ∧ x.2.2.1 < 4 ∧ x.2.2.2.1 < 10)
theorem nB_of {lt : Nat → Int32} {n p lo H : Nat} {f : Nat → Nat → tRes} {x : Nat × tAct} (h : nB lt n p lo H f = .inr x) : ∃ v, lo ≤ v ∧ v < H ∧ f v (tkE lt n p) = .inr x := by
  cases e : num lt n p lo H with
  | none => rw [nB_n e] at h; cases h
  | some v => rw [nB_s e] at h; exact ⟨v, (num_some e).2.2.1, (num_some e).2.2.2.1, h⟩
theorem rdB_act {lt : Nat → Int32} {n P W G c q : Nat} {x : Nat × tAct} (hc : c < 12) (hr : rm P W G c = true) (h : rdB lt n P c q = .inr x) : actOK P W G x.2 := by
  unfold rdB at h
  by_cases c5 : c = 5
  · rw [if_pos c5] at h
    obtain ⟨a, a1, a2, h⟩ := nB_of h
    obtain ⟨b, b1, b2, h⟩ := nB_of h
    by_cases e : b = a
    · rw [if_pos e] at h; cases h
    · rw [if_neg e] at h
      cases h
      exact ⟨by show 5 < 12; decide, by rw [← c5]; exact hr, fun _ => ⟨a2, b2, e⟩, fun q => absurd q (by show ¬ 5 = 6; decide), fun q => absurd q (by show ¬ (5 = 7 ∨ 5 = 8); decide), fun q => absurd q (by show ¬ 5 = 9; decide), fun q => absurd q (by show ¬ 5 = 10; decide)⟩
  · rw [if_neg c5] at h
    by_cases c6 : c = 6
    · rw [if_pos c6] at h
      obtain ⟨a, a1, a2, h⟩ := nB_of h
      obtain ⟨b, b1, b2, h⟩ := nB_of h
      obtain ⟨d, d1, d2, h⟩ := nB_of h
      obtain ⟨e, e1, e2, h⟩ := nB_of h
      cases h
      exact ⟨by show 6 < 12; decide, by rw [← c6]; exact hr, fun q => absurd q (by show ¬ 6 = 5; decide), fun _ => ⟨a2, ⟨b1, b2⟩, ⟨d1, d2⟩, e2⟩, fun q => absurd q (by show ¬ (6 = 7 ∨ 6 = 8); decide), fun q => absurd q (by show ¬ 6 = 9; decide), fun q => absurd q (by show ¬ 6 = 10; decide)⟩
    · rw [if_neg c6] at h
      by_cases c7 : c = 7 ∨ c = 8
      · rw [if_pos c7] at h
        obtain ⟨a, a1, a2, h⟩ := nB_of h
        obtain ⟨b, b1, b2, h⟩ := nB_of h
        cases h
        exact ⟨hc, hr, fun q => absurd q c5, fun q => absurd q c6, fun _ => ⟨a2, b2⟩, fun q => absurd q (by show ¬ c = 9; omega), fun q => absurd q (by show ¬ c = 10; omega)⟩
      · rw [if_neg c7] at h
        by_cases c9 : c = 9
        · rw [if_pos c9] at h
          obtain ⟨a, a1, a2, h⟩ := nB_of h
          cases h
          exact ⟨by show 9 < 12; decide, by rw [← c9]; exact hr, fun q => absurd q (by show ¬ 9 = 5; decide), fun q => absurd q (by show ¬ 9 = 6; decide), fun q => absurd q (by show ¬ (9 = 7 ∨ 9 = 8); decide), fun _ => ⟨a1, a2⟩, fun q => absurd q (by show ¬ 9 = 10; decide)⟩
        · rw [if_neg c9] at h
          by_cases c10 : c = 10
          · rw [if_pos c10] at h
            obtain ⟨a, a1, a2, h⟩ := nB_of h
            obtain ⟨b, b1, b2, h⟩ := nB_of h
            by_cases e : b = a
            · rw [if_pos e] at h; cases h
            · rw [if_neg e] at h
              obtain ⟨d, d1, d2, h⟩ := nB_of h
              cases h
              exact ⟨by show 10 < 12; decide, by rw [← c10]; exact hr, fun q => absurd q (by show ¬ 10 = 5; decide), fun q => absurd q (by show ¬ 10 = 6; decide), fun q => absurd q (by show ¬ (10 = 7 ∨ 10 = 8); decide), fun q => absurd q (by show ¬ 10 = 9; decide), fun _ => ⟨a2, b2, d2⟩⟩
          · rw [if_neg c10] at h
            cases h
            exact ⟨hc, hr, fun q => absurd q c5, fun q => absurd q c6, fun q => absurd q c7, fun q => absurd q c9, fun q => absurd q c10⟩
theorem rdC_act {lt : Nat → Int32} {n P W G p : Nat} {x : Nat × tAct} (h : rdC lt n P W G p = .inr x) : actOK P W G x.2 := by
  unfold rdC at h
  cases e : wdT lt n p with
  | none => rw [e] at h; cases h
  | some c =>
    rw [e] at h
    replace h : (if rm P W G c = true then rdB lt n P c (tkE lt n p) else .inl (tsp lt n p)) = (.inr x : tRes) := h
    by_cases hr : rm P W G c = true
    · rw [if_pos hr] at h
      exact rdB_act (wdT_lt e) hr h
    · rw [if_neg hr] at h; cases h
theorem act_cnt {P W G : Nat} {x : tAct} (hP : P ≤ 5) (hW : W ≤ 6) (hG : G ≤ 5) (h : actOK P W G x) : cP P x ≤ 5 ∧ cW W x ≤ 6 ∧ cG G x ≤ 5 := by
  have hr := h.2.1
  refine ⟨?_, ?_, ?_⟩
  · unfold cP
    split
    · omega
    · split
      · rename_i h1 h2
        have := rm_P hr h2.1 h2.2; omega
      · exact hP
  · unfold cW
    split
    · omega
    · split
      · rename_i h1 h2
        rw [h2] at hr
        have := rm_W hr; omega
      · exact hW
  · unfold cG
    split
    · omega
    · split
      · rename_i h1 h2
        have := rm_G hr h2; omega
      · exact hG
theorem act_tau {τ : Nat → Nat → Int32} {P W G : Nat} {x : tAct} (hP0 : τ 0 0 = nI P) (hW0 : τ 3 0 = nI W) (hG0 : τ 8 0 = nI G) (h : x.1 < 12) : doA τ x 0 0 = nI (cP P x) ∧ doA τ x 3 0 = nI (cW W x) ∧ doA τ x 8 0 = nI (cG G x) := by
  obtain ⟨c, a, b, d, e⟩ := x
  replace h : c < 12 := h
  have e1 : τ 0 0 + 1 = nI (P + 1) := by rw [hP0]; exact nI_1 P
  have e2 : τ 3 0 + 1 = nI (W + 1) := by rw [hW0]; exact nI_1 W
  have e3 : τ 8 0 + 1 = nI (G + 1) := by rw [hG0]; exact nI_1 G
  rcases (show c = 0 ∨ c = 1 ∨ c = 2 ∨ c = 3 ∨ c = 4 ∨ c = 5 ∨ c = 6 ∨ c = 7 ∨ c = 8 ∨ c = 9 ∨ c = 10 ∨ c = 11 by omega) with q | q | q | q | q | q | q | q | q | q | q | q <;> subst q <;> exact ⟨by first | exact hP0 | exact e1 | rfl, by first | exact hW0 | exact e2 | rfl, by first | exact hG0 | exact e3 | rfl⟩
/-- the whole text: where its fault is, or how many clauses it has, and what they do -/
def fnd (lt : Nat → Int32) (N : Nat) : Nat → Nat → Nat → Nat → Nat → Nat → Nat ⊕ (Nat × List tAct)
  | 0, _, _, _, _, _ => .inl 0
  | k + 1, num, P, W, G, q => (rdC lt N P W G q).elim .inl (fun x => if tkK lt N x.1 = 3 then .inr (num, [x.2]) else if ¬ lt (tsp lt N x.1) = 59 ∨ num = 14 then .inl (tsp lt N x.1) else (fnd lt N k (num + 1) (cP P x.2) (cW W x.2) (cG G x.2) (tkE lt N x.1)).elim .inl (fun y => .inr (y.1, x.2 :: y.2)))
def ffP (lt : Nat → Int32) (N : Nat) (τ : Nat → Nat → Int32) (res : Nat ⊕ (Nat × List tAct)) (r : Option Value) (M' : Nat → xE) : Prop := res.elim (fun s => s ≤ N ∧ some (.int (nI s)) = r ∧ (∃ cl q f, oTx lt N cl q f M') ∧ ∃ τ', oX8 14 τ' M') (fun y => some (.int (-1)) = r ∧ (∃ q, oTx lt N (nI y.1) q (-1) M') ∧ oX8 14 (y.2.foldl doA τ) M')
theorem tk_in {lt : Nat → Int32} {N q : Nat} (h : ¬ tkK lt N q = 3) : tsp lt N q < N := by
  unfold tkK at h
  split at h
  · assumption
  · exact absurd rfl h
set_option maxHeartbeats 4000000 in
set_option maxRecDepth 100000 in
theorem l_find {n N : Nat} {lt : Nat → Int32} {Q : Option Value → (Nat → xE) → Prop} {M0 : Nat → xE} (hn : 24 < n) (hN : N ≤ 160) : ∀ (k i : Nat) (M : Nat → xE) (τ : Nat → Nat → Int32) (cl : Int32) (P : Nat) (W : Nat) (G : Nat) (q : Nat), i + k = 15 → (i ≤ 14) → (q ≤ N) → (oTx lt N cl q (-1) M) → (oX8 14 τ M) → (P ≤ 5) → (W ≤ 6) → (G ≤ 5) → (τ 0 0 = nI P) → (τ 3 0 = nI W) → (τ 8 0 = nI G) → (xfr 12 25 M0 M) → (∀ M' r, ffP lt N τ (fnd lt N k i P W G q) r M' → xfr 12 25 M0 M' → Q r M') → X mX7_findFault 0 0 25 [(2, .int (nI i)), (0, .ref 12), (1, .ref 1)] [] n M (Q) := by
  have hiX7 : ∀ w ∈ wsX70, w ∈ wsX7_findFault := by decide +kernel
  intro k
  induction k with
  | zero =>
    intro i M τ cl P W G q hik hi hq hX hD hP hW hG hP0 hW0 hG0 hf hQ
    omega
  | succ k ih =>
    intro i M τ cl P W G q hik hi hq hX hD hP hW hG hP0 hW0 hG0 hf hQ
    have hX0 := hX
    obtain ⟨xp0, xp1⟩ := hX
    have hb := tkE_b lt hq
    have hb0 := tsp_b lt hq
    have hD0 := hD
    obtain ⟨dp0, dp1, dp2, dp3, dp4, dp5, dp6, dp7, dp8, dp9, dp10⟩ := hD
    refine x_iload_n (q := 26) dX7_findFault_25 rfl rfl ?_
    refine x_bipush (v := 14) (q := 28) dX7_findFault_26 rfl (by decide) ?_
    refine x_icmp_gt (t := 102) (q := 31) dX7_findFault_28 (by decide) rfl (fun c28 => absurd c28 (by rw [fa_lt, nI_toInt (by omega)]; show ¬ (14 : Int) < i; omega)) (fun c28 => ?_)
    refine x_aload_n (q := 32) dX7_findFault_31 rfl rfl ?_
    refine x_callV (q := 35) (ci := 7) (c_readClause hn hN hq hX0 hD0 hP hW hG hP0 hW0 hG0) eX7_findFault_40 gX7_findFault_X7_readClause xp0 (by omega) rfl rfl rfl (Nat.le_of_ble_eq_true rfl) ⟨Nat.le_refl _, Nat.le_refl _⟩ dX7_findFault_32 rfl rfl (fun r32 M32 p32 => ?_)
    obtain ⟨rfl, hR32, fr32⟩ := p32; rcases hres : rdC lt N P W G q with s | x
    · rw [hres] at hR32
      obtain ⟨⟨q2, z0, z1⟩, hsN, τ2, hD2⟩ := hR32
      refine x_aload_n (q := 36) dX7_findFault_35 rfl rfl ?_
      refine x_getf (C := RX7) (T := TX7) (N := 8) (k := 7) (q := 39) z0 (by omega) rfl hiX7 (by decide) (by decide +kernel) rfl dX7_findFault_36 rfl ?_
      refine x_iconst (v := -1) (q := 40) dX7_findFault_39 rfl (by decide) ?_
      refine x_icmp_eq (t := 48) (q := 43) dX7_findFault_40 (by decide) rfl (fun c40 => absurd c40 (m1ne (by omega))) (fun c40 => ?_)
      refine x_aload_n (q := 44) dX7_findFault_43 rfl rfl ?_
      refine x_getf (C := RX7) (T := TX7) (N := 8) (k := 7) (q := 47) z0 (by omega) rfl hiX7 (by decide) (by decide +kernel) rfl dX7_findFault_44 rfl ?_
      refine x_iret dX7_findFault_47 rfl rfl (Nat.le_refl _) ?_
      exact hQ _ _ (by rw [fnd, hres]; exact ⟨hsN, rfl, ⟨_, _, _, z0, z1⟩, τ2, hD2⟩) (fun j hj => (fr32 j hj).trans (hf j hj))
    · rw [hres] at hR32
      obtain ⟨⟨z0, z1⟩, hxN, hD2⟩ := hR32
      have hxN : x.1 ≤ N := hxN
      have hxb := tsp_b lt hxN
      have hxe := tkE_b lt hxN
      have hxk := tkK_lt lt N x.1
      have hact := rdC_act hres
      have hcnt := act_cnt hP hW hG hact
      have htau := act_tau hP0 hW0 hG0 hact.1
      refine x_aload_n (q := 36) dX7_findFault_35 rfl rfl ?_
      refine x_getf (C := RX7) (T := TX7) (N := 8) (k := 7) (q := 39) z0 (by omega) rfl hiX7 (by decide) (by decide +kernel) rfl dX7_findFault_36 rfl ?_
      refine x_iconst (v := -1) (q := 40) dX7_findFault_39 rfl (by decide) ?_
      refine x_icmp_eq (t := 48) (q := 43) dX7_findFault_40 (by decide) rfl (fun c40 => ?_) (fun c40 => absurd rfl c40)
      refine x_aload_n (q := 49) dX7_findFault_48 rfl rfl ?_
      refine x_iload_n (q := 50) dX7_findFault_49 rfl rfl ?_
      refine x_put (C := RX7) (T := TX7) (N := 8) (k := 3) (q := 53) (ty := .int) tyX7_ok nmX7 z0 (by omega) rfl hiX7 (by decide) (by decide +kernel) rfl (by decide +kernel) (fun _ => rfl) (fun _ => rfl) (Nat.le_of_ble_eq_true rfl) dX7_findFault_50 rfl (fun M50 w50 o50 => ?_)
      refine x_aload_n (q := 54) dX7_findFault_53 rfl rfl ?_
      refine x_getf (C := RX7) (T := TX7) (N := 8) (k := 4) (q := 57) w50 (by omega) rfl hiX7 (by decide) (by decide +kernel) rfl dX7_findFault_54 rfl ?_
      refine x_iconst (v := 3) (q := 58) dX7_findFault_57 rfl (by decide) ?_
      refine x_icmp_ne (t := 63) (q := 61) dX7_findFault_58 (by decide) rfl (fun c58 => ?_) (fun c58 => ?_)
      · have hk3 : ¬ tkK lt N x.1 = 3 := fun h => c58 (by rw [h]; rfl)
        have htl := tk_in hk3
        refine x_aload_n (q := 64) dX7_findFault_63 rfl rfl ?_
        refine x_getf (C := RX7) (T := TX7) (N := 8) (k := 0) (q := 67) w50 (by omega) rfl hiX7 (by decide) (by decide +kernel) rfl dX7_findFault_64 rfl ?_
        refine x_aload_n (q := 68) dX7_findFault_67 rfl rfl ?_
        refine x_getf (C := RX7) (T := TX7) (N := 8) (k := 5) (q := 71) w50 (by omega) rfl hiX7 (by decide) (by decide +kernel) rfl dX7_findFault_68 rfl ?_
        have hv2_1_13 := ((o50 (13) (by omega)).trans z1)
        refine x_iald (q := 72) hv2_1_13 (by omega) (vp_in_nI (show tsp lt N x.1 < 160 by omega) (by decide)) dX7_findFault_71 rfl ?_
        rw [nI_clamp (show tsp lt N x.1 < 2 ^ 31 by omega)]
        refine x_bipush (v := 59) (q := 74) dX7_findFault_72 rfl (by decide) ?_
        refine x_icmp_ne (t := 83) (q := 77) dX7_findFault_74 (by decide) rfl (fun c74 => ?_) (fun c74 => ?_)
        · refine x_aload_n (q := 84) dX7_findFault_83 rfl rfl ?_
          refine x_getf (C := RX7) (T := TX7) (N := 8) (k := 5) (q := 87) w50 (by omega) rfl hiX7 (by decide) (by decide +kernel) rfl dX7_findFault_84 rfl ?_
          refine x_iret dX7_findFault_87 rfl rfl (Nat.le_refl _) ?_
          exact hQ _ _ (by rw [fnd, hres]; show ffP lt N τ (if tkK lt N x.1 = 3 then _ else _) _ _; rw [if_neg hk3, if_pos (Or.inl c74)]; exact ⟨by omega, rfl, ⟨_, _, _, ⟨w50, hv2_1_13⟩⟩, _, (hD2.keep (fun j h1 h2 => o50 j (by omega)))⟩) (fun j hj => (o50 j (by omega)).trans ((fr32 j hj).trans (hf j hj)))
        · refine x_iload_n (q := 78) dX7_findFault_77 rfl rfl ?_
          refine x_bipush (v := 14) (q := 80) dX7_findFault_78 rfl (by decide) ?_
          refine x_icmp_ne (t := 88) (q := 83) dX7_findFault_80 (by decide) rfl (fun c80 => ?_) (fun c80 => ?_)
          · refine x_aload_n (q := 89) dX7_findFault_88 rfl rfl ?_
            refine x_aload_n (q := 90) dX7_findFault_89 rfl rfl ?_
            refine x_getf (C := RX7) (T := TX7) (N := 8) (k := 6) (q := 93) w50 (by omega) rfl hiX7 (by decide) (by decide +kernel) rfl dX7_findFault_90 rfl ?_
            refine x_callV (q := 96) (ci := 7) (c_rt hn hN (lt := lt) (cl := nI i) (q := x.1) (f := -1) ⟨w50, hv2_1_13⟩ hxe.2) eX7_findFault_36 gX7_findFault_X7_readToken w50 (by omega) rfl rfl rfl (Nat.le_of_ble_eq_true rfl) ⟨Nat.le_refl _, Nat.le_refl _⟩ dX7_findFault_93 rfl rfl (fun r93 M93 p93 => ?_)
            obtain ⟨rfl, hT93, fr93⟩ := p93
            refine x_iinc (L' := fun x2_96 => [(2, .int x2_96), (0, .ref 12), (1, .ref 1)]) (q := 99) dX7_findFault_96 rfl rfl (by decide) (fun _ => rfl) (fun x2_96 ex2_96 => ?_)
            obtain rfl : x2_96 = nI (i + 1) := ex2_96.trans (nI_1 i)
            refine x_goto (q := 25) dX7_findFault_99 (by decide) ?_
            refine x_pick (L' := [(2, .int (nI (i + 1))), (0, .ref 12), (1, .ref 1)]) [0, 1, 2] rfl ?_
            have hi14 : ¬ i = 14 := fun h => c80 (by rw [h]; rfl)
            have h59 : ¬ (¬ lt (tsp lt N x.1) = 59 ∨ i = 14) := fun h => h.elim (fun z => z c74) hi14
            exact ih (i + 1) M93 (doA τ x.2) (nI i) (cP P x.2) (cW W x.2) (cG G x.2) (tkE lt N x.1) (by omega) (by omega) hxe.2 hT93 (hD2.keep (fun j h1 h2 => (fr93 j (by omega)).trans (o50 j (by omega)))) hcnt.1 hcnt.2.1 hcnt.2.2 htau.1 htau.2.1 htau.2.2 (fun j hj => (fr93 j (by omega)).trans ((o50 j (by omega)).trans ((fr32 j hj).trans (hf j hj)))) (fun M' r h1 h2 => hQ M' r (by
              rw [fnd, hres]
              show ffP lt N τ (if tkK lt N x.1 = 3 then _ else _) _ _
              rw [if_neg hk3, if_neg h59]
              cases e9 : fnd lt N k (i + 1) (cP P x.2) (cW W x.2) (cG G x.2) (tkE lt N x.1) with
              | inl s => rw [e9] at h1; exact h1
              | inr y => rw [e9] at h1; exact h1) h2)
          · refine x_aload_n (q := 84) dX7_findFault_83 rfl rfl ?_
            refine x_getf (C := RX7) (T := TX7) (N := 8) (k := 5) (q := 87) w50 (by omega) rfl hiX7 (by decide) (by decide +kernel) rfl dX7_findFault_84 rfl ?_
            refine x_iret dX7_findFault_87 rfl rfl (Nat.le_refl _) ?_
            exact hQ _ _ (by rw [fnd, hres]; show ffP lt N τ (if tkK lt N x.1 = 3 then _ else _) _ _; rw [if_neg hk3, if_pos (Or.inr ((nIne (b := 14) (by omega) (by decide)).mp c80))]; exact ⟨by omega, rfl, ⟨_, _, _, ⟨w50, hv2_1_13⟩⟩, _, (hD2.keep (fun j h1 h2 => o50 j (by omega)))⟩) (fun j hj => (o50 j (by omega)).trans ((fr32 j hj).trans (hf j hj)))
      · refine x_iconst (v := -1) (q := 62) dX7_findFault_61 rfl (by decide) ?_
        refine x_iret dX7_findFault_62 rfl rfl (Nat.le_refl _) ?_
        have hv2_1_13 := ((o50 (13) (by omega)).trans z1)
        exact hQ _ _ (by rw [fnd, hres]; show ffP lt N τ (if tkK lt N x.1 = 3 then _ else _) _ _; rw [if_pos ((nIne (b := 3) (by omega) (by decide)).mp c58)]; exact ⟨rfl, ⟨_, ⟨w50, hv2_1_13⟩⟩, (hD2.keep (fun j h1 h2 => o50 j (by omega)))⟩) (fun j hj => (o50 j (by omega)).trans ((fr32 j hj).trans (hf j hj)))

set_option maxHeartbeats 4000000 in
set_option maxRecDepth 100000 in
theorem c_find {n N : Nat} {M : Nat → xE} {tx τ τd : Nat → Nat → Int32} (hn : 24 < n) (hN : N ≤ 160) (h2 : tx 2 0 = nI N) (hX : oX7 12 tx M) (hD : oX8 14 τd M) (hT : oX8 1 τ M) {P W G : Nat} (hP : P ≤ 5) (hW : W ≤ 6) (hG : G ≤ 5) (hP0 : τ 0 0 = nI P) (hW0 : τ 3 0 = nI W) (hG0 : τ 8 0 = nI G) : xMet mX7_findFault [.ref 12, .ref 1] n M (fun r M' => ffP (tx 0) N τ (fnd (tx 0) N 14 1 P W G 0) r M' ∧ xfr 12 25 M M') := by
  have hX0 := hX
  obtain ⟨xp0, xp1⟩ := hX
  have hD1 := hD
  obtain ⟨dp0, -⟩ := hD
  have hiX7 : ∀ w ∈ wsX70, w ∈ wsX7_findFault := by decide +kernel
  refine xMet.of _ (by decide) rfl (Nat.le_of_ble_eq_true rfl) ?_
  refine x_aload_n (q := 1) dX7_findFault_0 rfl rfl ?_
  refine x_getf (C := RX7) (T := TX7) (N := 8) (k := 1) (q := 4) xp0 (by omega) rfl hiX7 (by decide) (by decide +kernel) rfl dX7_findFault_1 rfl ?_
  refine x_aload_n (q := 5) dX7_findFault_4 rfl rfl ?_
  refine x_callV (q := 8) (ci := 8) (c_Told_copy (p := 14) (q := 1) (by omega) (by omega) (by omega) hD1 hT) eX7_findFault_26 gX7_findFault_X8_copyFrom dp0 (by omega) rfl rfl rfl (Nat.le_of_ble_eq_true rfl) ⟨Nat.le_refl _, Nat.le_refl _⟩ dX7_findFault_5 rfl rfl (fun r5 M5 p5 => ?_)
  obtain ⟨rfl, hV5, fr5⟩ := p5
  refine x_aload_n (q := 9) dX7_findFault_8 rfl rfl ?_
  refine x_iconst (v := 0) (q := 10) dX7_findFault_9 rfl (by decide) ?_
  have hv1_1_12 := ((fr5 (12) (by omega)).trans xp0)
  refine x_put (C := RX7) (T := TX7) (N := 8) (k := 3) (q := 13) (ty := .int) tyX7_ok nmX7 hv1_1_12 (by omega) rfl hiX7 (by decide) (by decide +kernel) rfl (by decide +kernel) (fun _ => rfl) (fun _ => rfl) (Nat.le_of_ble_eq_true rfl) dX7_findFault_10 rfl (fun M10 w10 o10 => ?_)
  refine x_aload_n (q := 14) dX7_findFault_13 rfl rfl ?_
  refine x_iconst (v := -1) (q := 15) dX7_findFault_14 rfl (by decide) ?_
  refine x_put (C := RX7) (T := TX7) (N := 8) (k := 7) (q := 18) (ty := .int) tyX7_ok nmX7 w10 (by omega) rfl hiX7 (by decide) (by decide +kernel) rfl (by decide +kernel) (fun _ => rfl) (fun _ => rfl) (Nat.le_of_ble_eq_true rfl) dX7_findFault_15 rfl (fun M15 w15 o15 => ?_)
  refine x_aload_n (q := 19) dX7_findFault_18 rfl rfl ?_
  refine x_iconst (v := 0) (q := 20) dX7_findFault_19 rfl (by decide) ?_
  have hv3_2_13 := ((o15 (13) (by omega)).trans ((o10 (13) (by omega)).trans ((fr5 (13) (by omega)).trans xp1)))
  refine x_callV (q := 23) (ci := 7) (c_rt0 (tx := fun z => if z = 3 then (fun _ => 0) else if z = 7 then (fun _ => -1) else tx z) hn hN h2 ⟨w15, hv3_2_13⟩ (p := 0) (Nat.zero_le _)) eX7_findFault_36 gX7_findFault_X7_readToken w15 (by omega) rfl rfl rfl (Nat.le_of_ble_eq_true rfl) ⟨Nat.le_refl _, Nat.le_refl _⟩ dX7_findFault_20 rfl rfl (fun r20 M20 p20 => ?_)
  obtain ⟨rfl, ⟨zz20_0, zz20_1⟩, fr20⟩ := p20
  refine x_iconst (v := 1) (q := 24) dX7_findFault_23 rfl (by decide) ?_
  refine x_istore_n (L' := fun x2_24 => [(2, .int x2_24), (0, .ref 12), (1, .ref 1)]) (q := 25) dX7_findFault_24 rfl (by decide) (fun _ => rfl) (fun x2_24 ex2_24 => ?_)
  subst ex2_24
  exact l_find (M0 := M) hn hN 14 1 M20 τ 0 P W G 0 rfl (by decide) (Nat.zero_le _) ⟨zz20_0, zz20_1⟩ (hV5.keep (fun j h1 h2 => (fr20 j (by omega)).trans ((o15 j (by omega)).trans (o10 j (by omega))))) hP hW hG hP0 hW0 hG0 (fun j hj => (fr20 j (by omega)).trans ((o15 j (by omega)).trans ((o10 j (by omega)).trans (fr5 j (by omega))))) (fun M' r h1 h3 => ⟨h1, h3⟩)

