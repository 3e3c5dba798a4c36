/-! THE TEXT, as the class reads it -/
def oTx (lt : Nat → Int32) (N : Nat) (cl : Int32) (q : Nat) (f : Int32) (M : Nat → xE) : Prop := M 12 = .inr (7, [.ref 13, .ref 14, .int (nI N), .int cl, .int (nI (tkK lt N q)), .int (nI (tsp lt N q)), .int (nI (tkE lt N q)), .int f]) ∧ M 13 = .inl (0, 160, .inl lt)
theorem c_rt0 {n N : Nat} {M : Nat → xE} {tx : Nat → Nat → Int32} (hn : 24 < n) (hN : N ≤ 160) (h2 : tx 2 0 = nI N) (hX : oX7 12 tx M) {p : Nat} (hp : p ≤ N) : xMet mX7_readToken [.ref 12, .int (nI p)] n M (fun r M' => none = r ∧ oTx (tx 0) N (tx 3 0) p (tx 7 0) M' ∧ xfr 12 14 M M') := by
  refine xMet.post (fun r M' h => ⟨h.1, ⟨?_, h.2.1.2⟩, h.2.2⟩) (c_readToken hn hN h2 hX hp)
  have h9 := h.2.1.1
  rw [← h2]
  exact h9
theorem c_rt {n N : Nat} {M : Nat → xE} {lt : Nat → Int32} {cl f : Int32} {q : Nat} (hn : 24 < n) (hN : N ≤ 160) (hX : oTx lt N cl q f M) {p : Nat} (hp : p ≤ N) : xMet mX7_readToken [.ref 12, .int (nI p)] n M (fun r M' => none = r ∧ oTx lt N cl p f M' ∧ xfr 12 14 M M') :=
  c_rt0 (tx := fun z => if z = 0 then lt else if z = 2 then (fun _ => nI N) else if z = 3 then (fun _ => cl) else if z = 4 then (fun _ => nI (tkK lt N q)) else if z = 5 then (fun _ => nI (tsp lt N q)) else if z = 6 then (fun _ => nI (tkE lt N q)) else (fun _ => f)) hn hN rfl ⟨hX.1, hX.2⟩ hp
theorem m1ne {k : Nat} (h : k < 2 ^ 31) : ¬ nI k = -1 := nI_m1 h
set_option maxHeartbeats 4000000 in
set_option maxRecDepth 100000 in
theorem l_spell {n N : Nat} {lt : Nat → Int32} {cl f : Int32} {q c : Nat} {Q : Option Value → (Nat → xE) → Prop} (hn : 24 < n) (hN : N ≤ 160) (hq : q ≤ N) (hc : c < 12) (he : wL c = tkE lt N q - tsp lt N q) : ∀ (k i : Nat) (M : Nat → xE), i + k = wL c → (oTx lt N cl q f M) → (∀ r, xB (spR lt (tsp lt N q) c k i = true) r → Q r M) → X mX7_tokenSpells 0 0 20 [(2, .int (nI i)), (0, .ref 12), (1, .retAddr (c + 1))] [] n M (Q) := by
  have hiX7 : ∀ w ∈ wsX70, w ∈ wsX7_tokenSpells := by decide +kernel
  intro k
  induction k with
  | zero =>
    intro i M hik hX hQ
    have hX0 := hX
    obtain ⟨xp0, xp1⟩ := hX
    have hb := tkE_b lt hq
    have hb0 := tsp_b lt hq
    have hwl : wL c < 7 := wL_lt c hc
    refine x_iload_n (q := 21) dX7_tokenSpells_20 rfl rfl ?_
    refine x_aload_e (q := 22) dX7_tokenSpells_21 rfl rfl ?_
    refine x_callVE (q := 25) (i := c) (c_slen hc) eX7_tokenSpells_120 gX7_tokenSpells_J0_length_8abf5 (by omega) rfl rfl (Nat.le_of_ble_eq_true rfl) ⟨Nat.le_refl _, Nat.le_refl _⟩ dX7_tokenSpells_22 rfl rfl (fun r22 M22 p22 => ?_)
    obtain ⟨rfl, rfl⟩ := p22
    refine x_icmp_ge (t := 55) (q := 28) dX7_tokenSpells_25 (by decide) rfl (fun c25 => ?_) (fun c25 => absurd (nI_le (show wL c ≤ i by omega) (by omega)) c25)
    refine x_iconst (v := 1) (q := 56) dX7_tokenSpells_55 rfl (by decide) ?_
    refine x_zret dX7_tokenSpells_56 rfl rfl rfl (Nat.le_refl _) ?_
    exact hQ _ (Or.inl ⟨rfl, rfl⟩)
  | succ k ih =>
    intro i M hik hX hQ
    have hX0 := hX
    obtain ⟨xp0, xp1⟩ := hX
    have hb := tkE_b lt hq
    have hb0 := tsp_b lt hq
    have hwl : wL c < 7 := wL_lt c hc
    have hil : i < wL c := by omega
    refine x_iload_n (q := 21) dX7_tokenSpells_20 rfl rfl ?_
    refine x_aload_e (q := 22) dX7_tokenSpells_21 rfl rfl ?_
    refine x_callVE (q := 25) (i := c) (c_slen hc) eX7_tokenSpells_120 gX7_tokenSpells_J0_length_8abf5 (by omega) rfl rfl (Nat.le_of_ble_eq_true rfl) ⟨Nat.le_refl _, Nat.le_refl _⟩ dX7_tokenSpells_22 rfl rfl (fun r22 M22 p22 => ?_)
    obtain ⟨rfl, rfl⟩ := p22
    refine x_icmp_ge (t := 55) (q := 28) dX7_tokenSpells_25 (by decide) rfl (fun c25 => absurd c25 (nI_ge (a := i) (b := wL c) hil (by omega))) (fun c25 => ?_)
    refine x_aload_e (q := 29) dX7_tokenSpells_28 rfl rfl ?_
    refine x_iload_n (q := 30) dX7_tokenSpells_29 rfl rfl ?_
    refine x_callVE (q := 33) (i := c) (c_chAt hc (show i < xLen.getD c 0 from hil)) eX7_tokenSpells_124 gX7_tokenSpells_J0_charAt_5068e (by omega) rfl rfl (Nat.le_of_ble_eq_true rfl) ⟨Nat.le_refl _, Nat.le_refl _⟩ dX7_tokenSpells_30 rfl rfl (fun r30 M30 p30 => ?_)
    obtain ⟨rfl, rfl⟩ := p30
    refine x_aload_n (q := 34) dX7_tokenSpells_33 rfl rfl ?_
    refine x_getf (C := RX7) (T := TX7) (N := 8) (k := 0) (q := 37) xp0 (by omega) rfl hiX7 (by decide) (by decide +kernel) rfl dX7_tokenSpells_34 rfl ?_
    refine x_aload_n (q := 38) dX7_tokenSpells_37 rfl rfl ?_
    refine x_getf (C := RX7) (T := TX7) (N := 8) (k := 5) (q := 41) xp0 (by omega) rfl hiX7 (by decide) (by decide +kernel) rfl dX7_tokenSpells_38 rfl ?_
    refine x_iload_n (q := 42) dX7_tokenSpells_41 rfl rfl ?_
    refine x_iadd (q := 43) dX7_tokenSpells_42 rfl ?_
    refine x_iald (q := 44) xp1 (by omega) (ixI (show ((nI (tsp lt N q) + nI i) : Int32) = nI ((tsp lt N q) + i) from (nIs rfl rfl)) (by omega) (by decide)) dX7_tokenSpells_43 rfl ?_
    rw [ixC (show ((nI (tsp lt N q) + nI i) : Int32) = nI ((tsp lt N q) + i) from (nIs rfl rfl)) (by omega)]
    refine x_icmp_eq (t := 49) (q := 47) dX7_tokenSpells_44 (by decide) rfl (fun c44 => ?_) (fun c44 => ?_)
    · refine x_iinc (L' := fun x2_49 => [(2, .int x2_49), (0, .ref 12), (1, .retAddr (c + 1))]) (q := 52) dX7_tokenSpells_49 rfl rfl (by decide) (fun _ => rfl) (fun x2_49 ex2_49 => ?_)
      obtain rfl : x2_49 = nI (i + 1) := ex2_49.trans (nI_1 i)
      refine x_goto (q := 20) dX7_tokenSpells_52 (by decide) ?_
      refine x_pick (L' := [(2, .int (nI (i + 1))), (0, .ref 12), (1, .retAddr (c + 1))]) [0, 1, 2] rfl ?_
      exact ih (i + 1) M (by omega) hX0 (fun r hr => hQ r (by rw [spR, if_pos c44]; exact hr))
    · refine x_iconst (v := 0) (q := 48) dX7_tokenSpells_47 rfl (by decide) ?_
      refine x_zret dX7_tokenSpells_48 rfl rfl rfl (Nat.le_refl _) ?_
      exact hQ _ (Or.inr ⟨by rw [spR, if_neg c44]; decide, rfl⟩)

set_option maxHeartbeats 4000000 in
set_option maxRecDepth 100000 in
theorem c_spell {n N : Nat} {M : Nat → xE} {lt : Nat → Int32} {cl f : Int32} {q : Nat} (hn : 24 < n) (hN : N ≤ 160) (hq : q ≤ N) (hX : oTx lt N cl q f M) {c : Nat} (hc : c < 12) : xMet mX7_tokenSpells [.ref 12, .retAddr (c + 1)] n M (fun r M' => M = M' ∧ xB (spC lt (tsp lt N q) (tkE lt N q) c = true) r) := by
  have hX0 := hX
  obtain ⟨xp0, xp1⟩ := hX
  have hb := tkE_b lt hq
  have hb0 := tsp_b lt hq
  have hwl : wL c < 7 := wL_lt c hc
  have hiX7 : ∀ w ∈ wsX70, w ∈ wsX7_tokenSpells := by decide +kernel
  refine xMet.of _ (by decide) rfl (Nat.le_of_ble_eq_true rfl) ?_
  refine x_aload_e (q := 1) dX7_tokenSpells_0 rfl rfl ?_
  refine x_callVE (q := 4) (i := c) (c_slen hc) eX7_tokenSpells_120 gX7_tokenSpells_J0_length_8abf5 (by omega) rfl rfl (Nat.le_of_ble_eq_true rfl) ⟨Nat.le_refl _, Nat.le_refl _⟩ dX7_tokenSpells_1 rfl rfl (fun r1 M1 p1 => ?_)
  obtain ⟨rfl, rfl⟩ := p1
  refine x_aload_n (q := 5) dX7_tokenSpells_4 rfl rfl ?_
  refine x_getf (C := RX7) (T := TX7) (N := 8) (k := 6) (q := 8) xp0 (by omega) rfl hiX7 (by decide) (by decide +kernel) rfl dX7_tokenSpells_5 rfl ?_
  refine x_aload_n (q := 9) dX7_tokenSpells_8 rfl rfl ?_
  refine x_getf (C := RX7) (T := TX7) (N := 8) (k := 5) (q := 12) xp0 (by omega) rfl hiX7 (by decide) (by decide +kernel) rfl dX7_tokenSpells_9 rfl ?_
  refine x_isub (q := 13) dX7_tokenSpells_12 rfl ?_
  rw [pk_sub hb.1]
  refine x_icmp_eq (t := 18) (q := 16) dX7_tokenSpells_13 (by decide) rfl (fun c13 => ?_) (fun c13 => ?_)
  · refine x_iconst (v := 0) (q := 19) dX7_tokenSpells_18 rfl (by decide) ?_
    refine x_istore_n (L' := fun x2_19 => [(2, .int x2_19), (0, .ref 12), (1, .retAddr (c + 1))]) (q := 20) dX7_tokenSpells_19 rfl (by decide) (fun _ => rfl) (fun x2_19 ex2_19 => ?_)
    have he : wL c = tkE lt N q - tsp lt N q := (nIne (by omega) (by omega)).mp c13
    subst ex2_19
    exact l_spell hn hN hq hc he (wL c) 0 M (by omega) hX0 (fun r hr => ⟨rfl, by unfold spC; rw [decide_eq_true he, Bool.true_and]; exact hr⟩)
  · refine x_iconst (v := 0) (q := 17) dX7_tokenSpells_16 rfl (by decide) ?_
    refine x_zret dX7_tokenSpells_17 rfl rfl rfl (Nat.le_refl _) ?_
    refine ⟨rfl, Or.inr ⟨?_, rfl⟩⟩
    unfold spC
    rw [decide_eq_false (fun h => c13 (by rw [h])), Bool.false_and]
    decide

set_option maxHeartbeats 4000000 in
set_option maxRecDepth 100000 in
theorem l_clause {n N : Nat} {lt : Nat → Int32} {cl f : Int32} {q : Nat} {Q : Option Value → (Nat → xE) → Prop} (hn : 24 < n) (hN : N ≤ 160) (hq : q ≤ N) : ∀ (k i : Nat) (M : Nat → xE), i + k = 12 → (oTx lt N cl q f M) → (Q (some (.int (oI (wdF lt (tsp lt N q) (tkE lt N q) k i)))) M) → X mX7_clauseOfToken 0 0 11 [(1, .int (nI i)), (0, .ref 12)] [] n M (Q) := by
  intro k
  induction k with
  | zero =>
    intro i M hik hX hQ
    refine x_iload_n (q := 12) dX7_clauseOfToken_11 rfl rfl ?_
    refine x_bipush (v := 12) (q := 14) dX7_clauseOfToken_12 rfl (by decide) ?_
    refine x_icmp_ge (t := 36) (q := 17) dX7_clauseOfToken_14 (by decide) rfl (fun c14 => ?_) (fun c14 => absurd (nI_le (show 12 ≤ i by omega) (by omega)) c14)
    refine x_iconst (v := -1) (q := 37) dX7_clauseOfToken_36 rfl (by decide) ?_
    refine x_iret dX7_clauseOfToken_37 rfl rfl (Nat.le_refl _) ?_
    exact hQ
  | succ k ih =>
    intro i M hik hX hQ
    have hX0 := hX
    obtain ⟨xp0, xp1⟩ := hX
    have hb := tkE_b lt hq
    have hb0 := tsp_b lt hq
    refine x_iload_n (q := 12) dX7_clauseOfToken_11 rfl rfl ?_
    refine x_bipush (v := 12) (q := 14) dX7_clauseOfToken_12 rfl (by decide) ?_
    refine x_icmp_ge (t := 36) (q := 17) dX7_clauseOfToken_14 (by decide) rfl (fun c14 => absurd c14 (nI_ge (a := i) (b := 12) (by omega) (by decide))) (fun c14 => ?_)
    refine x_aload_n (q := 18) dX7_clauseOfToken_17 rfl rfl ?_
    refine x_iload_n (q := 19) dX7_clauseOfToken_18 rfl rfl ?_
    refine x_callS (q := 22) (c_wordOf (c := i) (by omega)) eX7_clauseOfToken_88 gX7_clauseOfToken_X7_wordOf rfl (Nat.le_of_ble_eq_true rfl) ⟨Nat.le_refl _, Nat.le_refl _⟩ dX7_clauseOfToken_19 rfl rfl (fun r19 M19 p19 => ?_)
    obtain ⟨rfl, rfl⟩ := p19
    refine x_callV (q := 25) (ci := 7) (c_spell hn hN hq hX0 (c := i) (by omega)) eX7_clauseOfToken_92 gX7_clauseOfToken_X7_tokenSpells xp0 (by omega) rfl rfl rfl (Nat.le_of_ble_eq_true rfl) ⟨Nat.le_refl _, Nat.le_refl _⟩ dX7_clauseOfToken_22 rfl rfl (fun r22 M22 p22 => ?_)
    obtain ⟨rfl, p22⟩ := p22
    rcases p22 with ⟨b22, rfl⟩ | ⟨b22, rfl⟩
    · refine x_if_eq (t := 30) (q := 28) dX7_clauseOfToken_25 (by decide) rfl (fun c25 => absurd c25 (by decide)) (fun c25 => ?_)
      refine x_iload_n (q := 29) dX7_clauseOfToken_28 rfl rfl ?_
      refine x_iret dX7_clauseOfToken_29 rfl rfl (Nat.le_refl _) ?_
      rw [wdF, if_pos b22] at hQ
      exact hQ
    · refine x_if_eq (t := 30) (q := 28) dX7_clauseOfToken_25 (by decide) rfl (fun c25 => ?_) (fun c25 => absurd c25 (by decide))
      refine x_iinc (L' := fun x1_30 => [(1, .int x1_30), (0, .ref 12)]) (q := 33) dX7_clauseOfToken_30 rfl rfl (by decide) (fun _ => rfl) (fun x1_30 ex1_30 => ?_)
      obtain rfl : x1_30 = nI (i + 1) := ex1_30.trans (nI_1 i)
      refine x_goto (q := 11) dX7_clauseOfToken_33 (by decide) ?_
      refine x_pick (L' := [(1, .int (nI (i + 1))), (0, .ref 12)]) [0, 1] rfl ?_
      exact ih (i + 1) M (by omega) hX0 (by rw [wdF, if_neg b22] at hQ; exact hQ)

set_option maxHeartbeats 4000000 in
set_option maxRecDepth 100000 in
theorem c_clause {n N : Nat} {M : Nat → xE} {lt : Nat → Int32} {cl f : Int32} {q : Nat} (hn : 24 < n) (hN : N ≤ 160) (hq : q ≤ N) (hX : oTx lt N cl q f M) : xMet mX7_clauseOfToken [.ref 12] n M (fun r M' => M = M' ∧ some (.int (oI (wdT lt N q))) = r) := by
  have hX0 := hX
  obtain ⟨xp0, xp1⟩ := hX
  have hb := tkE_b lt hq
  have hb0 := tsp_b lt hq
  have hkl := tkK_lt lt N q
  have hiX7 : ∀ w ∈ wsX70, w ∈ wsX7_clauseOfToken := by decide +kernel
  refine xMet.of _ (by decide) rfl (Nat.le_of_ble_eq_true rfl) ?_
  refine x_aload_n (q := 1) dX7_clauseOfToken_0 rfl rfl ?_
  refine x_getf (C := RX7) (T := TX7) (N := 8) (k := 4) (q := 4) xp0 (by omega) rfl hiX7 (by decide) (by decide +kernel) rfl dX7_clauseOfToken_1 rfl ?_
  refine x_if_eq (t := 9) (q := 7) dX7_clauseOfToken_4 (by decide) rfl (fun c4 => ?_) (fun c4 => ?_)
  · refine x_iconst (v := 0) (q := 10) dX7_clauseOfToken_9 rfl (by decide) ?_
    refine x_istore_n (L' := fun x1_10 => [(1, .int x1_10), (0, .ref 12)]) (q := 11) dX7_clauseOfToken_10 rfl (by decide) (fun _ => rfl) (fun x1_10 ex1_10 => ?_)
    have hk0 : tkK lt N q = 0 := (nIne (b := 0) (by omega) (by decide)).mp c4
    subst ex1_10
    exact l_clause hn hN hq 12 0 M (by omega) hX0 ⟨rfl, by unfold wdT; rw [if_pos hk0]⟩
  · refine x_iconst (v := -1) (q := 8) dX7_clauseOfToken_7 rfl (by decide) ?_
    refine x_iret dX7_clauseOfToken_8 rfl rfl (Nat.le_refl _) ?_
    refine ⟨rfl, ?_⟩
    unfold wdT
    rw [if_neg (fun h => c4 (by rw [h]; rfl))]
    rfl

set_option maxHeartbeats 4000000 in
set_option maxRecDepth 100000 in
theorem c_room {n N : Nat} {M : Nat → xE} {lt : Nat → Int32} {cl f : Int32} {q : Nat} (hn : 24 < n) (hN : N ≤ 160) (hq : q ≤ N) (hX : oTx lt N cl q f M) {τ : Nat → Nat → Int32} (hD : oX8 14 τ M) {P W G : Nat} (hP : P ≤ 5) (hW : W ≤ 6) (hG : G ≤ 5) (hP0 : τ 0 0 = nI P) (hW0 : τ 3 0 = nI W) (hG0 : τ 8 0 = nI G) {c : Nat} (hc : c < 12) : xMet mX7_hasRoomFor [.ref 12, .int (nI c)] n M (fun r M' => M = M' ∧ xB (rm P W G c = true) r) := by
  have hX0 := hX
  obtain ⟨xp0, xp1⟩ := hX
  have hb := tkE_b lt hq
  have hb0 := tsp_b lt hq
  have hD0 := hD
  obtain ⟨dp0, dp1, dp2, dp3, dp4, dp5, dp6, dp7, dp8, dp9, dp10⟩ := hD
  have hiX7 : ∀ w ∈ wsX70, w ∈ wsX7_hasRoomFor := by decide +kernel
  have hiX8 : ∀ w ∈ wsX80, w ∈ wsX7_hasRoomFor := by decide +kernel
  refine xMet.of _ (by decide) rfl (Nat.le_of_ble_eq_true rfl) ?_
  refine x_iload_n (q := 1) dX7_hasRoomFor_0 rfl rfl ?_
  refine x_iconst (v := 1) (q := 2) dX7_hasRoomFor_1 rfl (by decide) ?_
  refine x_icmp_lt (t := 27) (q := 5) dX7_hasRoomFor_2 (by decide) rfl (fun c2 => ?_) (fun c2 => ?_)
  · refine x_iload_n (q := 28) dX7_hasRoomFor_27 rfl rfl ?_
    refine x_bipush (v := 6) (q := 30) dX7_hasRoomFor_28 rfl (by decide) ?_
    refine x_icmp_ne (t := 51) (q := 33) dX7_hasRoomFor_30 (by decide) rfl (fun c30 => ?_) (fun c30 => ?_)
    · refine x_iload_n (q := 52) dX7_hasRoomFor_51 rfl rfl ?_
      refine x_bipush (v := 7) (q := 54) dX7_hasRoomFor_52 rfl (by decide) ?_
      refine x_icmp_eq (t := 63) (q := 57) dX7_hasRoomFor_54 (by decide) rfl (fun c54 => ?_) (fun c54 => ?_)
      · refine x_aload_n (q := 64) dX7_hasRoomFor_63 rfl rfl ?_
        refine x_getf (C := RX7) (T := TX7) (N := 8) (k := 1) (q := 67) xp0 (by omega) rfl hiX7 (by decide) (by decide +kernel) rfl dX7_hasRoomFor_64 rfl ?_
        refine x_getf (C := RX8) (T := TX8) (N := 15) (k := 8) (q := 70) dp0 (by omega) rfl hiX8 (by decide) (by decide +kernel) rfl dX7_hasRoomFor_67 rfl ?_
        rw [hG0]
        refine x_iconst (v := 5) (q := 71) dX7_hasRoomFor_70 rfl (by decide) ?_
        refine x_icmp_ge (t := 78) (q := 74) dX7_hasRoomFor_71 (by decide) rfl (fun c71 => ?_) (fun c71 => ?_)
        · refine x_iconst (v := 0) (q := 79) dX7_hasRoomFor_78 rfl (by decide) ?_
          refine x_zret dX7_hasRoomFor_79 rfl rfl rfl (Nat.le_refl _) ?_
          have d2 : c < 1 := (nI_ltI (b := 1) (by omega) (by decide)).mp c2
          have d30 : ¬ c = 6 := fun h => c30 ((nIne (b := 6) (by omega) (by decide)).mpr h)
          have d54 : c = 7 := (nIne (b := 7) (by omega) (by decide)).mp c54
          have d71 : 5 ≤ G := (nI_leI (a := 5) (by decide) (by omega)).mp c71
          refine ⟨rfl, ?_⟩
          first
            | exact Or.inl ⟨by unfold rm; (repeat' split) <;> first | omega | rfl | (apply decide_eq_true; omega), rfl⟩
            | exact Or.inr ⟨by unfold rm; (repeat' split) <;> first | omega | (intro h9; have := of_decide_eq_true h9; omega), rfl⟩
        · refine x_iconst (v := 1) (q := 75) dX7_hasRoomFor_74 rfl (by decide) ?_
          refine x_goto (q := 79) dX7_hasRoomFor_75 (by decide) ?_
          refine x_zret dX7_hasRoomFor_79 rfl rfl rfl (Nat.le_refl _) ?_
          have d2 : c < 1 := (nI_ltI (b := 1) (by omega) (by decide)).mp c2
          have d30 : ¬ c = 6 := fun h => c30 ((nIne (b := 6) (by omega) (by decide)).mpr h)
          have d54 : c = 7 := (nIne (b := 7) (by omega) (by decide)).mp c54
          have d71 : ¬ 5 ≤ G := fun h => c71 ((nI_leI (a := 5) (by decide) (by omega)).mpr h)
          refine ⟨rfl, ?_⟩
          first
            | exact Or.inl ⟨by unfold rm; (repeat' split) <;> first | omega | rfl | (apply decide_eq_true; omega), rfl⟩
            | exact Or.inr ⟨by unfold rm; (repeat' split) <;> first | omega | (intro h9; have := of_decide_eq_true h9; omega), rfl⟩
      · refine x_iload_n (q := 58) dX7_hasRoomFor_57 rfl rfl ?_
        refine x_bipush (v := 8) (q := 60) dX7_hasRoomFor_58 rfl (by decide) ?_
        refine x_icmp_ne (t := 80) (q := 63) dX7_hasRoomFor_60 (by decide) rfl (fun c60 => ?_) (fun c60 => ?_)
        · refine x_iconst (v := 1) (q := 81) dX7_hasRoomFor_80 rfl (by decide) ?_
          refine x_zret dX7_hasRoomFor_81 rfl rfl rfl (Nat.le_refl _) ?_
          have d2 : c < 1 := (nI_ltI (b := 1) (by omega) (by decide)).mp c2
          have d30 : ¬ c = 6 := fun h => c30 ((nIne (b := 6) (by omega) (by decide)).mpr h)
          have d54 : ¬ c = 7 := fun h => c54 ((nIne (b := 7) (by omega) (by decide)).mpr h)
          have d60 : ¬ c = 8 := fun h => c60 ((nIne (b := 8) (by omega) (by decide)).mpr h)
          refine ⟨rfl, ?_⟩
          first
            | exact Or.inl ⟨by unfold rm; (repeat' split) <;> first | omega | rfl | (apply decide_eq_true; omega), rfl⟩
            | exact Or.inr ⟨by unfold rm; (repeat' split) <;> first | omega | (intro h9; have := of_decide_eq_true h9; omega), rfl⟩
        · refine x_aload_n (q := 64) dX7_hasRoomFor_63 rfl rfl ?_
          refine x_getf (C := RX7) (T := TX7) (N := 8) (k := 1) (q := 67) xp0 (by omega) rfl hiX7 (by decide) (by decide +kernel) rfl dX7_hasRoomFor_64 rfl ?_
          refine x_getf (C := RX8) (T := TX8) (N := 15) (k := 8) (q := 70) dp0 (by omega) rfl hiX8 (by decide) (by decide +kernel) rfl dX7_hasRoomFor_67 rfl ?_
          rw [hG0]
          refine x_iconst (v := 5) (q := 71) dX7_hasRoomFor_70 rfl (by decide) ?_
          refine x_icmp_ge (t := 78) (q := 74) dX7_hasRoomFor_71 (by decide) rfl (fun c71 => ?_) (fun c71 => ?_)
          · refine x_iconst (v := 0) (q := 79) dX7_hasRoomFor_78 rfl (by decide) ?_
            refine x_zret dX7_hasRoomFor_79 rfl rfl rfl (Nat.le_refl _) ?_
            have d2 : c < 1 := (nI_ltI (b := 1) (by omega) (by decide)).mp c2
            have d30 : ¬ c = 6 := fun h => c30 ((nIne (b := 6) (by omega) (by decide)).mpr h)
            have d54 : ¬ c = 7 := fun h => c54 ((nIne (b := 7) (by omega) (by decide)).mpr h)
            have d60 : c = 8 := (nIne (b := 8) (by omega) (by decide)).mp c60
            have d71 : 5 ≤ G := (nI_leI (a := 5) (by decide) (by omega)).mp c71
            refine ⟨rfl, ?_⟩
            first
              | exact Or.inl ⟨by unfold rm; (repeat' split) <;> first | omega | rfl | (apply decide_eq_true; omega), rfl⟩
              | exact Or.inr ⟨by unfold rm; (repeat' split) <;> first | omega | (intro h9; have := of_decide_eq_true h9; omega), rfl⟩
          · refine x_iconst (v := 1) (q := 75) dX7_hasRoomFor_74 rfl (by decide) ?_
            refine x_goto (q := 79) dX7_hasRoomFor_75 (by decide) ?_
            refine x_zret dX7_hasRoomFor_79 rfl rfl rfl (Nat.le_refl _) ?_
            have d2 : c < 1 := (nI_ltI (b := 1) (by omega) (by decide)).mp c2
            have d30 : ¬ c = 6 := fun h => c30 ((nIne (b := 6) (by omega) (by decide)).mpr h)
            have d54 : ¬ c = 7 := fun h => c54 ((nIne (b := 7) (by omega) (by decide)).mpr h)
            have d60 : c = 8 := (nIne (b := 8) (by omega) (by decide)).mp c60
            have d71 : ¬ 5 ≤ G := fun h => c71 ((nI_leI (a := 5) (by decide) (by omega)).mpr h)
            refine ⟨rfl, ?_⟩
            first
              | exact Or.inl ⟨by unfold rm; (repeat' split) <;> first | omega | rfl | (apply decide_eq_true; omega), rfl⟩
              | exact Or.inr ⟨by unfold rm; (repeat' split) <;> first | omega | (intro h9; have := of_decide_eq_true h9; omega), rfl⟩
    · refine x_aload_n (q := 34) dX7_hasRoomFor_33 rfl rfl ?_
      refine x_getf (C := RX7) (T := TX7) (N := 8) (k := 1) (q := 37) xp0 (by omega) rfl hiX7 (by decide) (by decide +kernel) rfl dX7_hasRoomFor_34 rfl ?_
      refine x_getf (C := RX8) (T := TX8) (N := 15) (k := 3) (q := 40) dp0 (by omega) rfl hiX8 (by decide) (by decide +kernel) rfl dX7_hasRoomFor_37 rfl ?_
      rw [hW0]
      refine x_bipush (v := 6) (q := 42) dX7_hasRoomFor_40 rfl (by decide) ?_
      refine x_icmp_ge (t := 49) (q := 45) dX7_hasRoomFor_42 (by decide) rfl (fun c42 => ?_) (fun c42 => ?_)
      · refine x_iconst (v := 0) (q := 50) dX7_hasRoomFor_49 rfl (by decide) ?_
        refine x_zret dX7_hasRoomFor_50 rfl rfl rfl (Nat.le_refl _) ?_
        have d2 : c < 1 := (nI_ltI (b := 1) (by omega) (by decide)).mp c2
        have d30 : c = 6 := (nIne (b := 6) (by omega) (by decide)).mp c30
        have d42 : 6 ≤ W := (nI_leI (a := 6) (by decide) (by omega)).mp c42
        refine ⟨rfl, ?_⟩
        first
          | exact Or.inl ⟨by unfold rm; (repeat' split) <;> first | omega | rfl | (apply decide_eq_true; omega), rfl⟩
          | exact Or.inr ⟨by unfold rm; (repeat' split) <;> first | omega | (intro h9; have := of_decide_eq_true h9; omega), rfl⟩
      · refine x_iconst (v := 1) (q := 46) dX7_hasRoomFor_45 rfl (by decide) ?_
        refine x_goto (q := 50) dX7_hasRoomFor_46 (by decide) ?_
        refine x_zret dX7_hasRoomFor_50 rfl rfl rfl (Nat.le_refl _) ?_
        have d2 : c < 1 := (nI_ltI (b := 1) (by omega) (by decide)).mp c2
        have d30 : c = 6 := (nIne (b := 6) (by omega) (by decide)).mp c30
        have d42 : ¬ 6 ≤ W := fun h => c42 ((nI_leI (a := 6) (by decide) (by omega)).mpr h)
        refine ⟨rfl, ?_⟩
        first
          | exact Or.inl ⟨by unfold rm; (repeat' split) <;> first | omega | rfl | (apply decide_eq_true; omega), rfl⟩
          | exact Or.inr ⟨by unfold rm; (repeat' split) <;> first | omega | (intro h9; have := of_decide_eq_true h9; omega), rfl⟩
  · refine x_iload_n (q := 6) dX7_hasRoomFor_5 rfl rfl ?_
    refine x_iconst (v := 5) (q := 7) dX7_hasRoomFor_6 rfl (by decide) ?_
    refine x_icmp_ge (t := 27) (q := 10) dX7_hasRoomFor_7 (by decide) rfl (fun c7 => ?_) (fun c7 => ?_)
    · refine x_iload_n (q := 28) dX7_hasRoomFor_27 rfl rfl ?_
      refine x_bipush (v := 6) (q := 30) dX7_hasRoomFor_28 rfl (by decide) ?_
      refine x_icmp_ne (t := 51) (q := 33) dX7_hasRoomFor_30 (by decide) rfl (fun c30 => ?_) (fun c30 => ?_)
      · refine x_iload_n (q := 52) dX7_hasRoomFor_51 rfl rfl ?_
        refine x_bipush (v := 7) (q := 54) dX7_hasRoomFor_52 rfl (by decide) ?_
        refine x_icmp_eq (t := 63) (q := 57) dX7_hasRoomFor_54 (by decide) rfl (fun c54 => ?_) (fun c54 => ?_)
        · refine x_aload_n (q := 64) dX7_hasRoomFor_63 rfl rfl ?_
          refine x_getf (C := RX7) (T := TX7) (N := 8) (k := 1) (q := 67) xp0 (by omega) rfl hiX7 (by decide) (by decide +kernel) rfl dX7_hasRoomFor_64 rfl ?_
          refine x_getf (C := RX8) (T := TX8) (N := 15) (k := 8) (q := 70) dp0 (by omega) rfl hiX8 (by decide) (by decide +kernel) rfl dX7_hasRoomFor_67 rfl ?_
          rw [hG0]
          refine x_iconst (v := 5) (q := 71) dX7_hasRoomFor_70 rfl (by decide) ?_
          refine x_icmp_ge (t := 78) (q := 74) dX7_hasRoomFor_71 (by decide) rfl (fun c71 => ?_) (fun c71 => ?_)
          · refine x_iconst (v := 0) (q := 79) dX7_hasRoomFor_78 rfl (by decide) ?_
            refine x_zret dX7_hasRoomFor_79 rfl rfl rfl (Nat.le_refl _) ?_
            have d2 : ¬ c < 1 := fun h => c2 ((nI_ltI (b := 1) (by omega) (by decide)).mpr h)
            have d7 : 5 ≤ c := (nI_leI (a := 5) (by decide) (by omega)).mp c7
            have d30 : ¬ c = 6 := fun h => c30 ((nIne (b := 6) (by omega) (by decide)).mpr h)
            have d54 : c = 7 := (nIne (b := 7) (by omega) (by decide)).mp c54
            have d71 : 5 ≤ G := (nI_leI (a := 5) (by decide) (by omega)).mp c71
            refine ⟨rfl, ?_⟩
            first
              | exact Or.inl ⟨by unfold rm; (repeat' split) <;> first | omega | rfl | (apply decide_eq_true; omega), rfl⟩
              | exact Or.inr ⟨by unfold rm; (repeat' split) <;> first | omega | (intro h9; have := of_decide_eq_true h9; omega), rfl⟩
          · refine x_iconst (v := 1) (q := 75) dX7_hasRoomFor_74 rfl (by decide) ?_
            refine x_goto (q := 79) dX7_hasRoomFor_75 (by decide) ?_
            refine x_zret dX7_hasRoomFor_79 rfl rfl rfl (Nat.le_refl _) ?_
            have d2 : ¬ c < 1 := fun h => c2 ((nI_ltI (b := 1) (by omega) (by decide)).mpr h)
            have d7 : 5 ≤ c := (nI_leI (a := 5) (by decide) (by omega)).mp c7
            have d30 : ¬ c = 6 := fun h => c30 ((nIne (b := 6) (by omega) (by decide)).mpr h)
            have d54 : c = 7 := (nIne (b := 7) (by omega) (by decide)).mp c54
            have d71 : ¬ 5 ≤ G := fun h => c71 ((nI_leI (a := 5) (by decide) (by omega)).mpr h)
            refine ⟨rfl, ?_⟩
            first
              | exact Or.inl ⟨by unfold rm; (repeat' split) <;> first | omega | rfl | (apply decide_eq_true; omega), rfl⟩
              | exact Or.inr ⟨by unfold rm; (repeat' split) <;> first | omega | (intro h9; have := of_decide_eq_true h9; omega), rfl⟩
        · refine x_iload_n (q := 58) dX7_hasRoomFor_57 rfl rfl ?_
          refine x_bipush (v := 8) (q := 60) dX7_hasRoomFor_58 rfl (by decide) ?_
          refine x_icmp_ne (t := 80) (q := 63) dX7_hasRoomFor_60 (by decide) rfl (fun c60 => ?_) (fun c60 => ?_)
          · refine x_iconst (v := 1) (q := 81) dX7_hasRoomFor_80 rfl (by decide) ?_
            refine x_zret dX7_hasRoomFor_81 rfl rfl rfl (Nat.le_refl _) ?_
            have d2 : ¬ c < 1 := fun h => c2 ((nI_ltI (b := 1) (by omega) (by decide)).mpr h)
            have d7 : 5 ≤ c := (nI_leI (a := 5) (by decide) (by omega)).mp c7
            have d30 : ¬ c = 6 := fun h => c30 ((nIne (b := 6) (by omega) (by decide)).mpr h)
            have d54 : ¬ c = 7 := fun h => c54 ((nIne (b := 7) (by omega) (by decide)).mpr h)
            have d60 : ¬ c = 8 := fun h => c60 ((nIne (b := 8) (by omega) (by decide)).mpr h)
            refine ⟨rfl, ?_⟩
            first
              | exact Or.inl ⟨by unfold rm; (repeat' split) <;> first | omega | rfl | (apply decide_eq_true; omega), rfl⟩
              | exact Or.inr ⟨by unfold rm; (repeat' split) <;> first | omega | (intro h9; have := of_decide_eq_true h9; omega), rfl⟩
          · refine x_aload_n (q := 64) dX7_hasRoomFor_63 rfl rfl ?_
            refine x_getf (C := RX7) (T := TX7) (N := 8) (k := 1) (q := 67) xp0 (by omega) rfl hiX7 (by decide) (by decide +kernel) rfl dX7_hasRoomFor_64 rfl ?_
            refine x_getf (C := RX8) (T := TX8) (N := 15) (k := 8) (q := 70) dp0 (by omega) rfl hiX8 (by decide) (by decide +kernel) rfl dX7_hasRoomFor_67 rfl ?_
            rw [hG0]
            refine x_iconst (v := 5) (q := 71) dX7_hasRoomFor_70 rfl (by decide) ?_
            refine x_icmp_ge (t := 78) (q := 74) dX7_hasRoomFor_71 (by decide) rfl (fun c71 => ?_) (fun c71 => ?_)
            · refine x_iconst (v := 0) (q := 79) dX7_hasRoomFor_78 rfl (by decide) ?_
              refine x_zret dX7_hasRoomFor_79 rfl rfl rfl (Nat.le_refl _) ?_
              have d2 : ¬ c < 1 := fun h => c2 ((nI_ltI (b := 1) (by omega) (by decide)).mpr h)
              have d7 : 5 ≤ c := (nI_leI (a := 5) (by decide) (by omega)).mp c7
              have d30 : ¬ c = 6 := fun h => c30 ((nIne (b := 6) (by omega) (by decide)).mpr h)
              have d54 : ¬ c = 7 := fun h => c54 ((nIne (b := 7) (by omega) (by decide)).mpr h)
              have d60 : c = 8 := (nIne (b := 8) (by omega) (by decide)).mp c60
              have d71 : 5 ≤ G := (nI_leI (a := 5) (by decide) (by omega)).mp c71
              refine ⟨rfl, ?_⟩
              first
                | exact Or.inl ⟨by unfold rm; (repeat' split) <;> first | omega | rfl | (apply decide_eq_true; omega), rfl⟩
                | exact Or.inr ⟨by unfold rm; (repeat' split) <;> first | omega | (intro h9; have := of_decide_eq_true h9; omega), rfl⟩
            · refine x_iconst (v := 1) (q := 75) dX7_hasRoomFor_74 rfl (by decide) ?_
              refine x_goto (q := 79) dX7_hasRoomFor_75 (by decide) ?_
              refine x_zret dX7_hasRoomFor_79 rfl rfl rfl (Nat.le_refl _) ?_
              have d2 : ¬ c < 1 := fun h => c2 ((nI_ltI (b := 1) (by omega) (by decide)).mpr h)
              have d7 : 5 ≤ c := (nI_leI (a := 5) (by decide) (by omega)).mp c7
              have d30 : ¬ c = 6 := fun h => c30 ((nIne (b := 6) (by omega) (by decide)).mpr h)
              have d54 : ¬ c = 7 := fun h => c54 ((nIne (b := 7) (by omega) (by decide)).mpr h)
              have d60 : c = 8 := (nIne (b := 8) (by omega) (by decide)).mp c60
              have d71 : ¬ 5 ≤ G := fun h => c71 ((nI_leI (a := 5) (by decide) (by omega)).mpr h)
              refine ⟨rfl, ?_⟩
              first
                | exact Or.inl ⟨by unfold rm; (repeat' split) <;> first | omega | rfl | (apply decide_eq_true; omega), rfl⟩
                | exact Or.inr ⟨by unfold rm; (repeat' split) <;> first | omega | (intro h9; have := of_decide_eq_true h9; omega), rfl⟩
      · refine x_aload_n (q := 34) dX7_hasRoomFor_33 rfl rfl ?_
        refine x_getf (C := RX7) (T := TX7) (N := 8) (k := 1) (q := 37) xp0 (by omega) rfl hiX7 (by decide) (by decide +kernel) rfl dX7_hasRoomFor_34 rfl ?_
        refine x_getf (C := RX8) (T := TX8) (N := 15) (k := 3) (q := 40) dp0 (by omega) rfl hiX8 (by decide) (by decide +kernel) rfl dX7_hasRoomFor_37 rfl ?_
        rw [hW0]
        refine x_bipush (v := 6) (q := 42) dX7_hasRoomFor_40 rfl (by decide) ?_
        refine x_icmp_ge (t := 49) (q := 45) dX7_hasRoomFor_42 (by decide) rfl (fun c42 => ?_) (fun c42 => ?_)
        · refine x_iconst (v := 0) (q := 50) dX7_hasRoomFor_49 rfl (by decide) ?_
          refine x_zret dX7_hasRoomFor_50 rfl rfl rfl (Nat.le_refl _) ?_
          have d2 : ¬ c < 1 := fun h => c2 ((nI_ltI (b := 1) (by omega) (by decide)).mpr h)
          have d7 : 5 ≤ c := (nI_leI (a := 5) (by decide) (by omega)).mp c7
          have d30 : c = 6 := (nIne (b := 6) (by omega) (by decide)).mp c30
          have d42 : 6 ≤ W := (nI_leI (a := 6) (by decide) (by omega)).mp c42
          refine ⟨rfl, ?_⟩
          first
            | exact Or.inl ⟨by unfold rm; (repeat' split) <;> first | omega | rfl | (apply decide_eq_true; omega), rfl⟩
            | exact Or.inr ⟨by unfold rm; (repeat' split) <;> first | omega | (intro h9; have := of_decide_eq_true h9; omega), rfl⟩
        · refine x_iconst (v := 1) (q := 46) dX7_hasRoomFor_45 rfl (by decide) ?_
          refine x_goto (q := 50) dX7_hasRoomFor_46 (by decide) ?_
          refine x_zret dX7_hasRoomFor_50 rfl rfl rfl (Nat.le_refl _) ?_
          have d2 : ¬ c < 1 := fun h => c2 ((nI_ltI (b := 1) (by omega) (by decide)).mpr h)
          have d7 : 5 ≤ c := (nI_leI (a := 5) (by decide) (by omega)).mp c7
          have d30 : c = 6 := (nIne (b := 6) (by omega) (by decide)).mp c30
          have d42 : ¬ 6 ≤ W := fun h => c42 ((nI_leI (a := 6) (by decide) (by omega)).mpr h)
          refine ⟨rfl, ?_⟩
          first
            | exact Or.inl ⟨by unfold rm; (repeat' split) <;> first | omega | rfl | (apply decide_eq_true; omega), rfl⟩
            | exact Or.inr ⟨by unfold rm; (repeat' split) <;> first | omega | (intro h9; have := of_decide_eq_true h9; omega), rfl⟩
    · refine x_aload_n (q := 11) dX7_hasRoomFor_10 rfl rfl ?_
      refine x_getf (C := RX7) (T := TX7) (N := 8) (k := 1) (q := 14) xp0 (by omega) rfl hiX7 (by decide) (by decide +kernel) rfl dX7_hasRoomFor_11 rfl ?_
      refine x_getf (C := RX8) (T := TX8) (N := 15) (k := 0) (q := 17) dp0 (by omega) rfl hiX8 (by decide) (by decide +kernel) rfl dX7_hasRoomFor_14 rfl ?_
      rw [hP0]
      refine x_iconst (v := 5) (q := 18) dX7_hasRoomFor_17 rfl (by decide) ?_
      refine x_icmp_ge (t := 25) (q := 21) dX7_hasRoomFor_18 (by decide) rfl (fun c18 => ?_) (fun c18 => ?_)
      · refine x_iconst (v := 0) (q := 26) dX7_hasRoomFor_25 rfl (by decide) ?_
        refine x_zret dX7_hasRoomFor_26 rfl rfl rfl (Nat.le_refl _) ?_
        have d2 : ¬ c < 1 := fun h => c2 ((nI_ltI (b := 1) (by omega) (by decide)).mpr h)
        have d7 : ¬ 5 ≤ c := fun h => c7 ((nI_leI (a := 5) (by decide) (by omega)).mpr h)
        have d18 : 5 ≤ P := (nI_leI (a := 5) (by decide) (by omega)).mp c18
        refine ⟨rfl, ?_⟩
        first
          | exact Or.inl ⟨by unfold rm; (repeat' split) <;> first | omega | rfl | (apply decide_eq_true; omega), rfl⟩
          | exact Or.inr ⟨by unfold rm; (repeat' split) <;> first | omega | (intro h9; have := of_decide_eq_true h9; omega), rfl⟩
      · refine x_iconst (v := 1) (q := 22) dX7_hasRoomFor_21 rfl (by decide) ?_
        refine x_goto (q := 26) dX7_hasRoomFor_22 (by decide) ?_
        refine x_zret dX7_hasRoomFor_26 rfl rfl rfl (Nat.le_refl _) ?_
        have d2 : ¬ c < 1 := fun h => c2 ((nI_ltI (b := 1) (by omega) (by decide)).mpr h)
        have d7 : ¬ 5 ≤ c := fun h => c7 ((nI_leI (a := 5) (by decide) (by omega)).mpr h)
        have d18 : ¬ 5 ≤ P := fun h => c18 ((nI_leI (a := 5) (by decide) (by omega)).mpr h)
        refine ⟨rfl, ?_⟩
        first
          | exact Or.inl ⟨by unfold rm; (repeat' split) <;> first | omega | rfl | (apply decide_eq_true; omega), rfl⟩
          | exact Or.inr ⟨by unfold rm; (repeat' split) <;> first | omega | (intro h9; have := of_decide_eq_true h9; omega), rfl⟩

def nvO (lt : Nat → Int32) (N q : Nat) : Int32 := if tkK lt N q = 1 ∧ tkE lt N q - tsp lt N q ≤ 2 then nI (nvT lt N q) else -1
set_option maxHeartbeats 4000000 in
set_option maxRecDepth 100000 in
theorem l_number {n N : Nat} {lt : Nat → Int32} {cl f : Int32} {q : Nat} {Q : Option Value → (Nat → xE) → Prop} (hn : 24 < n) (hN : N ≤ 160) (hq : q ≤ N) (hk1 : tkK lt N q = 1) : ∀ (k i : Nat) (M : Nat → xE) (v : Nat), i + k = tkE lt N q → (tsp lt N q ≤ i) → (oTx lt N cl q f M) → (Q (some (.int (nI (nvR lt k i v)))) M) → X mX7_numberOfToken 0 0 32 [(3, .int (nI i)), (2, .int (nI v)), (0, .ref 12)] [] n M (Q) := by
  have hiX7 : ∀ w ∈ wsX70, w ∈ wsX7_numberOfToken := by decide +kernel
  intro k
  induction k with
  | zero =>
    intro i M v hik hi hX hQ
    have hX0 := hX
    obtain ⟨xp0, xp1⟩ := hX
    have hb := tkE_b lt hq
    have hb0 := tsp_b lt hq
    refine x_iload_n (q := 33) dX7_numberOfToken_32 rfl rfl ?_
    refine x_aload_n (q := 34) dX7_numberOfToken_33 rfl rfl ?_
    refine x_getf (C := RX7) (T := TX7) (N := 8) (k := 6) (q := 37) xp0 (by omega) rfl hiX7 (by decide) (by decide +kernel) rfl dX7_numberOfToken_34 rfl ?_
    refine x_icmp_ge (t := 61) (q := 40) dX7_numberOfToken_37 (by decide) rfl (fun c37 => ?_) (fun c37 => absurd (nI_le (show tkE lt N q ≤ i by omega) (by omega)) c37)
    refine x_iload_n (q := 62) dX7_numberOfToken_61 rfl rfl ?_
    refine x_iret dX7_numberOfToken_62 rfl rfl (Nat.le_refl _) ?_
    exact hQ
  | succ k ih =>
    intro i M v hik hi hX hQ
    have hX0 := hX
    obtain ⟨xp0, xp1⟩ := hX
    have hb := tkE_b lt hq
    have hb0 := tsp_b lt hq
    obtain ⟨d, hd, ed⟩ := kd_dig (tk_dig lt hk1 hi (show i < tkE lt N q by omega))
    refine x_iload_n (q := 33) dX7_numberOfToken_32 rfl rfl ?_
    refine x_aload_n (q := 34) dX7_numberOfToken_33 rfl rfl ?_
    refine x_getf (C := RX7) (T := TX7) (N := 8) (k := 6) (q := 37) xp0 (by omega) rfl hiX7 (by decide) (by decide +kernel) rfl dX7_numberOfToken_34 rfl ?_
    refine x_icmp_ge (t := 61) (q := 40) dX7_numberOfToken_37 (by decide) rfl (fun c37 => absurd c37 (nI_ge (a := i) (b := tkE lt N q) (by omega) (by omega))) (fun c37 => ?_)
    refine x_iload_n (q := 41) dX7_numberOfToken_40 rfl rfl ?_
    refine x_bipush (v := 10) (q := 43) dX7_numberOfToken_41 rfl (by decide) ?_
    refine x_imul (q := 44) dX7_numberOfToken_43 rfl ?_
    refine x_aload_n (q := 45) dX7_numberOfToken_44 rfl rfl ?_
    refine x_getf (C := RX7) (T := TX7) (N := 8) (k := 0) (q := 48) xp0 (by omega) rfl hiX7 (by decide) (by decide +kernel) rfl dX7_numberOfToken_45 rfl ?_
    refine x_iload_n (q := 49) dX7_numberOfToken_48 rfl rfl ?_
    refine x_iald (q := 50) xp1 (by omega) (ixI (show (nI i : Int32) = nI i from rfl) (by omega) (by decide)) dX7_numberOfToken_49 rfl ?_
    rw [ixC (show (nI i : Int32) = nI i from rfl) (by omega)]
    refine x_iadd (q := 51) dX7_numberOfToken_50 rfl ?_
    refine x_bipush (v := 48) (q := 53) dX7_numberOfToken_51 rfl (by decide) ?_
    refine x_isub (q := 54) dX7_numberOfToken_53 rfl ?_
    rw [show nI v * 10 + lt i - 48 = nI (10 * v + dgv (lt i)) by rw [ed, dgv_of hd, show nI v * 10 = nI (v * 10) from pk_mul v 10, nI_add, show (48 : Int32) = nI 48 from rfl, pk_sub (by omega)]; congr 1; omega]
    refine x_istore_n (L' := fun x2_54 => [(2, .int x2_54), (3, .int (nI i)), (0, .ref 12)]) (q := 55) dX7_numberOfToken_54 rfl (by decide) (fun _ => rfl) (fun x2_54 ex2_54 => ?_)
    obtain rfl : x2_54 = nI (10 * v + dgv (lt i)) := ex2_54
    refine x_iinc (L' := fun x3_55 => [(3, .int x3_55), (2, .int (nI (10 * v + dgv (lt i)))), (0, .ref 12)]) (q := 58) dX7_numberOfToken_55 rfl rfl (by decide) (fun _ => rfl) (fun x3_55 ex3_55 => ?_)
    obtain rfl : x3_55 = nI (i + 1) := ex3_55.trans (nI_1 i)
    refine x_goto (q := 32) dX7_numberOfToken_58 (by decide) ?_
    refine x_pick (L' := [(3, .int (nI (i + 1))), (2, .int (nI (10 * v + dgv (lt i)))), (0, .ref 12)]) [0, 1, 2] rfl ?_
    exact ih (i + 1) M (10 * v + dgv (lt i)) (by omega) (by omega) hX0 hQ

set_option maxHeartbeats 4000000 in
set_option maxRecDepth 100000 in
theorem c_number {n N : Nat} {M : Nat → xE} {lt : Nat → Int32} {cl f : Int32} {q : Nat} (hn : 24 < n) (hN : N ≤ 160) (hq : q ≤ N) (hX : oTx lt N cl q f M) : xMet mX7_numberOfToken [.ref 12] n M (fun r M' => M = M' ∧ some (.int (nvO lt N q)) = r) := by
  have hX0 := hX
  obtain ⟨xp0, xp1⟩ := hX
  have hb := tkE_b lt hq
  have hb0 := tsp_b lt hq
  have hkl := tkK_lt lt N q
  have hiX7 : ∀ w ∈ wsX70, w ∈ wsX7_numberOfToken := by decide +kernel
  refine xMet.of _ (by decide) rfl (Nat.le_of_ble_eq_true rfl) ?_
  refine x_aload_n (q := 1) dX7_numberOfToken_0 rfl rfl ?_
  refine x_getf (C := RX7) (T := TX7) (N := 8) (k := 6) (q := 4) xp0 (by omega) rfl hiX7 (by decide) (by decide +kernel) rfl dX7_numberOfToken_1 rfl ?_
  refine x_aload_n (q := 5) dX7_numberOfToken_4 rfl rfl ?_
  refine x_getf (C := RX7) (T := TX7) (N := 8) (k := 5) (q := 8) xp0 (by omega) rfl hiX7 (by decide) (by decide +kernel) rfl dX7_numberOfToken_5 rfl ?_
  refine x_isub (q := 9) dX7_numberOfToken_8 rfl ?_
  refine x_istore_n (L' := fun x1_9 => [(1, .int x1_9), (0, .ref 12)]) (q := 10) dX7_numberOfToken_9 rfl (by decide) (fun _ => rfl) (fun x1_9 ex1_9 => ?_)
  obtain rfl : x1_9 = nI (tkE lt N q - tsp lt N q) := ex1_9.trans (pk_sub hb.1)
  refine x_aload_n (q := 11) dX7_numberOfToken_10 rfl rfl ?_
  refine x_getf (C := RX7) (T := TX7) (N := 8) (k := 4) (q := 14) xp0 (by omega) rfl hiX7 (by decide) (by decide +kernel) rfl dX7_numberOfToken_11 rfl ?_
  refine x_iconst (v := 1) (q := 15) dX7_numberOfToken_14 rfl (by decide) ?_
  refine x_icmp_ne (t := 23) (q := 18) dX7_numberOfToken_15 (by decide) rfl (fun c15 => ?_) (fun c15 => ?_)
  · refine x_iconst (v := -1) (q := 24) dX7_numberOfToken_23 rfl (by decide) ?_
    refine x_iret dX7_numberOfToken_24 rfl rfl (Nat.le_refl _) ?_
    refine ⟨rfl, ?_⟩
    unfold nvO
    rw [if_neg]
    rintro ⟨h1, h2⟩
    exact c15 (by rw [h1]; rfl)
  · refine x_iload_n (q := 19) dX7_numberOfToken_18 rfl rfl ?_
    refine x_iconst (v := 2) (q := 20) dX7_numberOfToken_19 rfl (by decide) ?_
    refine x_icmp_le (t := 25) (q := 23) dX7_numberOfToken_20 (by decide) rfl (fun c20 => ?_) (fun c20 => ?_)
    · refine x_iconst (v := 0) (q := 26) dX7_numberOfToken_25 rfl (by decide) ?_
      refine x_istore_n (L' := fun x2_26 => [(2, .int x2_26), (1, .int (nI (tkE lt N q - tsp lt N q))), (0, .ref 12)]) (q := 27) dX7_numberOfToken_26 rfl (by decide) (fun _ => rfl) (fun x2_26 ex2_26 => ?_)
      refine x_aload_n (q := 28) dX7_numberOfToken_27 rfl rfl ?_
      refine x_getf (C := RX7) (T := TX7) (N := 8) (k := 5) (q := 31) xp0 (by omega) rfl hiX7 (by decide) (by decide +kernel) rfl dX7_numberOfToken_28 rfl ?_
      refine x_istore_n (L' := fun x3_31 => [(3, .int x3_31), (2, .int x2_26), (1, .int (nI (tkE lt N q - tsp lt N q))), (0, .ref 12)]) (q := 32) dX7_numberOfToken_31 rfl (by decide) (fun _ => rfl) (fun x3_31 ex3_31 => ?_)
      have hk1 : tkK lt N q = 1 := (nIne (b := 1) (by omega) (by decide)).mp c15
      have hk2 : tkE lt N q - tsp lt N q ≤ 2 := (nI_leI (b := 2) (by omega) (by decide)).mp c20
      obtain rfl : x2_26 = nI 0 := ex2_26
      subst ex3_31
      refine x_pick (L' := [(3, .int (nI (tsp lt N q))), (2, .int (nI 0)), (0, .ref 12)]) [0, 1, 3] rfl ?_
      exact l_number hn hN hq hk1 (tkE lt N q - tsp lt N q) (tsp lt N q) M 0 (by omega) (Nat.le_refl _) hX0 ⟨rfl, by unfold nvO; rw [if_pos ⟨hk1, hk2⟩]; rfl⟩
    · refine x_iconst (v := -1) (q := 24) dX7_numberOfToken_23 rfl (by decide) ?_
      refine x_iret dX7_numberOfToken_24 rfl rfl (Nat.le_refl _) ?_
      refine ⟨rfl, ?_⟩
      unfold nvO
      rw [if_neg]
      rintro ⟨h1, h2⟩
      exact c20 ((nI_leI (b := 2) (by omega) (by decide)).mpr h2)

