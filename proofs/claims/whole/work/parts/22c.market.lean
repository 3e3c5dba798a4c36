theorem bo_bt {s : Int32} {k : Nat} (hk : k < 32) : bo s (nI k) = 1 ↔ bt s k = true := by
  have h : ∀ i, i < 32 → bt (bo s (nI k)) i = (decide (i = 0) && bt s k) := by
    intro i hi
    unfold bo
    rw [b_and, b_sshr k hk _ hi, bt_1]
    by_cases e : i = 0
    · subst e
      rw [if_pos (by omega)]
      simp
    · simp [e]
  by_cases hb : bt s k = true
  · refine ⟨fun _ => hb, fun _ => b_ext fun i hi => ?_⟩
    rw [h i hi, bt_1, hb]; simp
  · refine ⟨fun e => ?_, fun e => absurd e hb⟩
    have h0 := h 0 (by decide)
    rw [e, bt_1] at h0
    simp at h0
    exact h0
/-- the goods that aren't sold yet -/
def unS (s : Int32) (G : Nat) : Nat := fbits (fun _ g => decide (¬ bo s (nI g) = 1)) 0 G
theorem unS_lt (s : Int32) {G : Nat} (hG : G ≤ 5) : unS s G < 32 := Nat.lt_of_lt_of_le (fbits_lt _ 0 G) (p2P G hG).1
theorem unS_eq (s : Int32) {G : Nat} (hG : G ≤ 5) : ((1 : Int32) <<< (nI G &&& 31) - 1) &&& (s ^^^ -1) = nI (unS s G) := by
  have hsh : (1 : Int32) <<< (nI G &&& 31) - 1 = nI (2 ^ G - 1) := by rw [xshl1 G (by omega)]; exact pk_sub (p2P G hG).2
  rw [hsh]
  apply b_ext
  intro i hi
  rw [b_and, b_xor, b_m1 i hi, bt_nI hi, bt_nI hi, Nat.testBit_two_pow_sub_one]
  by_cases h : i < G
  · rw [unS, fbits_tb _ 0 G i h, decide_eq_true h]
    by_cases hb : bt s i = true
    · rw [hb, decide_eq_false (fun hh => hh ((bo_bt hi).mpr hb))]; rfl
    · rw [show decide (¬ bo s (nI i) = 1) = true from decide_eq_true (fun hh => hb ((bo_bt hi).mp hh))]; simp [hb]
  · rw [decide_eq_false h, Bool.false_and, unS]
    exact (Nat.testBit_lt_two_pow (Nat.lt_of_lt_of_le (fbits_lt _ 0 G) (Nat.pow_le_pow_right (by decide) (by omega)))).symm
set_option maxHeartbeats 4000000 in
set_option maxRecDepth 100000 in
theorem l_Ma_tk1 {n p q d G D : Nat} {un : Int32} {w4 : Nat → Int32} {τ δ : Nat → Nat → Int32} {Q : Option Value → (Nat → xE) → Prop} {M0 : Nat → xE} (hpq : p + 3 ≤ q ∨ q + 11 ≤ p) (hpd : p + 3 ≤ d ∨ d + 4 ≤ p) (hp : p + 2 < n) (hq : q + 10 < n) (hd : d + 3 < n) (hG : G ≤ 5) (hD : D ≤ 9) {a : Nat} (ha : a < G) (hk : ∀ (M : Nat → xE) (h : Nat → Int32), M p = .inr (4, [.int un, .int (nI G), .int (nI D), .ref (p + 1), .ref (p + 2)]) → M (p + 1) = .inl (0, 45, .inl h) → M (p + 2) = .inl (0, 32, .inl w4) → (∀ j e, e < D → j < a + 1 → h (9 * j + e) = tPrice τ (nI j) (δ 0 0 + nI e)) → oX8 q τ M → oX3 d δ M → xfr p (p + 3) M0 M → X mX4_takeUp 0 0 88 [(4, .int (nI a)), (0, .ref p), (1, .ref q), (2, .ref d), (3, .int (nI D))] [] n M Q) : ∀ (k i : Nat) (M : Nat → xE) (h : Nat → Int32), i + k = D → (M p = .inr (4, [.int un, .int (nI G), .int (nI D), .ref (p + 1), .ref (p + 2)])) → (M (p + 1) = .inl (0, 45, .inl h)) → (M (p + 2) = .inl (0, 32, .inl w4)) → (∀ j e, e < D → (j < a ∨ (j = a ∧ e < i)) → h (9 * j + e) = tPrice τ (nI j) (δ 0 0 + nI e)) → (oX8 q τ M) → (oX3 d δ M) → (xfr p (p + 3) M0 M) → X mX4_takeUp 0 0 47 [(5, .int (nI i)), (4, .int (nI a)), (0, .ref p), (1, .ref q), (2, .ref d), (3, .int (nI D))] [] n M (Q) := by
  have hiX3 : ∀ w ∈ wsX30, w ∈ wsX4_takeUp := by decide +kernel
  have hiX4 : ∀ w ∈ wsX40, w ∈ wsX4_takeUp := by decide +kernel
  intro k
  induction k with
  | zero =>
    intro i M h hik hA h1 h2 hh hS hDd hf
    have hix : nI a * 9 + nI i = nI (9 * a + i) := by rw [show (9 : Int32) = nI 9 from rfl, pk_mul, nI_add, Nat.mul_comm]
    refine x_iload (q := 49) dX4_takeUp_47 rfl rfl ?_
    refine x_aload_n (q := 50) dX4_takeUp_49 rfl rfl ?_
    refine x_getf (C := RX4) (T := TX4) (N := 5) (k := 2) (q := 53) hA (by omega) rfl hiX4 (by decide) (by decide +kernel) rfl dX4_takeUp_50 rfl ?_
    refine x_icmp_ge (t := 88) (q := 56) dX4_takeUp_53 (by decide) rfl (fun c53 => ?_) (fun c53 => absurd (by rw [show i = D by omega]; exact nI_le (Nat.le_refl _) (by omega)) c53)
    refine x_pick (L' := [(4, .int (nI a)), (0, .ref p), (1, .ref q), (2, .ref d), (3, .int (nI D))]) [1, 2, 3, 4, 5] rfl ?_
    exact hk M h hA h1 h2 (fun j e he hj => hh j e he (by omega)) hS hDd hf
  | succ k ih =>
    intro i M h hik hA h1 h2 hh hS hDd hf
    have hix : nI a * 9 + nI i = nI (9 * a + i) := by rw [show (9 : Int32) = nI 9 from rfl, pk_mul, nI_add, Nat.mul_comm]
    refine x_iload (q := 49) dX4_takeUp_47 rfl rfl ?_
    refine x_aload_n (q := 50) dX4_takeUp_49 rfl rfl ?_
    refine x_getf (C := RX4) (T := TX4) (N := 5) (k := 2) (q := 53) hA (by omega) rfl hiX4 (by decide) (by decide +kernel) rfl dX4_takeUp_50 rfl ?_
    refine x_icmp_ge (t := 88) (q := 56) dX4_takeUp_53 (by decide) rfl (fun c53 => absurd c53 (nI_ge (a := i) (b := D) (by omega) (by omega))) (fun c53 => ?_)
    refine x_aload_n (q := 57) dX4_takeUp_56 rfl rfl ?_
    refine x_getf (C := RX4) (T := TX4) (N := 5) (k := 3) (q := 60) hA (by omega) rfl hiX4 (by decide) (by decide +kernel) rfl dX4_takeUp_57 rfl ?_
    refine x_iload (q := 62) dX4_takeUp_60 rfl rfl ?_
    refine x_bipush (v := 9) (q := 64) dX4_takeUp_62 rfl (by decide) ?_
    refine x_imul (q := 65) dX4_takeUp_64 rfl ?_
    refine x_iload (q := 67) dX4_takeUp_65 rfl rfl ?_
    refine x_iadd (q := 68) dX4_takeUp_67 rfl ?_
    refine x_aload_n (q := 69) dX4_takeUp_68 rfl rfl ?_
    refine x_iload (q := 71) dX4_takeUp_69 rfl rfl ?_
    refine x_aload_n (q := 72) dX4_takeUp_71 rfl rfl ?_
    refine x_getf (C := RX3) (T := TX3) (N := 10) (k := 0) (q := 75) hDd.1 (by omega) rfl hiX3 (by decide) (by decide +kernel) rfl dX4_takeUp_72 rfl ?_
    refine x_iload (q := 77) dX4_takeUp_75 rfl rfl ?_
    refine x_iadd (q := 78) dX4_takeUp_77 rfl ?_
    refine x_callV (q := 81) (ci := 8) (c_Told_price (p := q) (by omega) hS (vp_in_nI (by omega) (by decide))) eX4_takeUp_39 gX4_takeUp_X8_priceOf hS.1 (by omega) rfl rfl rfl (Nat.le_of_ble_eq_true rfl) ⟨Nat.le_refl _, Nat.le_refl _⟩ dX4_takeUp_78 rfl rfl (fun r78 M78 p78 => ?_)
    obtain ⟨rfl, rfl⟩ := p78
    refine x_iast (q := 82) h1 (by omega) (by rw [hix]; exact vp_in_nI (by omega) (by decide)) dX4_takeUp_81 rfl (fun M81 w81 o81 => ?_)
    refine x_iinc (L' := fun x5_82 => [(5, .int x5_82), (4, .int (nI a)), (0, .ref p), (1, .ref q), (2, .ref d), (3, .int (nI D))]) (q := 85) dX4_takeUp_82 rfl rfl (by decide) (fun _ => rfl) (fun x5_82 ex5_82 => ?_)
    obtain rfl : x5_82 = nI (i + 1) := ex5_82.trans (nI_1 i)
    refine x_goto (q := 47) dX4_takeUp_85 (by decide) ?_
    rw [hix, nI_clamp (by omega)] at w81
    have hh2 : ∀ j e, e < D → (j < a ∨ (j = a ∧ e < i + 1)) → upd h (9 * a + i) (tPrice τ (nI a) (δ 0 0 + nI i)) (9 * j + e) = tPrice τ (nI j) (δ 0 0 + nI e) := by
      intro j e he hj
      by_cases e9 : 9 * j + e = 9 * a + i
      · have e1 : j = a := by omega
        have e2 : e = i := by omega
        rw [e1, e2, pk_us]
      · rw [pk_un e9]
        exact hh j e he (by omega)
    refine x_pick (L' := [(5, .int (nI (i + 1))), (4, .int (nI a)), (0, .ref p), (1, .ref q), (2, .ref d), (3, .int (nI D))]) [0, 1, 2, 3, 4, 5] rfl ?_
    exact ih (i + 1) M81 _ (by omega) ((o81 _ (by omega)).trans hA) w81 ((o81 _ (by omega)).trans h2) hh2 (hS.keep (fun j h1 h2 => o81 j (by omega))) (hDd.keep (fun j h1 h2 => o81 j (by omega))) (fun j hj => (o81 j (by omega)).trans (hf j hj))

set_option maxHeartbeats 4000000 in
set_option maxRecDepth 100000 in
theorem l_Ma_tk2 {n p q d G D : Nat} {un : Int32} {w4 : Nat → Int32} {τ δ : Nat → Nat → Int32} {Q : Option Value → (Nat → xE) → Prop} {M0 : Nat → xE} (hpq : p + 3 ≤ q ∨ q + 11 ≤ p) (hpd : p + 3 ≤ d ∨ d + 4 ≤ p) (hp : p + 2 < n) (hq : q + 10 < n) (hd : d + 3 < n) (hG : G ≤ 5) (hD : D ≤ 9) (hQ : ∀ (M : Nat → xE) (h : Nat → Int32), M p = .inr (4, [.int un, .int (nI G), .int (nI D), .ref (p + 1), .ref (p + 2)]) → M (p + 1) = .inl (0, 45, .inl h) → M (p + 2) = .inl (0, 32, .inl w4) → (∀ j e, e < D → j < G → h (9 * j + e) = tPrice τ (nI j) (δ 0 0 + nI e)) → oX8 q τ M → oX3 d δ M → xfr p (p + 3) M0 M → Q none M) : ∀ (k i : Nat) (M : Nat → xE) (h : Nat → Int32), i + k = G → (M p = .inr (4, [.int un, .int (nI G), .int (nI D), .ref (p + 1), .ref (p + 2)])) → (M (p + 1) = .inl (0, 45, .inl h)) → (M (p + 2) = .inl (0, 32, .inl w4)) → (∀ j e, e < D → j < i → h (9 * j + e) = tPrice τ (nI j) (δ 0 0 + nI e)) → (oX8 q τ M) → (oX3 d δ M) → (xfr p (p + 3) M0 M) → X mX4_takeUp 0 0 35 [(4, .int (nI i)), (0, .ref p), (1, .ref q), (2, .ref d), (3, .int (nI D))] [] n M (Q) := by
  have hiX4 : ∀ w ∈ wsX40, w ∈ wsX4_takeUp := by decide +kernel
  intro k
  induction k with
  | zero =>
    intro i M h hik hA h1 h2 hh hS hDd hf
    refine x_iload (q := 37) dX4_takeUp_35 rfl rfl ?_
    refine x_aload_n (q := 38) dX4_takeUp_37 rfl rfl ?_
    refine x_getf (C := RX4) (T := TX4) (N := 5) (k := 1) (q := 41) hA (by omega) rfl hiX4 (by decide) (by decide +kernel) rfl dX4_takeUp_38 rfl ?_
    refine x_icmp_ge (t := 94) (q := 44) dX4_takeUp_41 (by decide) rfl (fun c41 => ?_) (fun c41 => absurd (by rw [show i = G by omega]; exact nI_le (Nat.le_refl _) (by omega)) c41)
    refine x_vret dX4_takeUp_94 rfl rfl (Nat.le_refl _) ?_
    have e9 : i = G := by omega
    subst e9
    exact hQ M h hA h1 h2 hh hS hDd hf
  | succ k ih =>
    intro i M h hik hA h1 h2 hh hS hDd hf
    refine x_iload (q := 37) dX4_takeUp_35 rfl rfl ?_
    refine x_aload_n (q := 38) dX4_takeUp_37 rfl rfl ?_
    refine x_getf (C := RX4) (T := TX4) (N := 5) (k := 1) (q := 41) hA (by omega) rfl hiX4 (by decide) (by decide +kernel) rfl dX4_takeUp_38 rfl ?_
    refine x_icmp_ge (t := 94) (q := 44) dX4_takeUp_41 (by decide) rfl (fun c41 => absurd c41 (nI_ge (a := i) (b := G) (by omega) (by omega))) (fun c41 => ?_)
    refine x_iconst (v := 0) (q := 45) dX4_takeUp_44 rfl (by decide) ?_
    refine x_istore (L' := fun x5_45 => [(5, .int x5_45), (4, .int (nI i)), (0, .ref p), (1, .ref q), (2, .ref d), (3, .int (nI D))]) (q := 47) dX4_takeUp_45 rfl (by decide) (fun _ => rfl) (fun x5_45 ex5_45 => ?_)
    subst ex5_45
    refine l_Ma_tk1 (a := i) (M0 := M0) hpq hpd hp hq hd hG hD (show i < G by omega) (fun M9 h9 g1 g2 g3 g4 g5 g6 g7 => ?_) D 0 M h (by omega) hA h1 h2 (fun j e he hj => hh j e he (by omega)) hS hDd hf
    refine x_iinc (L' := fun x4_88 => [(4, .int x4_88), (0, .ref p), (1, .ref q), (2, .ref d), (3, .int (nI D))]) (q := 91) dX4_takeUp_88 rfl rfl (by decide) (fun _ => rfl) (fun x4_88 ex4_88 => ?_)
    obtain rfl : x4_88 = nI (i + 1) := ex4_88.trans (nI_1 i)
    refine x_goto (q := 35) dX4_takeUp_91 (by decide) ?_
    refine x_pick (L' := [(4, .int (nI (i + 1))), (0, .ref p), (1, .ref q), (2, .ref d), (3, .int (nI D))]) [0, 1, 2, 3, 4] rfl ?_
    exact ih (i + 1) M9 _ (by omega) g1 g2 g3 g4 g5 g6 g7
    

set_option maxHeartbeats 4000000 in
set_option maxRecDepth 100000 in
theorem c_Ma_take {n : Nat} {M : Nat → xE} {p q d G D : Nat} {t τ δ : Nat → Nat → Int32} (hpq : p + 3 ≤ q ∨ q + 11 ≤ p) (hpd : p + 3 ≤ d ∨ d + 4 ≤ p) (hp : p + 2 < n) (hq : q + 10 < n) (hd : d + 3 < n) (hG : G ≤ 5) (hD : D ≤ 9) (h0 : τ 8 0 = nI G) (hT : oX4 p t M) (hS : oX8 q τ M) (hDd : oX3 d δ M) : xMet mX4_takeUp [.ref p, .ref q, .ref d, .int (nI D)] n M (fun r M' => none = r ∧ (∃ t', oX4 p t' M' ∧ t' 0 0 = nI (unS (δ 6 0) G) ∧ t' 1 0 = nI G ∧ t' 2 0 = nI D ∧ ∀ j, j < G → ∀ e, e < D → t' 3 (9 * j + e) = tPrice τ (nI j) (δ 0 0 + nI e)) ∧ xfr p (p + 3) M M') := by
  have hS0 := hS
  have hDd0 := hDd
  obtain ⟨tp0, tp1, tp2⟩ := hT
  obtain ⟨sp0, sp1, sp2, sp3, sp4, sp5, sp6, sp7, sp8, sp9, sp10⟩ := hS
  obtain ⟨dp0, dp1, dp2, dp3⟩ := hDd
  rw [h0] at sp0
  have hiX3 : ∀ w ∈ wsX30, w ∈ wsX4_takeUp := by decide +kernel
  have hiX4 : ∀ w ∈ wsX40, w ∈ wsX4_takeUp := by decide +kernel
  have hiX8 : ∀ w ∈ wsX80, w ∈ wsX4_takeUp := by decide +kernel
  refine xMet.of _ (by decide) rfl (Nat.le_of_ble_eq_true rfl) ?_
  refine x_aload_n (q := 1) dX4_takeUp_0 rfl rfl ?_
  refine x_aload_n (q := 2) dX4_takeUp_1 rfl rfl ?_
  refine x_getf (C := RX8) (T := TX8) (N := 15) (k := 8) (q := 5) sp0 (by omega) rfl hiX8 (by decide) (by decide +kernel) rfl dX4_takeUp_2 rfl ?_
  refine x_put (C := RX4) (T := TX4) (N := 5) (k := 1) (q := 8) (ty := .int) tyX4_ok nmX4 tp0 (by omega) rfl hiX4 (by decide) (by decide +kernel) rfl (by decide +kernel) (fun _ => rfl) (fun _ => rfl) (Nat.le_of_ble_eq_true rfl) dX4_takeUp_5 rfl (fun M5 w5 o5 => ?_)
  refine x_aload_n (q := 9) dX4_takeUp_8 rfl rfl ?_
  refine x_iload_n (q := 10) dX4_takeUp_9 rfl rfl ?_
  refine x_put (C := RX4) (T := TX4) (N := 5) (k := 2) (q := 13) (ty := .int) tyX4_ok nmX4 w5 (by omega) rfl hiX4 (by decide) (by decide +kernel) rfl (by decide +kernel) (fun _ => rfl) (fun _ => rfl) (Nat.le_of_ble_eq_true rfl) dX4_takeUp_10 rfl (fun M10 w10 o10 => ?_)
  refine x_aload_n (q := 14) dX4_takeUp_13 rfl rfl ?_
  refine x_iconst (v := 1) (q := 15) dX4_takeUp_14 rfl (by decide) ?_
  refine x_aload_n (q := 16) dX4_takeUp_15 rfl rfl ?_
  refine x_getf (C := RX4) (T := TX4) (N := 5) (k := 1) (q := 19) w10 (by omega) rfl hiX4 (by decide) (by decide +kernel) rfl dX4_takeUp_16 rfl ?_
  refine x_ishl (q := 20) dX4_takeUp_19 rfl ?_
  refine x_iconst (v := 1) (q := 21) dX4_takeUp_20 rfl (by decide) ?_
  refine x_isub (q := 22) dX4_takeUp_21 rfl ?_
  refine x_aload_n (q := 23) dX4_takeUp_22 rfl rfl ?_
  have hv2_1_d := ((o10 (d) (by omega)).trans ((o5 (d) (by omega)).trans dp0))
  refine x_getf (C := RX3) (T := TX3) (N := 10) (k := 6) (q := 26) hv2_1_d (by omega) rfl hiX3 (by decide) (by decide +kernel) rfl dX4_takeUp_23 rfl ?_
  refine x_iconst (v := -1) (q := 27) dX4_takeUp_26 rfl (by decide) ?_
  refine x_ixor (q := 28) dX4_takeUp_27 rfl ?_
  refine x_iand (q := 29) dX4_takeUp_28 rfl ?_
  refine x_put (C := RX4) (T := TX4) (N := 5) (k := 0) (q := 32) (ty := .int) tyX4_ok nmX4 w10 (by omega) rfl hiX4 (by decide) (by decide +kernel) rfl (by decide +kernel) (fun _ => rfl) (fun _ => rfl) (Nat.le_of_ble_eq_true rfl) dX4_takeUp_29 rfl (fun M29 w29 o29 => ?_)
  refine x_iconst (v := 0) (q := 33) dX4_takeUp_32 rfl (by decide) ?_
  refine x_istore (L' := fun x4_33 => [(4, .int x4_33), (0, .ref p), (1, .ref q), (2, .ref d), (3, .int (nI D))]) (q := 35) dX4_takeUp_33 rfl (by decide) (fun _ => rfl) (fun x4_33 ex4_33 => ?_)
  subst ex4_33
  have hv3_2_p1 := ((o29 (p + 1) (by omega)).trans ((o10 (p + 1) (by omega)).trans ((o5 (p + 1) (by omega)).trans tp1)))
  have hv3_3_p2 := ((o29 (p + 2) (by omega)).trans ((o10 (p + 2) (by omega)).trans ((o5 (p + 2) (by omega)).trans tp2)))
  have w30 : M29 p = .inr (4, [.int (nI (unS (δ 6 0) G)), .int (nI G), .int (nI D), .ref (p + 1), .ref (p + 2)]) := by rw [w29, ← unS_eq (δ 6 0) hG]; rfl
  exact l_Ma_tk2 (M0 := M) hpq hpd hp hq hd hG hD (fun M h g1 g2 g3 g4 g5 g6 g7 => ⟨rfl, ⟨fun k => if k = 0 then (fun _ => nI (unS (δ 6 0) G)) else if k = 1 then (fun _ => nI G) else if k = 2 then (fun _ => nI D) else if k = 3 then h else t 4, ⟨g1, g2, g3⟩, rfl, rfl, rfl, fun j hj e he => g4 j e he hj⟩, g7⟩) G 0 M29 (t 3) (by omega) w30 hv3_2_p1 hv3_3_p2 (fun j e he hj => absurd hj (by omega)) (hS0.keep (fun j h1 h2 => ((o29 j (by omega)).trans ((o10 j (by omega)).trans ((o5 j (by omega)).trans rfl))))) (hDd0.keep (fun j h1 h2 => ((o29 j (by omega)).trans ((o10 j (by omega)).trans ((o5 j (by omega)).trans rfl))))) (fun j hj => ((o29 j (by omega)).trans ((o10 j (by omega)).trans ((o5 j (by omega)).trans rfl))))

