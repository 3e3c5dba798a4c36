def oI (o : Option Nat) : Int32 := o.elim (-1) nI
def fdk (pr : Nat → Nat → Nat) (G D g R T : Nat) (goal : Int32) : Nat → Nat → Option Nat
  | 0, _ => none
  | k + 1, d => if T.testBit d = false ∧ ¬ (nI (pr g d) + nI (msk pr G (T ||| 2 ^ d) D R) < goal) then some d else fdk pr G D g R T goal k (d + 1)
def fday (pr : Nat → Nat → Nat) (G D g R T : Nat) (goal : Int32) : Option Nat := if nI (msk pr G T D R) < goal then fdk pr G D g R T goal D 0 else none
theorem fdk_lt {pr : Nat → Nat → Nat} {G D g R T : Nat} {goal : Int32} : ∀ k d e, fdk pr G D g R T goal k d = some e → e < d + k
  | 0, d, e, h => by cases h
  | k + 1, d, e, h => by
    rw [fdk] at h
    split at h
    · cases h; omega
    · have := fdk_lt k (d + 1) e h; omega
theorem fday_lt {pr : Nat → Nat → Nat} {G D g R T : Nat} {goal : Int32} {e : Nat} (h : fday pr G D g R T goal = some e) : e < D := by
  unfold fday at h
  split at h
  · have := fdk_lt D 0 e h; omega
  · cases h
def dok (pr : Nat → Nat → Nat) (G D U : Nat) : Nat → Nat → Int32 → Nat → Nat → Option Nat → Option Nat
  | 0, _, _, _, _, f => f
  | k + 1, g, goal, R, T, _ => if U.testBit g then (fday pr G D g (R - 2 ^ g) T goal).elim (dok pr G D U k (g + 1) goal (R - 2 ^ g) T none) (fun d => dok pr G D U k (g + 1) (goal - nI (pr g d)) (R - 2 ^ g) (T ||| 2 ^ d) (some d)) else dok pr G D U k (g + 1) goal R T none
def subT (R g h : Nat) : Bool := !(R.testBit g && decide (g < h)) || ((R - 2 ^ g).testBit h == R.testBit h)
theorem subT_ok : ∀ R, R < 32 → ∀ g, g < 5 → ∀ h, h < 5 → subT R g h = true := by decide +kernel
theorem sub_tb {R g h : Nat} (hR : R < 32) (hg : g < 5) (hh : h < 5) (h1 : R.testBit g = true) (h2 : g < h) : (R - 2 ^ g).testBit h = R.testBit h := by
  have h9 := subT_ok R hR g hg h hh
  unfold subT at h9
  rw [h1, decide_eq_true h2] at h9
  simpa using h9
theorem bo_0 {a k : Nat} (hk : k < 31) : bo (nI a) (nI k) = 0 ↔ a.testBit k = false := by
  rw [bo_nI hk]
  by_cases h : a.testBit k = true
  · rw [if_pos h, h]; decide
  · rw [if_neg h]; simp [h]
set_option maxHeartbeats 4000000 in
set_option maxRecDepth 100000 in
theorem l_Ma_fd {n p g R T G D : Nat} {goal : Int32} {t : Nat → Nat → Int32} {pr : Nat → Nat → Nat} {Q : Option Value → (Nat → xE) → Prop} {M0 : Nat → xE} (hp : p + 2 < n) (hD9 : D ≤ 9) (hG : G ≤ 5) (hg : g < G) (hG0 : t 1 0 = nI G) (hD0 : t 2 0 = nI D) (hR : R < 32) (hpr : ∀ j, j < G → ∀ d, d < D → t 3 (9 * j + d) = nI (pr j d) ∧ pr j d ≤ 20000) : ∀ (k i : Nat) (M : Nat → xE) (h : Nat → Int32), i + k = D → (oX4 p (fun k => if k = 4 then h else t k) M) → (xfr p (p + 3) M0 M) → (∀ (M : Nat → xE) (h : Nat → Int32), oX4 p (fun k => if k = 4 then h else t k) M → xfr p (p + 3) M0 M → Q (some (.int (oI (fdk pr G D g R T goal k i)))) M) → X mX4_firstDay 0 0 16 [(5, .int (nI i)), (0, .ref p), (1, .int (nI g)), (2, .int goal), (3, .int (nI R)), (4, .int (nI T))] [] n M (Q) := by
  have hiX4 : ∀ w ∈ wsX40, w ∈ wsX4_firstDay := by decide +kernel
  intro k
  induction k with
  | zero =>
    intro i M h hik hT hf hQ
    have hT0 := hT
    obtain ⟨tp0, tp1, tp2⟩ := hT
    have tp0 : M p = .inr (4, [.int (t 0 0), .int (t 1 0), .int (nI D), .ref (p + 1), .ref (p + 2)]) := by rw [tp0, ← hD0]; rfl
    have hix : nI g * 9 + nI i = nI (9 * g + i) := by rw [show (9 : Int32) = nI 9 from rfl, pk_mul, nI_add, Nat.mul_comm]
    refine x_iload (q := 18) dX4_firstDay_16 rfl rfl ?_
    refine x_aload_n (q := 19) dX4_firstDay_18 rfl rfl ?_
    refine x_getf (C := RX4) (T := TX4) (N := 5) (k := 2) (q := 22) tp0 (by omega) rfl hiX4 (by decide) (by decide +kernel) rfl dX4_firstDay_19 rfl ?_
    refine x_icmp_ge (t := 77) (q := 25) dX4_firstDay_22 (by decide) rfl (fun c22 => ?_) (fun c22 => absurd (by rw [show i = D by omega]; exact nI_le (Nat.le_refl _) (by omega)) c22)
    refine x_iconst (v := -1) (q := 78) dX4_firstDay_77 rfl (by decide) ?_
    refine x_iret dX4_firstDay_78 rfl rfl (Nat.le_refl _) ?_
    exact hQ M h hT0 hf
  | succ k ih =>
    intro i M h hik hT hf hQ
    have hT0 := hT
    obtain ⟨tp0, tp1, tp2⟩ := hT
    have tp0 : M p = .inr (4, [.int (t 0 0), .int (t 1 0), .int (nI D), .ref (p + 1), .ref (p + 2)]) := by rw [tp0, ← hD0]; rfl
    have hix : nI g * 9 + nI i = nI (9 * g + i) := by rw [show (9 : Int32) = nI 9 from rfl, pk_mul, nI_add, Nat.mul_comm]
    refine x_iload (q := 18) dX4_firstDay_16 rfl rfl ?_
    refine x_aload_n (q := 19) dX4_firstDay_18 rfl rfl ?_
    refine x_getf (C := RX4) (T := TX4) (N := 5) (k := 2) (q := 22) tp0 (by omega) rfl hiX4 (by decide) (by decide +kernel) rfl dX4_firstDay_19 rfl ?_
    refine x_icmp_ge (t := 77) (q := 25) dX4_firstDay_22 (by decide) rfl (fun c22 => absurd c22 (nI_ge (a := i) (b := D) (by omega) (by omega))) (fun c22 => ?_)
    refine x_aload_n (q := 26) dX4_firstDay_25 rfl rfl ?_
    refine x_getf (C := RX4) (T := TX4) (N := 5) (k := 3) (q := 29) tp0 (by omega) rfl hiX4 (by decide) (by decide +kernel) rfl dX4_firstDay_26 rfl ?_
    refine x_iload_n (q := 30) dX4_firstDay_29 rfl rfl ?_
    refine x_bipush (v := 9) (q := 32) dX4_firstDay_30 rfl (by decide) ?_
    refine x_imul (q := 33) dX4_firstDay_32 rfl ?_
    refine x_iload (q := 35) dX4_firstDay_33 rfl rfl ?_
    refine x_iadd (q := 36) dX4_firstDay_35 rfl ?_
    refine x_iald (q := 37) tp1 (by omega) (by rw [hix]; exact vp_in_nI (by omega) (by decide)) dX4_firstDay_36 rfl ?_
    refine x_istore (L' := fun x6_37 => [(6, .int x6_37), (5, .int (nI i)), (0, .ref p), (1, .int (nI g)), (2, .int goal), (3, .int (nI R)), (4, .int (nI T))]) (q := 39) dX4_firstDay_37 rfl (by decide) (fun _ => rfl) (fun x6_37 ex6_37 => ?_)
    obtain rfl : x6_37 = nI (pr g i) := ex6_37.trans (by rw [hix, nI_clamp (by omega)]; exact (hpr g hg i (by omega)).1)
    refine x_iload (q := 41) dX4_firstDay_39 rfl rfl ?_
    refine x_iload (q := 43) dX4_firstDay_41 rfl rfl ?_
    refine x_callSN (q := 46) c_bitOf eX4_firstDay_49 gX4_firstDay_X10_bitOf_n49 (by decide) (by decide +kernel) (by decide +kernel) rfl (Nat.le_of_ble_eq_true rfl) ⟨Nat.le_refl _, Nat.le_refl _⟩ dX4_firstDay_43 rfl rfl (fun r43 M43 p43 => ?_)
    obtain ⟨rfl, rfl⟩ := p43
    refine x_if_ne (t := 71) (q := 49) dX4_firstDay_46 (by decide) rfl (fun c46 => ?_) (fun c46 => ?_)
    · refine x_iinc (L' := fun x5_71 => [(5, .int x5_71), (6, .int (nI (pr g i))), (0, .ref p), (1, .int (nI g)), (2, .int goal), (3, .int (nI R)), (4, .int (nI T))]) (q := 74) dX4_firstDay_71 rfl rfl (by decide) (fun _ => rfl) (fun x5_71 ex5_71 => ?_)
      obtain rfl : x5_71 = nI (i + 1) := ex5_71.trans (nI_1 i)
      refine x_goto (q := 16) dX4_firstDay_74 (by decide) ?_
      rw [fdk, if_neg (fun h => absurd ((bo_0 (by omega)).mpr h.1) c46)] at hQ
      refine x_pick (L' := [(5, .int (nI (i + 1))), (0, .ref p), (1, .int (nI g)), (2, .int goal), (3, .int (nI R)), (4, .int (nI T))]) [0, 2, 3, 4, 5, 6] rfl ?_
      exact ih (i + 1) M h (by omega) hT0 hf hQ
    · refine x_iload (q := 51) dX4_firstDay_49 rfl rfl ?_
      refine x_aload_n (q := 52) dX4_firstDay_51 rfl rfl ?_
      refine x_iload_n (q := 53) dX4_firstDay_52 rfl rfl ?_
      refine x_iload (q := 55) dX4_firstDay_53 rfl rfl ?_
      refine x_iconst (v := 1) (q := 56) dX4_firstDay_55 rfl (by decide) ?_
      refine x_iload (q := 58) dX4_firstDay_56 rfl rfl ?_
      refine x_ishl (q := 59) dX4_firstDay_58 rfl ?_
      refine x_ior (q := 60) dX4_firstDay_59 rfl ?_
      rw [show nI T ||| (1 : Int32) <<< (nI i &&& 31) = nI (T ||| 2 ^ i) by rw [xshl1 i (by omega), fa_or]]
      refine x_callV (q := 63) (ci := 4) (c_Ma_of (t := (fun k => if k = 4 then h else t k)) (pr := pr) (S := R) (T := T ||| 2 ^ i) hp hD9 hG hG0 hD0 hR hpr hT0) eX4_firstDay_60 gX4_firstDay_X4_mostOf tp0 (by omega) rfl rfl rfl (Nat.le_of_ble_eq_true rfl) ⟨Nat.le_refl _, Nat.le_refl _⟩ dX4_firstDay_60 rfl rfl (fun r60 M60 p60 => ?_)
      obtain ⟨rfl, ⟨h60, hV60⟩, fr60⟩ := p60
      have hU60 : oX4 p (fun k => if k = 4 then h60 else t k) M60 := hV60
      obtain ⟨y60_0, y60_1, y60_2⟩ := hV60
      refine x_iadd (q := 64) dX4_firstDay_63 rfl ?_
      refine x_iload_n (q := 65) dX4_firstDay_64 rfl rfl ?_
      refine x_icmp_lt (t := 71) (q := 68) dX4_firstDay_65 (by decide) rfl (fun c65 => ?_) (fun c65 => ?_)
      · refine x_iinc (L' := fun x5_71 => [(5, .int x5_71), (6, .int (nI (pr g i))), (0, .ref p), (1, .int (nI g)), (2, .int goal), (3, .int (nI R)), (4, .int (nI T))]) (q := 74) dX4_firstDay_71 rfl rfl (by decide) (fun _ => rfl) (fun x5_71 ex5_71 => ?_)
        obtain rfl : x5_71 = nI (i + 1) := ex5_71.trans (nI_1 i)
        refine x_goto (q := 16) dX4_firstDay_74 (by decide) ?_
        rw [fdk, if_neg (fun h => h.2 c65)] at hQ
        refine x_pick (L' := [(5, .int (nI (i + 1))), (0, .ref p), (1, .int (nI g)), (2, .int goal), (3, .int (nI R)), (4, .int (nI T))]) [0, 2, 3, 4, 5, 6] rfl ?_
        exact ih (i + 1) M60 h60 (by omega) hU60 (fun j hj => (fr60 j hj).trans (hf j hj)) hQ
      · refine x_iload (q := 70) dX4_firstDay_68 rfl rfl ?_
        refine x_iret dX4_firstDay_70 rfl rfl (Nat.le_refl _) ?_
        rw [fdk, if_pos ⟨(bo_0 (by omega)).mp c46, c65⟩] at hQ
        exact hQ M60 h60 hU60 (fun j hj => (fr60 j hj).trans (hf j hj))

set_option maxHeartbeats 4000000 in
set_option maxRecDepth 100000 in
theorem c_Ma_fd {n : Nat} {M : Nat → xE} {p g R T G D : Nat} {goal : Int32} {t : Nat → Nat → Int32} {pr : Nat → Nat → Nat} (hp : p + 2 < n) (hD9 : D ≤ 9) (hG : G ≤ 5) (hg : g < G) (hG0 : t 1 0 = nI G) (hD0 : t 2 0 = nI D) (hR : R < 32) (hpr : ∀ j, j < G → ∀ d, d < D → t 3 (9 * j + d) = nI (pr j d) ∧ pr j d ≤ 20000) {h : Nat → Int32} (hT : oX4 p (fun k => if k = 4 then h else t k) M) : xMet mX4_firstDay [.ref p, .int (nI g), .int goal, .int (nI R), .int (nI T)] n M (fun r M' => some (.int (oI (fday pr G D g R T goal))) = r ∧ (∃ h, oX4 p (fun k => if k = 4 then h else t k) M') ∧ xfr p (p + 3) M M') := by
  have hT0 := hT
  obtain ⟨tp0, tp1, tp2⟩ := hT
  refine xMet.of _ (by decide) rfl (Nat.le_of_ble_eq_true rfl) ?_
  refine x_aload_n (q := 1) dX4_firstDay_0 rfl rfl ?_
  refine x_iload_n (q := 2) dX4_firstDay_1 rfl rfl ?_
  refine x_iload (q := 4) dX4_firstDay_2 rfl rfl ?_
  refine x_callV (q := 7) (ci := 4) (c_Ma_of (t := (fun k => if k = 4 then h else t k)) (pr := pr) (S := R) (T := T) hp hD9 hG hG0 hD0 hR hpr hT0) eX4_firstDay_60 gX4_firstDay_X4_mostOf tp0 (by omega) rfl rfl rfl (Nat.le_of_ble_eq_true rfl) ⟨Nat.le_refl _, Nat.le_refl _⟩ dX4_firstDay_4 rfl rfl (fun r4 M4 p4 => ?_)
  obtain ⟨rfl, ⟨h4, hV4⟩, fr4⟩ := p4
  have hU4 : oX4 p (fun k => if k = 4 then h4 else t k) M4 := hV4
  obtain ⟨y4_0, y4_1, y4_2⟩ := hV4
  refine x_iload_n (q := 8) dX4_firstDay_7 rfl rfl ?_
  refine x_icmp_lt (t := 13) (q := 11) dX4_firstDay_8 (by decide) rfl (fun c8 => ?_) (fun c8 => ?_)
  · refine x_iconst (v := 0) (q := 14) dX4_firstDay_13 rfl (by decide) ?_
    refine x_istore (L' := fun x5_14 => [(5, .int x5_14), (0, .ref p), (1, .int (nI g)), (2, .int goal), (3, .int (nI R)), (4, .int (nI T))]) (q := 16) dX4_firstDay_14 rfl (by decide) (fun _ => rfl) (fun x5_14 ex5_14 => ?_)
    subst ex5_14
    exact l_Ma_fd (M0 := M) hp hD9 hG hg hG0 hD0 hR hpr D 0 M4 h4 (by omega) hU4 fr4 (fun M h h1 h2 => ⟨by unfold fday; rw [if_pos c8], ⟨h, h1⟩, h2⟩)
  · refine x_iconst (v := -1) (q := 12) dX4_firstDay_11 rfl (by decide) ?_
    refine x_iret dX4_firstDay_12 rfl rfl (Nat.le_refl _) ?_
    exact ⟨by unfold fday; rw [if_neg c8]; rfl, ⟨h4, hU4⟩, fr4⟩

theorem oI_some (d : Nat) : oI (some d) = nI d := rfl
theorem oI_m1 {o : Option Nat} (h : ∀ d, o = some d → d < 2 ^ 31) : oI o = -1 ↔ o = none := by
  cases o with
  | none => exact ⟨fun _ => rfl, fun _ => rfl⟩
  | some d =>
    refine ⟨fun e => ?_, fun e => by cases e⟩
    have h1 : (nI d).toInt = -1 := by rw [show nI d = -1 from e]; rfl
    rw [nI_toInt (h d rfl)] at h1
    omega
set_option maxHeartbeats 4000000 in
set_option maxRecDepth 100000 in
theorem l_Ma_day {n p A G D U : Nat} {t : Nat → Nat → Int32} {pr : Nat → Nat → Nat} {Q : Option Value → (Nat → xE) → Prop} {M0 : Nat → xE} (hp : p + 2 < n) (hD9 : D ≤ 9) (hG : G ≤ 5) (hA : A < G) (hU0 : t 0 0 = nI U) (hU : U < 32) (hG0 : t 1 0 = nI G) (hD0 : t 2 0 = nI D) (hpr : ∀ j, j < G → ∀ d, d < D → t 3 (9 * j + d) = nI (pr j d) ∧ pr j d ≤ 20000) : ∀ (k i : Nat) (M : Nat → xE) (h : Nat → Int32) (fo : Option Nat) (T : Nat) (R : Nat) (goal : Int32), i + k = A + 1 → (oX4 p (fun k => if k = 4 then h else t k) M) → (R < 32) → (∀ j, i ≤ j → j < 5 → R.testBit j = U.testBit j) → (xfr p (p + 3) M0 M) → (∀ (M : Nat → xE) (h : Nat → Int32), oX4 p (fun k => if k = 4 then h else t k) M → xfr p (p + 3) M0 M → Q (some (.int (oI (dok pr G D U k i goal R T fo)))) M) → X mX4_dayOf 0 0 24 [(6, .int (nI i)), (5, .int (oI fo)), (4, .int (nI T)), (3, .int (nI R)), (2, .int goal), (0, .ref p), (1, .int (nI A))] [] n M (Q) := by
  have hiX4 : ∀ w ∈ wsX40, w ∈ wsX4_dayOf := by decide +kernel
  intro k
  induction k with
  | zero =>
    intro i M h fo T R goal hik hT hR hRU hf hQ
    have hT0 := hT
    obtain ⟨tp0, tp1, tp2⟩ := hT
    have tp0 : M p = .inr (4, [.int (nI U), .int (nI G), .int (t 2 0), .ref (p + 1), .ref (p + 2)]) := by rw [tp0, ← hU0, ← hG0]; rfl
    refine x_iload (q := 26) dX4_dayOf_24 rfl rfl ?_
    refine x_iload_n (q := 27) dX4_dayOf_26 rfl rfl ?_
    refine x_icmp_gt (t := 111) (q := 30) dX4_dayOf_27 (by decide) rfl (fun c27 => ?_) (fun c27 => absurd (nI_lt (show A < i by omega) (by omega)) c27)
    refine x_iload (q := 113) dX4_dayOf_111 rfl rfl ?_
    refine x_iret dX4_dayOf_113 rfl rfl (Nat.le_refl _) ?_
    exact hQ M h hT0 hf
  | succ k ih =>
    intro i M h fo T R goal hik hT hR hRU hf hQ
    have hT0 := hT
    obtain ⟨tp0, tp1, tp2⟩ := hT
    have tp0 : M p = .inr (4, [.int (nI U), .int (nI G), .int (t 2 0), .ref (p + 1), .ref (p + 2)]) := by rw [tp0, ← hU0, ← hG0]; rfl
    refine x_iload (q := 26) dX4_dayOf_24 rfl rfl ?_
    refine x_iload_n (q := 27) dX4_dayOf_26 rfl rfl ?_
    refine x_icmp_gt (t := 111) (q := 30) dX4_dayOf_27 (by decide) rfl (fun c27 => absurd c27 (nI_nlt (show i ≤ A by omega) (by omega))) (fun c27 => ?_)
    refine x_iload (q := 32) dX4_dayOf_30 rfl rfl ?_
    refine x_aload_n (q := 33) dX4_dayOf_32 rfl rfl ?_
    refine x_getf (C := RX4) (T := TX4) (N := 5) (k := 1) (q := 36) tp0 (by omega) rfl hiX4 (by decide) (by decide +kernel) rfl dX4_dayOf_33 rfl ?_
    refine x_icmp_ge (t := 111) (q := 39) dX4_dayOf_36 (by decide) rfl (fun c36 => absurd c36 (nI_ge (a := i) (b := G) (by omega) (by omega))) (fun c36 => ?_)
    refine x_iconst (v := -1) (q := 40) dX4_dayOf_39 rfl (by decide) ?_
    refine x_istore (L' := fun x5_40 => [(5, .int x5_40), (6, .int (nI i)), (4, .int (nI T)), (3, .int (nI R)), (2, .int goal), (0, .ref p), (1, .int (nI A))]) (q := 42) dX4_dayOf_40 rfl (by decide) (fun _ => rfl) (fun x5_40 ex5_40 => ?_)
    obtain rfl : x5_40 = -1 := ex5_40
    refine x_aload_n (q := 43) dX4_dayOf_42 rfl rfl ?_
    refine x_getf (C := RX4) (T := TX4) (N := 5) (k := 0) (q := 46) tp0 (by omega) rfl hiX4 (by decide) (by decide +kernel) rfl dX4_dayOf_43 rfl ?_
    refine x_iload (q := 48) dX4_dayOf_46 rfl rfl ?_
    refine x_callSN (q := 51) c_bitOf eX4_dayOf_49 gX4_dayOf_X10_bitOf_n49 (by decide) (by decide +kernel) (by decide +kernel) rfl (Nat.le_of_ble_eq_true rfl) ⟨Nat.le_refl _, Nat.le_refl _⟩ dX4_dayOf_48 rfl rfl (fun r48 M48 p48 => ?_)
    obtain ⟨rfl, rfl⟩ := p48
    refine x_iconst (v := 1) (q := 52) dX4_dayOf_51 rfl (by decide) ?_
    have hbit : bo (nI U) (nI i) = 1 ↔ U.testBit i = true := bo_1 (by omega)
    refine x_icmp_ne (t := 74) (q := 55) dX4_dayOf_52 (by decide) rfl (fun c52 => ?_) (fun c52 => ?_)
    · refine x_iload (q := 76) dX4_dayOf_74 rfl rfl ?_
      refine x_iconst (v := -1) (q := 77) dX4_dayOf_76 rfl (by decide) ?_
      refine x_icmp_eq (t := 105) (q := 80) dX4_dayOf_77 (by decide) rfl (fun c77 => ?_) (fun c77 => absurd c77 (by decide))
      refine x_iinc (L' := fun x6_105 => [(6, .int x6_105), (5, .int (-1)), (4, .int (nI T)), (3, .int (nI R)), (2, .int goal), (0, .ref p), (1, .int (nI A))]) (q := 108) dX4_dayOf_105 rfl rfl (by decide) (fun _ => rfl) (fun x6_105 ex6_105 => ?_)
      obtain rfl : x6_105 = nI (i + 1) := ex6_105.trans (nI_1 i)
      refine x_goto (q := 24) dX4_dayOf_108 (by decide) ?_
      rw [dok, if_neg (fun h => c52 (hbit.mpr h))] at hQ
      refine x_pick (L' := [(6, .int (nI (i + 1))), (5, .int (oI none)), (4, .int (nI T)), (3, .int (nI R)), (2, .int goal), (0, .ref p), (1, .int (nI A))]) [0, 1, 2, 3, 4, 5, 6] rfl ?_
      exact ih (i + 1) M h none T R goal (by omega) hT0 hR (fun j h1 h2 => hRU j (by omega) h2) hf hQ
    · have hb2 : U.testBit i = true := hbit.mp c52
      have hRb : R.testBit i = true := (hRU i (Nat.le_refl _) (by omega)).trans hb2
      have hge : 2 ^ i ≤ R := sub_lt hRb
      have hlt : R - 2 ^ i < 32 := Nat.lt_of_le_of_lt (Nat.sub_le _ _) hR
      refine x_iload_n (q := 56) dX4_dayOf_55 rfl rfl ?_
      refine x_iconst (v := 1) (q := 57) dX4_dayOf_56 rfl (by decide) ?_
      refine x_iload (q := 59) dX4_dayOf_57 rfl rfl ?_
      refine x_ishl (q := 60) dX4_dayOf_59 rfl ?_
      refine x_isub (q := 61) dX4_dayOf_60 rfl ?_
      refine x_istore_n (L' := fun x3_61 => [(3, .int x3_61), (5, .int (-1)), (6, .int (nI i)), (4, .int (nI T)), (2, .int goal), (0, .ref p), (1, .int (nI A))]) (q := 62) dX4_dayOf_61 rfl (by decide) (fun _ => rfl) (fun x3_61 ex3_61 => ?_)
      obtain rfl : x3_61 = nI (R - 2 ^ i) := ex3_61.trans (by rw [xshl1 i (by omega)]; exact pk_sub hge)
      refine x_aload_n (q := 63) dX4_dayOf_62 rfl rfl ?_
      refine x_iload (q := 65) dX4_dayOf_63 rfl rfl ?_
      refine x_iload_n (q := 66) dX4_dayOf_65 rfl rfl ?_
      refine x_iload_n (q := 67) dX4_dayOf_66 rfl rfl ?_
      refine x_iload (q := 69) dX4_dayOf_67 rfl rfl ?_
      refine x_callV (q := 72) (ci := 4) (c_Ma_fd (pr := pr) (R := R - 2 ^ i) (T := T) hp hD9 hG (by omega) hG0 hD0 hlt hpr hT0) eX4_dayOf_63 gX4_dayOf_X4_firstDay tp0 (by omega) rfl rfl rfl (Nat.le_of_ble_eq_true rfl) ⟨Nat.le_refl _, Nat.le_refl _⟩ dX4_dayOf_69 rfl rfl (fun r69 M69 p69 => ?_)
      obtain ⟨rfl, ⟨h69, hV69⟩, fr69⟩ := p69
      have hU69 : oX4 p (fun k => if k = 4 then h69 else t k) M69 := hV69
      obtain ⟨y69_0, y69_1, y69_2⟩ := hV69
      refine x_istore (L' := fun x5_72 => [(5, .int x5_72), (3, .int (nI (R - 2 ^ i))), (6, .int (nI i)), (4, .int (nI T)), (2, .int goal), (0, .ref p), (1, .int (nI A))]) (q := 74) dX4_dayOf_72 rfl (by decide) (fun _ => rfl) (fun x5_72 ex5_72 => ?_)
      obtain rfl : x5_72 = oI (fday pr G D i (R - 2 ^ i) T goal) := ex5_72
      refine x_iload (q := 76) dX4_dayOf_74 rfl rfl ?_
      refine x_iconst (v := -1) (q := 77) dX4_dayOf_76 rfl (by decide) ?_
      refine x_icmp_eq (t := 105) (q := 80) dX4_dayOf_77 (by decide) rfl (fun c77 => ?_) (fun c77 => ?_)
      · refine x_iinc (L' := fun x6_105 => [(6, .int x6_105), (5, .int (oI (fday pr G D i (R - 2 ^ i) T goal))), (3, .int (nI (R - 2 ^ i))), (4, .int (nI T)), (2, .int goal), (0, .ref p), (1, .int (nI A))]) (q := 108) dX4_dayOf_105 rfl rfl (by decide) (fun _ => rfl) (fun x6_105 ex6_105 => ?_)
        obtain rfl : x6_105 = nI (i + 1) := ex6_105.trans (nI_1 i)
        refine x_goto (q := 24) dX4_dayOf_108 (by decide) ?_
        have hfo : fday pr G D i (R - 2 ^ i) T goal = none := (oI_m1 (fun d hd => by have := fday_lt hd; omega)).mp c77
        rw [dok, if_pos hb2, hfo] at hQ
        rw [hfo]
        refine x_pick (L' := [(6, .int (nI (i + 1))), (5, .int (oI none)), (4, .int (nI T)), (3, .int (nI (R - 2 ^ i))), (2, .int goal), (0, .ref p), (1, .int (nI A))]) [0, 1, 3, 2, 4, 5, 6] rfl ?_
        exact ih (i + 1) M69 h69 none T (R - 2 ^ i) goal (by omega) hU69 hlt (fun j h1 h2 => (sub_tb hR (by omega) (by omega) hRb (by omega)).trans (hRU j (by omega) h2)) (fun j hj => (fr69 j hj).trans (hf j hj)) hQ
      · obtain ⟨dd, hfo⟩ : ∃ dd, fday pr G D i (R - 2 ^ i) T goal = some dd := by
          cases hq : fday pr G D i (R - 2 ^ i) T goal with
          | none => exact absurd (by rw [hq]; rfl) c77
          | some d => exact ⟨d, rfl⟩
        have hdd := fday_lt hfo
        rw [hfo, oI_some]
        have hix : nI i * 9 + nI dd = nI (9 * i + dd) := by rw [show (9 : Int32) = nI 9 from rfl, pk_mul, nI_add, Nat.mul_comm]
        refine x_iload_n (q := 81) dX4_dayOf_80 rfl rfl ?_
        refine x_aload_n (q := 82) dX4_dayOf_81 rfl rfl ?_
        refine x_getf (C := RX4) (T := TX4) (N := 5) (k := 3) (q := 85) y69_0 (by omega) rfl hiX4 (by decide) (by decide +kernel) rfl dX4_dayOf_82 rfl ?_
        refine x_iload (q := 87) dX4_dayOf_85 rfl rfl ?_
        refine x_bipush (v := 9) (q := 89) dX4_dayOf_87 rfl (by decide) ?_
        refine x_imul (q := 90) dX4_dayOf_89 rfl ?_
        refine x_iload (q := 92) dX4_dayOf_90 rfl rfl ?_
        refine x_iadd (q := 93) dX4_dayOf_92 rfl ?_
        refine x_iald (q := 94) y69_1 (by omega) (by rw [hix]; exact vp_in_nI (by omega) (by decide)) dX4_dayOf_93 rfl ?_
        refine x_isub (q := 95) dX4_dayOf_94 rfl ?_
        refine x_istore_n (L' := fun x2_95 => [(2, .int x2_95), (5, .int (nI dd)), (3, .int (nI (R - 2 ^ i))), (6, .int (nI i)), (4, .int (nI T)), (0, .ref p), (1, .int (nI A))]) (q := 96) dX4_dayOf_95 rfl (by decide) (fun _ => rfl) (fun x2_95 ex2_95 => ?_)
        obtain rfl : x2_95 = goal - nI (pr i dd) := ex2_95.trans (by rw [hix, nI_clamp (by omega)]; exact congrArg (fun x => goal - x) (hpr i (by omega) dd hdd).1)
        refine x_iload (q := 98) dX4_dayOf_96 rfl rfl ?_
        refine x_iconst (v := 1) (q := 99) dX4_dayOf_98 rfl (by decide) ?_
        refine x_iload (q := 101) dX4_dayOf_99 rfl rfl ?_
        refine x_ishl (q := 102) dX4_dayOf_101 rfl ?_
        refine x_ior (q := 103) dX4_dayOf_102 rfl ?_
        refine x_istore (L' := fun x4_103 => [(4, .int x4_103), (2, .int (goal - nI (pr i dd))), (5, .int (nI dd)), (3, .int (nI (R - 2 ^ i))), (6, .int (nI i)), (0, .ref p), (1, .int (nI A))]) (q := 105) dX4_dayOf_103 rfl (by decide) (fun _ => rfl) (fun x4_103 ex4_103 => ?_)
        obtain rfl : x4_103 = nI (T ||| 2 ^ dd) := ex4_103.trans (by rw [xshl1 dd (by omega), fa_or])
        refine x_iinc (L' := fun x6_105 => [(6, .int x6_105), (4, .int (nI (T ||| 2 ^ dd))), (2, .int (goal - nI (pr i dd))), (5, .int (nI dd)), (3, .int (nI (R - 2 ^ i))), (0, .ref p), (1, .int (nI A))]) (q := 108) dX4_dayOf_105 rfl rfl (by decide) (fun _ => rfl) (fun x6_105 ex6_105 => ?_)
        obtain rfl : x6_105 = nI (i + 1) := ex6_105.trans (nI_1 i)
        refine x_goto (q := 24) dX4_dayOf_108 (by decide) ?_
        rw [dok, if_pos hb2, hfo] at hQ
        refine x_pick (L' := [(6, .int (nI (i + 1))), (5, .int (oI (some dd))), (4, .int (nI (T ||| 2 ^ dd))), (3, .int (nI (R - 2 ^ i))), (2, .int (goal - nI (pr i dd))), (0, .ref p), (1, .int (nI A))]) [0, 3, 1, 4, 2, 5, 6] rfl ?_
        exact ih (i + 1) M69 h69 (some dd) (T ||| 2 ^ dd) (R - 2 ^ i) (goal - nI (pr i dd)) (by omega) hU69 hlt (fun j h1 h2 => (sub_tb hR (by omega) (by omega) hRb (by omega)).trans (hRU j (by omega) h2)) (fun j hj => (fr69 j hj).trans (hf j hj)) hQ

def dayX (pr : Nat → Nat → Nat) (G D U A : Nat) : Option Nat := dok pr G D U (A + 1) 0 (nI (msk pr G 0 D U)) U 0 none
set_option maxHeartbeats 4000000 in
set_option maxRecDepth 100000 in
theorem c_Ma_day {n : Nat} {M : Nat → xE} {p A G D U : Nat} {t : Nat → Nat → Int32} {pr : Nat → Nat → Nat} (hp : p + 2 < n) (hD9 : D ≤ 9) (hG : G ≤ 5) (hA : A < G) (hU0 : t 0 0 = nI U) (hU : U < 32) (hG0 : t 1 0 = nI G) (hD0 : t 2 0 = nI D) (hpr : ∀ j, j < G → ∀ d, d < D → t 3 (9 * j + d) = nI (pr j d) ∧ pr j d ≤ 20000) (hT : oX4 p t M) : xMet mX4_dayOf [.ref p, .int (nI A)] n M (fun r M' => some (.int (oI (dayX pr G D U A))) = r ∧ (∃ h, oX4 p (fun k => if k = 4 then h else t k) M') ∧ xfr p (p + 3) M M') := by
  have hT0 := hT
  obtain ⟨tp0, tp1, tp2⟩ := hT
  rw [hU0] at tp0
  have hiX4 : ∀ w ∈ wsX40, w ∈ wsX4_dayOf := by decide +kernel
  refine xMet.of _ (by decide) rfl (Nat.le_of_ble_eq_true rfl) ?_
  refine x_aload_n (q := 1) dX4_dayOf_0 rfl rfl ?_
  refine x_aload_n (q := 2) dX4_dayOf_1 rfl rfl ?_
  refine x_getf (C := RX4) (T := TX4) (N := 5) (k := 0) (q := 5) tp0 (by omega) rfl hiX4 (by decide) (by decide +kernel) rfl dX4_dayOf_2 rfl ?_
  refine x_iconst (v := 0) (q := 6) dX4_dayOf_5 rfl (by decide) ?_
  refine x_callV (q := 9) (ci := 4) (c_Ma_of (pr := pr) (S := U) (T := 0) hp hD9 hG hG0 hD0 hU hpr hT0) eX4_dayOf_60 gX4_dayOf_X4_mostOf tp0 (by omega) rfl rfl rfl (Nat.le_of_ble_eq_true rfl) ⟨Nat.le_refl _, Nat.le_refl _⟩ dX4_dayOf_6 rfl rfl (fun r6 M6 p6 => ?_)
  obtain ⟨rfl, ⟨h6, hV6⟩, fr6⟩ := p6
  have hU6 : oX4 p (fun k => if k = 4 then h6 else t k) M6 := hV6
  have hV6 : oX4 p (fun k => if k = 0 then (fun _ => nI U) else if k = 4 then h6 else t k) M6 := ⟨by rw [hU6.1, ← hU0]; rfl, hU6.2⟩
  obtain ⟨y6_0, y6_1, y6_2⟩ := hV6
  refine x_istore_n (L' := fun x2_9 => [(2, .int x2_9), (0, .ref p), (1, .int (nI A))]) (q := 10) dX4_dayOf_9 rfl (by decide) (fun _ => rfl) (fun x2_9 ex2_9 => ?_)
  refine x_aload_n (q := 11) dX4_dayOf_10 rfl rfl ?_
  refine x_getf (C := RX4) (T := TX4) (N := 5) (k := 0) (q := 14) y6_0 (by omega) rfl hiX4 (by decide) (by decide +kernel) rfl dX4_dayOf_11 rfl ?_
  refine x_istore_n (L' := fun x3_14 => [(3, .int x3_14), (2, .int x2_9), (0, .ref p), (1, .int (nI A))]) (q := 15) dX4_dayOf_14 rfl (by decide) (fun _ => rfl) (fun x3_14 ex3_14 => ?_)
  refine x_iconst (v := 0) (q := 16) dX4_dayOf_15 rfl (by decide) ?_
  refine x_istore (L' := fun x4_16 => [(4, .int x4_16), (3, .int x3_14), (2, .int x2_9), (0, .ref p), (1, .int (nI A))]) (q := 18) dX4_dayOf_16 rfl (by decide) (fun _ => rfl) (fun x4_16 ex4_16 => ?_)
  refine x_iconst (v := -1) (q := 19) dX4_dayOf_18 rfl (by decide) ?_
  refine x_istore (L' := fun x5_19 => [(5, .int x5_19), (4, .int x4_16), (3, .int x3_14), (2, .int x2_9), (0, .ref p), (1, .int (nI A))]) (q := 21) dX4_dayOf_19 rfl (by decide) (fun _ => rfl) (fun x5_19 ex5_19 => ?_)
  refine x_iconst (v := 0) (q := 22) dX4_dayOf_21 rfl (by decide) ?_
  refine x_istore (L' := fun x6_22 => [(6, .int x6_22), (5, .int x5_19), (4, .int x4_16), (3, .int x3_14), (2, .int x2_9), (0, .ref p), (1, .int (nI A))]) (q := 24) dX4_dayOf_22 rfl (by decide) (fun _ => rfl) (fun x6_22 ex6_22 => ?_)
  subst ex2_9
  subst ex3_14
  subst ex4_16
  subst ex5_19
  subst ex6_22
  exact l_Ma_day (M0 := M) hp hD9 hG hA hU0 hU hG0 hD0 hpr (A + 1) 0 M6 h6 none 0 U _ (by omega) hU6 hU (fun j _ _ => rfl) fr6 (fun M h h1 h2 => ⟨rfl, ⟨h, h1⟩, h2⟩)

