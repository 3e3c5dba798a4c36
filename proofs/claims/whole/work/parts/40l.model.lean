set_option maxHeartbeats 4000000 in
set_option maxRecDepth 100000 in
theorem c_m_sign {n : Nat} {M : Nat → xE} {t : Nat → Nat → Int32} {u : Nat → Nat → Int64} (hn : 113 < n) (hM : oX11 99 t u M) {B : Nat} (hB : B ≤ 6) (hB0 : t 18 0 = nI B) {a b c : Int32} : xMet mX11_sign [.ref 99, .int a, .int b, .int c] n M (fun r M' => (if inB a 4 = true then (if inB b 10 = true then (if inB c 2 = true then (if B < 6 then (some (.int (nI (B + 1))) = r ∧ oX11 99 (fun z => if z = 18 then (fun _ => nI (B + 1)) else if z = 19 then upd (t 19) B a else if z = 20 then upd (t 20) B b else if z = 21 then upd (t 21) B c else t z) u M' ∧ xfr 99 114 M M') else (M = M' ∧ some (.int (-5)) = r)) else (M = M' ∧ some (.int (-3)) = r)) else (M = M' ∧ some (.int (-3)) = r)) else (M = M' ∧ some (.int (-2)) = r))) := by
  have hM0 := hM
  obtain ⟨mp0, mp1, mp2, mp3, mp4, mp5, mp6, mp7, mp8, mp9, mp10, mp11, mp12, mp13, mp14⟩ := hM
  have hiX11 : ∀ w ∈ wsX110, w ∈ wsX11_sign := by decide +kernel
  refine xMet.of _ (by decide) rfl (Nat.le_of_ble_eq_true rfl) ?_
  refine x_iload_n (q := 1) dX11_sign_0 rfl rfl ?_
  refine x_callS (q := 4) c_m_isWorld eX11_sign_244 gX11_sign_X11_isWorld rfl (Nat.le_of_ble_eq_true rfl) ⟨Nat.le_refl _, Nat.le_refl _⟩ dX11_sign_1 rfl rfl (fun r1 M1 p1 => ?_)
  obtain ⟨rfl, p1⟩ := p1
  rcases p1 with ⟨b1, rfl⟩ | ⟨b1, rfl⟩
  · refine x_if_ne (t := 10) (q := 7) dX11_sign_4 (by decide) rfl (fun c4 => ?_) (fun c4 => absurd c4 (by decide))
    refine x_iload_n (q := 11) dX11_sign_10 rfl rfl ?_
    refine x_i2l (q := 12) dX11_sign_11 rfl ?_
    refine x_lconst (v := 0) (q := 13) dX11_sign_12 rfl (by decide) ?_
    refine x_ldc2 (v := 9) (q := 16) (by decide +kernel) dX11_sign_13 rfl ?_
    refine x_callS (q := 19) c_m_in eX11_sign_65 gX11_sign_X11_in rfl (Nat.le_of_ble_eq_true rfl) ⟨Nat.le_refl _, Nat.le_refl _⟩ dX11_sign_16 rfl rfl (fun r16 M16 p16 => ?_)
    obtain ⟨rfl, p16⟩ := p16
    rcases p16 with ⟨b16, rfl⟩ | ⟨b16, rfl⟩
    · refine x_if_eq (t := 29) (q := 22) dX11_sign_19 (by decide) rfl (fun c19 => absurd c19 (by decide)) (fun c19 => ?_)
      refine x_iload_n (q := 23) dX11_sign_22 rfl rfl ?_
      refine x_callS (q := 26) c_m_isFlag eX11_sign_181 gX11_sign_X11_isFlag rfl (Nat.le_of_ble_eq_true rfl) ⟨Nat.le_refl _, Nat.le_refl _⟩ dX11_sign_23 rfl rfl (fun r23 M23 p23 => ?_)
      obtain ⟨rfl, p23⟩ := p23
      rcases p23 with ⟨b23, rfl⟩ | ⟨b23, rfl⟩
      · refine x_if_ne (t := 32) (q := 29) dX11_sign_26 (by decide) rfl (fun c26 => ?_) (fun c26 => absurd c26 (by decide))
        refine x_aload_n (q := 33) dX11_sign_32 rfl rfl ?_
        refine x_getf (C := RX11) (T := TX11) (N := 29) (k := 18) (q := 36) mp0 (by omega) rfl hiX11 (by decide) (by decide +kernel) rfl dX11_sign_33 rfl ?_
        rw [hB0]
        refine x_bipush (v := 6) (q := 38) dX11_sign_36 rfl (by decide) ?_
        refine x_icmp_ne (t := 44) (q := 41) dX11_sign_38 (by decide) rfl (fun c38 => ?_) (fun c38 => ?_)
        · have hlt : B < 6 := Nat.lt_of_le_of_ne hB (fun h => c38 (by rw [h]; rfl))
          refine x_aload_n (q := 45) dX11_sign_44 rfl rfl ?_
          refine x_getf (C := RX11) (T := TX11) (N := 29) (k := 19) (q := 48) mp0 (by omega) rfl hiX11 (by decide) (by decide +kernel) rfl dX11_sign_45 rfl ?_
          refine x_aload_n (q := 49) dX11_sign_48 rfl rfl ?_
          refine x_getf (C := RX11) (T := TX11) (N := 29) (k := 18) (q := 52) mp0 (by omega) rfl hiX11 (by decide) (by decide +kernel) rfl dX11_sign_49 rfl ?_
          rw [hB0]
          refine x_iload_n (q := 53) dX11_sign_52 rfl rfl ?_
          refine x_iast (q := 54) mp8 (by omega) (ixI (show (nI B : Int32) = nI B from rfl) (by omega) (by decide)) dX11_sign_53 rfl (fun M53 w53 o53 => ?_)
          rw [ixC (show (nI B : Int32) = nI B from rfl) (by omega)] at w53
          refine x_aload_n (q := 55) dX11_sign_54 rfl rfl ?_
          have hv1_1_99 := ((o53 (99) (by omega)).trans mp0)
          refine x_getf (C := RX11) (T := TX11) (N := 29) (k := 20) (q := 58) hv1_1_99 (by omega) rfl hiX11 (by decide) (by decide +kernel) rfl dX11_sign_55 rfl ?_
          refine x_aload_n (q := 59) dX11_sign_58 rfl rfl ?_
          refine x_getf (C := RX11) (T := TX11) (N := 29) (k := 18) (q := 62) hv1_1_99 (by omega) rfl hiX11 (by decide) (by decide +kernel) rfl dX11_sign_59 rfl ?_
          rw [hB0]
          refine x_iload_n (q := 63) dX11_sign_62 rfl rfl ?_
          have hv1_2_108 := ((o53 (108) (by omega)).trans mp9)
          refine x_iast (q := 64) hv1_2_108 (by omega) (ixI (show (nI B : Int32) = nI B from rfl) (by omega) (by decide)) dX11_sign_63 rfl (fun M63 w63 o63 => ?_)
          rw [ixC (show (nI B : Int32) = nI B from rfl) (by omega)] at w63
          refine x_aload_n (q := 65) dX11_sign_64 rfl rfl ?_
          have hv2_3_99 := ((o63 (99) (by omega)).trans hv1_1_99)
          refine x_getf (C := RX11) (T := TX11) (N := 29) (k := 21) (q := 68) hv2_3_99 (by omega) rfl hiX11 (by decide) (by decide +kernel) rfl dX11_sign_65 rfl ?_
          refine x_aload_n (q := 69) dX11_sign_68 rfl rfl ?_
          refine x_getf (C := RX11) (T := TX11) (N := 29) (k := 18) (q := 72) hv2_3_99 (by omega) rfl hiX11 (by decide) (by decide +kernel) rfl dX11_sign_69 rfl ?_
          rw [hB0]
          refine x_iload_n (q := 73) dX11_sign_72 rfl rfl ?_
          have hv2_4_109 := ((o63 (109) (by omega)).trans ((o53 (109) (by omega)).trans mp10))
          refine x_iast (q := 74) hv2_4_109 (by omega) (ixI (show (nI B : Int32) = nI B from rfl) (by omega) (by decide)) dX11_sign_73 rfl (fun M73 w73 o73 => ?_)
          rw [ixC (show (nI B : Int32) = nI B from rfl) (by omega)] at w73
          refine x_aload_n (q := 75) dX11_sign_74 rfl rfl ?_
          refine x_dup (q := 76) dX11_sign_75 rfl rfl ?_
          have hv3_5_99 := ((o73 (99) (by omega)).trans hv2_3_99)
          refine x_getf (C := RX11) (T := TX11) (N := 29) (k := 18) (q := 79) hv3_5_99 (by omega) rfl hiX11 (by decide) (by decide +kernel) rfl dX11_sign_76 rfl ?_
          rw [hB0]
          refine x_iconst (v := 1) (q := 80) dX11_sign_79 rfl (by decide) ?_
          refine x_iadd (q := 81) dX11_sign_80 rfl ?_
          rw [nI_1]
          refine x_put (C := RX11) (T := TX11) (N := 29) (k := 18) (q := 84) (ty := .int) tyX11_ok nmX11 hv3_5_99 (by omega) rfl hiX11 (by decide) (by decide +kernel) rfl (by decide +kernel) (fun _ => rfl) (fun _ => rfl) (Nat.le_of_ble_eq_true rfl) dX11_sign_81 rfl (fun M81 w81 o81 => ?_)
          refine x_aload_n (q := 85) dX11_sign_84 rfl rfl ?_
          refine x_getf (C := RX11) (T := TX11) (N := 29) (k := 18) (q := 88) w81 (by omega) rfl hiX11 (by decide) (by decide +kernel) rfl dX11_sign_85 rfl ?_
          refine x_iret dX11_sign_88 rfl rfl (Nat.le_refl _) ?_
          have hv4_6_100 := ((o81 (100) (by omega)).trans ((o73 (100) (by omega)).trans ((o63 (100) (by omega)).trans ((o53 (100) (by omega)).trans mp1))))
          have hv4_7_101 := ((o81 (101) (by omega)).trans ((o73 (101) (by omega)).trans ((o63 (101) (by omega)).trans ((o53 (101) (by omega)).trans mp2))))
          have hv4_8_102 := ((o81 (102) (by omega)).trans ((o73 (102) (by omega)).trans ((o63 (102) (by omega)).trans ((o53 (102) (by omega)).trans mp3))))
          have hv4_9_103 := ((o81 (103) (by omega)).trans ((o73 (103) (by omega)).trans ((o63 (103) (by omega)).trans ((o53 (103) (by omega)).trans mp4))))
          have hv4_10_104 := ((o81 (104) (by omega)).trans ((o73 (104) (by omega)).trans ((o63 (104) (by omega)).trans ((o53 (104) (by omega)).trans mp5))))
          have hv4_11_105 := ((o81 (105) (by omega)).trans ((o73 (105) (by omega)).trans ((o63 (105) (by omega)).trans ((o53 (105) (by omega)).trans mp6))))
          have hv4_12_106 := ((o81 (106) (by omega)).trans ((o73 (106) (by omega)).trans ((o63 (106) (by omega)).trans ((o53 (106) (by omega)).trans mp7))))
          have hv4_13_107 := ((o81 (107) (by omega)).trans ((o73 (107) (by omega)).trans ((o63 (107) (by omega)).trans w53)))
          have hv4_14_108 := ((o81 (108) (by omega)).trans ((o73 (108) (by omega)).trans w63))
          have hv4_15_109 := ((o81 (109) (by omega)).trans w73)
          have hv4_16_110 := ((o81 (110) (by omega)).trans ((o73 (110) (by omega)).trans ((o63 (110) (by omega)).trans ((o53 (110) (by omega)).trans mp11))))
          have hv4_17_111 := ((o81 (111) (by omega)).trans ((o73 (111) (by omega)).trans ((o63 (111) (by omega)).trans ((o53 (111) (by omega)).trans mp12))))
          have hv4_18_112 := ((o81 (112) (by omega)).trans ((o73 (112) (by omega)).trans ((o63 (112) (by omega)).trans ((o53 (112) (by omega)).trans mp13))))
          have hv4_19_113 := ((o81 (113) (by omega)).trans ((o73 (113) (by omega)).trans ((o63 (113) (by omega)).trans ((o53 (113) (by omega)).trans mp14))))
          rw [if_pos b1, if_pos ((mIn2 (k := 9) (by decide) rfl).mp b16), if_pos b23, if_pos hlt]
          exact ⟨rfl, ⟨w81, hv4_6_100, hv4_7_101, hv4_8_102, hv4_9_103, hv4_10_104, hv4_11_105, hv4_12_106, hv4_13_107, hv4_14_108, hv4_15_109, hv4_16_110, hv4_17_111, hv4_18_112, hv4_19_113⟩, fun j hj => ((o81 j (by omega)).trans ((o73 j (by omega)).trans ((o63 j (by omega)).trans ((o53 j (by omega)).trans rfl))))⟩
        · refine x_bipush (v := -5) (q := 43) dX11_sign_41 rfl (by decide) ?_
          refine x_iret dX11_sign_43 rfl rfl (Nat.le_refl _) ?_
          rw [if_pos b1, if_pos ((mIn2 (k := 9) (by decide) rfl).mp b16), if_pos b23, if_neg (show ¬ B < 6 from fun h => by have := (nIne (a := B) (b := 6) (by omega) (by decide)).mp c38; omega)]
          exact ⟨rfl, rfl⟩
      · refine x_if_ne (t := 32) (q := 29) dX11_sign_26 (by decide) rfl (fun c26 => absurd c26 (by decide)) (fun c26 => ?_)
        refine x_bipush (v := -3) (q := 31) dX11_sign_29 rfl (by decide) ?_
        refine x_iret dX11_sign_31 rfl rfl (Nat.le_refl _) ?_
        rw [if_pos b1, if_pos ((mIn2 (k := 9) (by decide) rfl).mp b16), if_neg b23]
        exact ⟨rfl, rfl⟩
    · refine x_if_eq (t := 29) (q := 22) dX11_sign_19 (by decide) rfl (fun c19 => ?_) (fun c19 => absurd c19 (by decide))
      refine x_bipush (v := -3) (q := 31) dX11_sign_29 rfl (by decide) ?_
      refine x_iret dX11_sign_31 rfl rfl (Nat.le_refl _) ?_
      rw [if_pos b1, if_neg (fun h => b16 ((mIn2 (k := 9) (by decide) rfl).mpr h))]
      exact ⟨rfl, rfl⟩
  · refine x_if_ne (t := 10) (q := 7) dX11_sign_4 (by decide) rfl (fun c4 => absurd c4 (by decide)) (fun c4 => ?_)
    refine x_bipush (v := -2) (q := 9) dX11_sign_7 rfl (by decide) ?_
    refine x_iret dX11_sign_9 rfl rfl (Nat.le_refl _) ?_
    rw [if_neg b1]
    exact ⟨rfl, rfl⟩

set_option maxHeartbeats 4000000 in
set_option maxRecDepth 100000 in
theorem c_m_forget {n : Nat} {M : Nat → xE} {t : Nat → Nat → Int32} {u : Nat → Nat → Int64} (hn : 113 < n) (hM : oX11 99 t u M) {B : Nat} (hB : B ≤ 6) (hB0 : t 18 0 = nI B) : xMet mX11_forget [.ref 99] n M (fun r M' => some (.int (nI B)) = r ∧ oX11 99 (fun z => if z = 18 then (fun _ => 0) else t z) u M' ∧ xfr 99 114 M M') := by
  have hM0 := hM
  obtain ⟨mp0, mp1, mp2, mp3, mp4, mp5, mp6, mp7, mp8, mp9, mp10, mp11, mp12, mp13, mp14⟩ := hM
  have hiX11 : ∀ w ∈ wsX110, w ∈ wsX11_forget := by decide +kernel
  refine xMet.of _ (by decide) rfl (Nat.le_of_ble_eq_true rfl) ?_
  refine x_aload_n (q := 1) dX11_forget_0 rfl rfl ?_
  refine x_getf (C := RX11) (T := TX11) (N := 29) (k := 18) (q := 4) mp0 (by omega) rfl hiX11 (by decide) (by decide +kernel) rfl dX11_forget_1 rfl ?_
  rw [hB0]
  refine x_istore_n (L' := fun x1_4 => [(1, .int x1_4), (0, .ref 99)]) (q := 5) dX11_forget_4 rfl (by decide) (fun _ => rfl) (fun x1_4 ex1_4 => ?_)
  obtain rfl : x1_4 = nI B := ex1_4
  refine x_aload_n (q := 6) dX11_forget_5 rfl rfl ?_
  refine x_iconst (v := 0) (q := 7) dX11_forget_6 rfl (by decide) ?_
  refine x_put (C := RX11) (T := TX11) (N := 29) (k := 18) (q := 10) (ty := .int) tyX11_ok nmX11 mp0 (by omega) rfl hiX11 (by decide) (by decide +kernel) rfl (by decide +kernel) (fun _ => rfl) (fun _ => rfl) (Nat.le_of_ble_eq_true rfl) dX11_forget_7 rfl (fun M7 w7 o7 => ?_)
  refine x_iload_n (q := 11) dX11_forget_10 rfl rfl ?_
  refine x_iret dX11_forget_11 rfl rfl (Nat.le_refl _) ?_
  have hv1_1_100 := ((o7 (100) (by omega)).trans mp1)
  have hv1_2_101 := ((o7 (101) (by omega)).trans mp2)
  have hv1_3_102 := ((o7 (102) (by omega)).trans mp3)
  have hv1_4_103 := ((o7 (103) (by omega)).trans mp4)
  have hv1_5_104 := ((o7 (104) (by omega)).trans mp5)
  have hv1_6_105 := ((o7 (105) (by omega)).trans mp6)
  have hv1_7_106 := ((o7 (106) (by omega)).trans mp7)
  have hv1_8_107 := ((o7 (107) (by omega)).trans mp8)
  have hv1_9_108 := ((o7 (108) (by omega)).trans mp9)
  have hv1_10_109 := ((o7 (109) (by omega)).trans mp10)
  have hv1_11_110 := ((o7 (110) (by omega)).trans mp11)
  have hv1_12_111 := ((o7 (111) (by omega)).trans mp12)
  have hv1_13_112 := ((o7 (112) (by omega)).trans mp13)
  have hv1_14_113 := ((o7 (113) (by omega)).trans mp14)
  exact ⟨rfl, ⟨w7, hv1_1_100, hv1_2_101, hv1_3_102, hv1_4_103, hv1_5_104, hv1_6_105, hv1_7_106, hv1_8_107, hv1_9_108, hv1_10_109, hv1_11_110, hv1_12_111, hv1_13_112, hv1_14_113⟩, fun j hj => ((o7 j (by omega)).trans rfl)⟩

def soB (t : Nat → Nat → Int32) (w ago : Int32) (k : Nat) : Bool := decide (¬ t 20 k = ago) || decide ((t 19 k = w) ↔ (t 21 k = 1))
def soR (t : Nat → Nat → Int32) (w ago : Int32) : Nat → Bool
  | 0 => true
  | k + 1 => soR t w ago k && soB t w ago k
theorem b01_0 {b : Bool} : b01 b = 0 ↔ b = false := by cases b <;> decide
theorem soR_t {t : Nat → Nat → Int32} {w ago : Int32} {k : Nat} (h : soR t w ago k = true) (h2 : soB t w ago k = true) : b01 (soR t w ago (k + 1)) = 1 := by rw [soR, h, h2]; rfl
theorem soR_f1 {t : Nat → Nat → Int32} {w ago : Int32} {k : Nat} (h : soR t w ago k = false) : b01 (soR t w ago (k + 1)) = 0 := by rw [soR, h]; rfl
theorem soR_f2 {t : Nat → Nat → Int32} {w ago : Int32} {k : Nat} (h2 : soB t w ago k = false) : b01 (soR t w ago (k + 1)) = 0 := by rw [soR, h2, Bool.and_false]; rfl
theorem soB_t1 {t : Nat → Nat → Int32} {w ago : Int32} {k : Nat} (h : ¬ t 20 k = ago) : soB t w ago k = true := by unfold soB; rw [decide_eq_true h]; rfl
theorem soB_t2 {t : Nat → Nat → Int32} {w ago : Int32} {k : Nat} (h : (t 19 k = w) ↔ (t 21 k = 1)) : soB t w ago k = true := by unfold soB; rw [decide_eq_true h, Bool.or_true]
theorem soB_f {t : Nat → Nat → Int32} {w ago : Int32} {k : Nat} (h1 : t 20 k = ago) (h : ¬ ((t 19 k = w) ↔ (t 21 k = 1))) : soB t w ago k = false := by unfold soB; rw [decide_eq_false h, decide_eq_false (fun q => q h1)]; rfl
theorem bne {b : Bool} (h : ¬ b01 b = 0) : b = true := by cases b with
  | false => exact absurd rfl h
  | true => rfl
set_option maxHeartbeats 4000000 in
set_option maxRecDepth 100000 in
theorem l_m_isSo {n B : Nat} {a b : Int32} {t : Nat → Nat → Int32} {u : Nat → Nat → Int64} {Q : Option Value → (Nat → xE) → Prop} (hn : 113 < n) (hB : B ≤ 6) (hB0 : t 18 0 = nI B) : ∀ (k i : Nat) (M : Nat → xE), i + k = B → (oX11 99 t u M) → (∀ r, xB (soR t a b B = true) r → Q r M) → X mX11_isSo 0 0 5 [(4, .int (nI i)), (3, .int (b01 (soR t a b i))), (0, .ref 99), (1, .int a), (2, .int b)] [] n M (Q) := by
  have hiX11 : ∀ w ∈ wsX110, w ∈ wsX11_isSo := by decide +kernel
  intro k
  induction k with
  | zero =>
    intro i M hik hM hQ
    have hM0 := hM
    obtain ⟨mp0, mp1, mp2, mp3, mp4, mp5, mp6, mp7, mp8, mp9, mp10, mp11, mp12, mp13, mp14⟩ := hM
    refine x_iload (q := 7) dX11_isSo_5 rfl rfl ?_
    refine x_aload_n (q := 8) dX11_isSo_7 rfl rfl ?_
    refine x_getf (C := RX11) (T := TX11) (N := 29) (k := 18) (q := 11) mp0 (by omega) rfl hiX11 (by decide) (by decide +kernel) rfl dX11_isSo_8 rfl ?_
    rw [hB0]
    refine x_icmp_ge (t := 76) (q := 14) dX11_isSo_11 (by decide) rfl (fun c11 => ?_) (fun c11 => absurd (by rw [show i = B by omega]; exact nI_le (Nat.le_refl _) (by omega)) c11)
    refine x_iload_n (q := 77) dX11_isSo_76 rfl rfl ?_
    refine x_zret dX11_isSo_77 rfl (by cases soR t a b i <;> rfl) rfl (Nat.le_refl _) ?_
    have e9 : i = B := by omega
    subst e9
    exact hQ _ (by cases e : soR t a b i with
      | false => exact Or.inr ⟨by decide, rfl⟩
      | true => exact Or.inl ⟨rfl, rfl⟩)
  | succ k ih =>
    intro i M hik hM hQ
    have hM0 := hM
    obtain ⟨mp0, mp1, mp2, mp3, mp4, mp5, mp6, mp7, mp8, mp9, mp10, mp11, mp12, mp13, mp14⟩ := hM
    refine x_iload (q := 7) dX11_isSo_5 rfl rfl ?_
    refine x_aload_n (q := 8) dX11_isSo_7 rfl rfl ?_
    refine x_getf (C := RX11) (T := TX11) (N := 29) (k := 18) (q := 11) mp0 (by omega) rfl hiX11 (by decide) (by decide +kernel) rfl dX11_isSo_8 rfl ?_
    rw [hB0]
    refine x_icmp_ge (t := 76) (q := 14) dX11_isSo_11 (by decide) rfl (fun c11 => absurd c11 (nI_ge (a := i) (b := B) (by omega) (by omega))) (fun c11 => ?_)
    refine x_iload_n (q := 15) dX11_isSo_14 rfl rfl ?_
    refine x_if_eq (t := 68) (q := 18) dX11_isSo_15 (by decide) rfl (fun c15 => ?_) (fun c15 => ?_)
    · refine x_iconst (v := 0) (q := 69) dX11_isSo_68 rfl (by decide) ?_
      refine x_istore_n (L' := fun x3_69 => [(3, .int x3_69), (4, .int (nI i)), (0, .ref 99), (1, .int a), (2, .int b)]) (q := 70) dX11_isSo_69 rfl (by decide) (fun _ => rfl) (fun x3_69 ex3_69 => ?_)
      obtain rfl : x3_69 = b01 (soR t a b (i + 1)) := ex3_69.trans (by first
      | rw [soR_f1 (b01_0.mp c15)]
      | rw [soR_t (bne c15) (soB_t1 c26)]
      | rw [soR_t (bne c15) (soB_t2 ⟨fun _ => c53, fun _ => c37⟩)]
      | rw [soR_t (bne c15) (soB_t2 ⟨fun h => absurd h c37, fun h => absurd h c53⟩)]
      | rw [soR_f2 (soB_f c26 (fun h => c53 (h.mp c37)))]
      | rw [soR_f2 (soB_f c26 (fun h => c37 (h.mpr c53)))])
      refine x_iinc (L' := fun x4_70 => [(4, .int x4_70), (3, .int (b01 (soR t a b (i + 1)))), (0, .ref 99), (1, .int a), (2, .int b)]) (q := 73) dX11_isSo_70 rfl rfl (by decide) (fun _ => rfl) (fun x4_70 ex4_70 => ?_)
      obtain rfl : x4_70 = nI (i + 1) := ex4_70.trans (nI_1 i)
      refine x_goto (q := 5) dX11_isSo_73 (by decide) ?_
      refine x_pick (L' := [(4, .int (nI (i + 1))), (3, .int (b01 (soR t a b (i + 1)))), (0, .ref 99), (1, .int a), (2, .int b)]) [0, 1, 2, 3, 4] rfl ?_
      exact ih (i + 1) M (by omega) hM0 hQ
    · refine x_aload_n (q := 19) dX11_isSo_18 rfl rfl ?_
      refine x_getf (C := RX11) (T := TX11) (N := 29) (k := 20) (q := 22) mp0 (by omega) rfl hiX11 (by decide) (by decide +kernel) rfl dX11_isSo_19 rfl ?_
      refine x_iload (q := 24) dX11_isSo_22 rfl rfl ?_
      refine x_iald (q := 25) mp9 (by omega) (ixI (show (nI i : Int32) = nI i from rfl) (by omega) (by decide)) dX11_isSo_24 rfl ?_
      rw [ixC (show (nI i : Int32) = nI i from rfl) (by omega)]
      refine x_iload_n (q := 26) dX11_isSo_25 rfl rfl ?_
      refine x_icmp_ne (t := 64) (q := 29) dX11_isSo_26 (by decide) rfl (fun c26 => ?_) (fun c26 => ?_)
      · refine x_iconst (v := 1) (q := 65) dX11_isSo_64 rfl (by decide) ?_
        refine x_goto (q := 69) dX11_isSo_65 (by decide) ?_
        refine x_istore_n (L' := fun x3_69 => [(3, .int x3_69), (4, .int (nI i)), (0, .ref 99), (1, .int a), (2, .int b)]) (q := 70) dX11_isSo_69 rfl (by decide) (fun _ => rfl) (fun x3_69 ex3_69 => ?_)
        obtain rfl : x3_69 = b01 (soR t a b (i + 1)) := ex3_69.trans (by first
      | rw [soR_f1 (b01_0.mp c15)]
      | rw [soR_t (bne c15) (soB_t1 c26)]
      | rw [soR_t (bne c15) (soB_t2 ⟨fun _ => c53, fun _ => c37⟩)]
      | rw [soR_t (bne c15) (soB_t2 ⟨fun h => absurd h c37, fun h => absurd h c53⟩)]
      | rw [soR_f2 (soB_f c26 (fun h => c53 (h.mp c37)))]
      | rw [soR_f2 (soB_f c26 (fun h => c37 (h.mpr c53)))])
        refine x_iinc (L' := fun x4_70 => [(4, .int x4_70), (3, .int (b01 (soR t a b (i + 1)))), (0, .ref 99), (1, .int a), (2, .int b)]) (q := 73) dX11_isSo_70 rfl rfl (by decide) (fun _ => rfl) (fun x4_70 ex4_70 => ?_)
        obtain rfl : x4_70 = nI (i + 1) := ex4_70.trans (nI_1 i)
        refine x_goto (q := 5) dX11_isSo_73 (by decide) ?_
        refine x_pick (L' := [(4, .int (nI (i + 1))), (3, .int (b01 (soR t a b (i + 1)))), (0, .ref 99), (1, .int a), (2, .int b)]) [0, 1, 2, 3, 4] rfl ?_
        exact ih (i + 1) M (by omega) hM0 hQ
      · refine x_aload_n (q := 30) dX11_isSo_29 rfl rfl ?_
        refine x_getf (C := RX11) (T := TX11) (N := 29) (k := 19) (q := 33) mp0 (by omega) rfl hiX11 (by decide) (by decide +kernel) rfl dX11_isSo_30 rfl ?_
        refine x_iload (q := 35) dX11_isSo_33 rfl rfl ?_
        refine x_iald (q := 36) mp8 (by omega) (ixI (show (nI i : Int32) = nI i from rfl) (by omega) (by decide)) dX11_isSo_35 rfl ?_
        rw [ixC (show (nI i : Int32) = nI i from rfl) (by omega)]
        refine x_iload_n (q := 37) dX11_isSo_36 rfl rfl ?_
        refine x_icmp_ne (t := 44) (q := 40) dX11_isSo_37 (by decide) rfl (fun c37 => ?_) (fun c37 => ?_)
        · refine x_iconst (v := 0) (q := 45) dX11_isSo_44 rfl (by decide) ?_
          refine x_aload_n (q := 46) dX11_isSo_45 rfl rfl ?_
          refine x_getf (C := RX11) (T := TX11) (N := 29) (k := 21) (q := 49) mp0 (by omega) rfl hiX11 (by decide) (by decide +kernel) rfl dX11_isSo_46 rfl ?_
          refine x_iload (q := 51) dX11_isSo_49 rfl rfl ?_
          refine x_iald (q := 52) mp10 (by omega) (ixI (show (nI i : Int32) = nI i from rfl) (by omega) (by decide)) dX11_isSo_51 rfl ?_
          rw [ixC (show (nI i : Int32) = nI i from rfl) (by omega)]
          refine x_iconst (v := 1) (q := 53) dX11_isSo_52 rfl (by decide) ?_
          refine x_icmp_ne (t := 60) (q := 56) dX11_isSo_53 (by decide) rfl (fun c53 => ?_) (fun c53 => ?_)
          · refine x_iconst (v := 0) (q := 61) dX11_isSo_60 rfl (by decide) ?_
            refine x_icmp_ne (t := 68) (q := 64) dX11_isSo_61 (by decide) rfl (fun c61 => absurd c61 (by decide)) (fun c61 => ?_)
            refine x_iconst (v := 1) (q := 65) dX11_isSo_64 rfl (by decide) ?_
            refine x_goto (q := 69) dX11_isSo_65 (by decide) ?_
            refine x_istore_n (L' := fun x3_69 => [(3, .int x3_69), (4, .int (nI i)), (0, .ref 99), (1, .int a), (2, .int b)]) (q := 70) dX11_isSo_69 rfl (by decide) (fun _ => rfl) (fun x3_69 ex3_69 => ?_)
            obtain rfl : x3_69 = b01 (soR t a b (i + 1)) := ex3_69.trans (by first
      | rw [soR_f1 (b01_0.mp c15)]
      | rw [soR_t (bne c15) (soB_t1 c26)]
      | rw [soR_t (bne c15) (soB_t2 ⟨fun _ => c53, fun _ => c37⟩)]
      | rw [soR_t (bne c15) (soB_t2 ⟨fun h => absurd h c37, fun h => absurd h c53⟩)]
      | rw [soR_f2 (soB_f c26 (fun h => c53 (h.mp c37)))]
      | rw [soR_f2 (soB_f c26 (fun h => c37 (h.mpr c53)))])
            refine x_iinc (L' := fun x4_70 => [(4, .int x4_70), (3, .int (b01 (soR t a b (i + 1)))), (0, .ref 99), (1, .int a), (2, .int b)]) (q := 73) dX11_isSo_70 rfl rfl (by decide) (fun _ => rfl) (fun x4_70 ex4_70 => ?_)
            obtain rfl : x4_70 = nI (i + 1) := ex4_70.trans (nI_1 i)
            refine x_goto (q := 5) dX11_isSo_73 (by decide) ?_
            refine x_pick (L' := [(4, .int (nI (i + 1))), (3, .int (b01 (soR t a b (i + 1)))), (0, .ref 99), (1, .int a), (2, .int b)]) [0, 1, 2, 3, 4] rfl ?_
            exact ih (i + 1) M (by omega) hM0 hQ
          · refine x_iconst (v := 1) (q := 57) dX11_isSo_56 rfl (by decide) ?_
            refine x_goto (q := 61) dX11_isSo_57 (by decide) ?_
            refine x_icmp_ne (t := 68) (q := 64) dX11_isSo_61 (by decide) rfl (fun c61 => ?_) (fun c61 => absurd c61 (by decide))
            refine x_iconst (v := 0) (q := 69) dX11_isSo_68 rfl (by decide) ?_
            refine x_istore_n (L' := fun x3_69 => [(3, .int x3_69), (4, .int (nI i)), (0, .ref 99), (1, .int a), (2, .int b)]) (q := 70) dX11_isSo_69 rfl (by decide) (fun _ => rfl) (fun x3_69 ex3_69 => ?_)
            obtain rfl : x3_69 = b01 (soR t a b (i + 1)) := ex3_69.trans (by first
      | rw [soR_f1 (b01_0.mp c15)]
      | rw [soR_t (bne c15) (soB_t1 c26)]
      | rw [soR_t (bne c15) (soB_t2 ⟨fun _ => c53, fun _ => c37⟩)]
      | rw [soR_t (bne c15) (soB_t2 ⟨fun h => absurd h c37, fun h => absurd h c53⟩)]
      | rw [soR_f2 (soB_f c26 (fun h => c53 (h.mp c37)))]
      | rw [soR_f2 (soB_f c26 (fun h => c37 (h.mpr c53)))])
            refine x_iinc (L' := fun x4_70 => [(4, .int x4_70), (3, .int (b01 (soR t a b (i + 1)))), (0, .ref 99), (1, .int a), (2, .int b)]) (q := 73) dX11_isSo_70 rfl rfl (by decide) (fun _ => rfl) (fun x4_70 ex4_70 => ?_)
            obtain rfl : x4_70 = nI (i + 1) := ex4_70.trans (nI_1 i)
            refine x_goto (q := 5) dX11_isSo_73 (by decide) ?_
            refine x_pick (L' := [(4, .int (nI (i + 1))), (3, .int (b01 (soR t a b (i + 1)))), (0, .ref 99), (1, .int a), (2, .int b)]) [0, 1, 2, 3, 4] rfl ?_
            exact ih (i + 1) M (by omega) hM0 hQ
        · refine x_iconst (v := 1) (q := 41) dX11_isSo_40 rfl (by decide) ?_
          refine x_goto (q := 45) dX11_isSo_41 (by decide) ?_
          refine x_aload_n (q := 46) dX11_isSo_45 rfl rfl ?_
          refine x_getf (C := RX11) (T := TX11) (N := 29) (k := 21) (q := 49) mp0 (by omega) rfl hiX11 (by decide) (by decide +kernel) rfl dX11_isSo_46 rfl ?_
          refine x_iload (q := 51) dX11_isSo_49 rfl rfl ?_
          refine x_iald (q := 52) mp10 (by omega) (ixI (show (nI i : Int32) = nI i from rfl) (by omega) (by decide)) dX11_isSo_51 rfl ?_
          rw [ixC (show (nI i : Int32) = nI i from rfl) (by omega)]
          refine x_iconst (v := 1) (q := 53) dX11_isSo_52 rfl (by decide) ?_
          refine x_icmp_ne (t := 60) (q := 56) dX11_isSo_53 (by decide) rfl (fun c53 => ?_) (fun c53 => ?_)
          · refine x_iconst (v := 0) (q := 61) dX11_isSo_60 rfl (by decide) ?_
            refine x_icmp_ne (t := 68) (q := 64) dX11_isSo_61 (by decide) rfl (fun c61 => ?_) (fun c61 => absurd c61 (by decide))
            refine x_iconst (v := 0) (q := 69) dX11_isSo_68 rfl (by decide) ?_
            refine x_istore_n (L' := fun x3_69 => [(3, .int x3_69), (4, .int (nI i)), (0, .ref 99), (1, .int a), (2, .int b)]) (q := 70) dX11_isSo_69 rfl (by decide) (fun _ => rfl) (fun x3_69 ex3_69 => ?_)
            obtain rfl : x3_69 = b01 (soR t a b (i + 1)) := ex3_69.trans (by first
      | rw [soR_f1 (b01_0.mp c15)]
      | rw [soR_t (bne c15) (soB_t1 c26)]
      | rw [soR_t (bne c15) (soB_t2 ⟨fun _ => c53, fun _ => c37⟩)]
      | rw [soR_t (bne c15) (soB_t2 ⟨fun h => absurd h c37, fun h => absurd h c53⟩)]
      | rw [soR_f2 (soB_f c26 (fun h => c53 (h.mp c37)))]
      | rw [soR_f2 (soB_f c26 (fun h => c37 (h.mpr c53)))])
            refine x_iinc (L' := fun x4_70 => [(4, .int x4_70), (3, .int (b01 (soR t a b (i + 1)))), (0, .ref 99), (1, .int a), (2, .int b)]) (q := 73) dX11_isSo_70 rfl rfl (by decide) (fun _ => rfl) (fun x4_70 ex4_70 => ?_)
            obtain rfl : x4_70 = nI (i + 1) := ex4_70.trans (nI_1 i)
            refine x_goto (q := 5) dX11_isSo_73 (by decide) ?_
            refine x_pick (L' := [(4, .int (nI (i + 1))), (3, .int (b01 (soR t a b (i + 1)))), (0, .ref 99), (1, .int a), (2, .int b)]) [0, 1, 2, 3, 4] rfl ?_
            exact ih (i + 1) M (by omega) hM0 hQ
          · refine x_iconst (v := 1) (q := 57) dX11_isSo_56 rfl (by decide) ?_
            refine x_goto (q := 61) dX11_isSo_57 (by decide) ?_
            refine x_icmp_ne (t := 68) (q := 64) dX11_isSo_61 (by decide) rfl (fun c61 => absurd c61 (by decide)) (fun c61 => ?_)
            refine x_iconst (v := 1) (q := 65) dX11_isSo_64 rfl (by decide) ?_
            refine x_goto (q := 69) dX11_isSo_65 (by decide) ?_
            refine x_istore_n (L' := fun x3_69 => [(3, .int x3_69), (4, .int (nI i)), (0, .ref 99), (1, .int a), (2, .int b)]) (q := 70) dX11_isSo_69 rfl (by decide) (fun _ => rfl) (fun x3_69 ex3_69 => ?_)
            obtain rfl : x3_69 = b01 (soR t a b (i + 1)) := ex3_69.trans (by first
      | rw [soR_f1 (b01_0.mp c15)]
      | rw [soR_t (bne c15) (soB_t1 c26)]
      | rw [soR_t (bne c15) (soB_t2 ⟨fun _ => c53, fun _ => c37⟩)]
      | rw [soR_t (bne c15) (soB_t2 ⟨fun h => absurd h c37, fun h => absurd h c53⟩)]
      | rw [soR_f2 (soB_f c26 (fun h => c53 (h.mp c37)))]
      | rw [soR_f2 (soB_f c26 (fun h => c37 (h.mpr c53)))])
            refine x_iinc (L' := fun x4_70 => [(4, .int x4_70), (3, .int (b01 (soR t a b (i + 1)))), (0, .ref 99), (1, .int a), (2, .int b)]) (q := 73) dX11_isSo_70 rfl rfl (by decide) (fun _ => rfl) (fun x4_70 ex4_70 => ?_)
            obtain rfl : x4_70 = nI (i + 1) := ex4_70.trans (nI_1 i)
            refine x_goto (q := 5) dX11_isSo_73 (by decide) ?_
            refine x_pick (L' := [(4, .int (nI (i + 1))), (3, .int (b01 (soR t a b (i + 1)))), (0, .ref 99), (1, .int a), (2, .int b)]) [0, 1, 2, 3, 4] rfl ?_
            exact ih (i + 1) M (by omega) hM0 hQ

set_option maxHeartbeats 4000000 in
set_option maxRecDepth 100000 in
theorem c_m_isSo {n : Nat} {M : Nat → xE} {t : Nat → Nat → Int32} {u : Nat → Nat → Int64} (hn : 113 < n) (hM : oX11 99 t u M) {B : Nat} (hB : B ≤ 6) (hB0 : t 18 0 = nI B) {a b : Int32} : xMet mX11_isSo [.ref 99, .int a, .int b] n M (fun r M' => M = M' ∧ xB (soR t a b B = true) r) := by
  have hM0 := hM
  obtain ⟨mp0, mp1, mp2, mp3, mp4, mp5, mp6, mp7, mp8, mp9, mp10, mp11, mp12, mp13, mp14⟩ := hM
  refine xMet.of _ (by decide) rfl (Nat.le_of_ble_eq_true rfl) ?_
  refine x_iconst (v := 1) (q := 1) dX11_isSo_0 rfl (by decide) ?_
  refine x_istore_n (L' := fun x3_1 => [(3, .int x3_1), (0, .ref 99), (1, .int a), (2, .int b)]) (q := 2) dX11_isSo_1 rfl (by decide) (fun _ => rfl) (fun x3_1 ex3_1 => ?_)
  refine x_iconst (v := 0) (q := 3) dX11_isSo_2 rfl (by decide) ?_
  refine x_istore (L' := fun x4_3 => [(4, .int x4_3), (3, .int x3_1), (0, .ref 99), (1, .int a), (2, .int b)]) (q := 5) dX11_isSo_3 rfl (by decide) (fun _ => rfl) (fun x4_3 ex4_3 => ?_)
  subst ex3_1
  subst ex4_3
  exact l_m_isSo hn hB hB0 B 0 M (by omega) hM0 (fun r h => ⟨rfl, h⟩)

