def lftS (t : Nat → Nat → Int32) (a w : Nat) : Nat → Nat → Int32 := fun k => if k = 3 then upd (t 3) a (t 3 a - t 6 (2 ^ w)) else t k
def fok (t : Nat → Nat → Int32) (go : Nat → Nat) (A W w : Nat) (goal : Int32) : Nat → Nat → Option Nat
  | 0, _ => none
  | k + 1, a => if ftB t a (2 ^ w) = true ∧ ¬ (t 5 w + nI (plM (lftS t a w) go A W (w + 1)) < goal) then some a else fok t go A W w goal k (a + 1)
def fdo (t : Nat → Nat → Int32) (go : Nat → Nat) (A W w : Nat) (goal : Int32) : Option Nat := if nI (plM t go A W (w + 1)) < goal then fok t go A W w goal A 0 else none
def lftO (t : Nat → Nat → Int32) (w : Nat) (o : Option Nat) : Nat → Nat → Int32 := o.elim t (fun a => lftS t a w)
theorem fok_lt {t : Nat → Nat → Int32} {go : Nat → Nat} {A W w : Nat} {goal : Int32} : ∀ k a e, fok t go A W w goal k a = some e → e < a + k
  | 0, a, e, h => by cases h
  | k + 1, a, e, h => by
    rw [fok] at h
    split at h
    · cases h; omega
    · have := fok_lt k (a + 1) e h; omega
theorem fdo_lt {t : Nat → Nat → Int32} {go : Nat → Nat} {A W w : Nat} {goal : Int32} {e : Nat} (h : fdo t go A W w goal = some e) : e < A := by
  unfold fdo at h
  split at h
  · have := fok_lt A 0 e h; omega
  · cases h
theorem xsub_add (x y : Int32) : x - y + y = x := by rw [Int32.sub_eq_add_neg, Int32.add_assoc, Int32.add_comm (-y) y, ← Int32.sub_eq_add_neg, Int32.sub_self, Int32.add_zero]
theorem upd_back (f : Nat → Int32) (a : Nat) (x : Int32) : upd (upd f a (f a - x)) a (upd f a (f a - x) a + x) = f := by
  rw [pk_us, xsub_add, fa_upd_twice]
  exact fa_upd_same rfl
theorem pmk_tb {t t' : Nat → Nat → Int32} {go : Nat → Nat} {f : Nat} (h : ∀ a U, ftB t a U = ftB t' a U) (h3 : t 3 = t' 3) : ∀ k S, pmk t go f k S = pmk t' go f k S
  | 0, _ => rfl
  | k + 1, S => by
    have e : pmk t go f k = pmk t' go f k := funext fun S => pmk_tb h h3 k S
    rw [pmk, pmk, h3, e, pwF_tb (t := t) (t' := t') (fun U => h k U)]
theorem plM_tb {t t' : Nat → Nat → Int32} {go : Nat → Nat} {A W f : Nat} (h : ∀ a U, ftB t a U = ftB t' a U) (h3 : t 3 = t' 3) : plM t go A W f = plM t' go A W f := pmk_tb h h3 A _
set_option maxHeartbeats 4000000 in
set_option maxRecDepth 100000 in
theorem l_Pl_fd {n p w W A : Nat} {goal : Int32} {t : Nat → Nat → Int32} {go : Nat → Nat} {Q : Option Value → (Nat → xE) → Prop} {M0 : Nat → xE} (hp : p + 7 < n) (hA : A ≤ 5) (hW : W ≤ 6) (hA0 : t 1 0 = nI A) (hW0 : t 2 0 = nI W) (hgo : ∀ U, U < 2 ^ W → t 8 U = nI (go U)) (hgol : ∀ U, go U ≤ 1000) (hw : w < W) : ∀ (k i : Nat) (M : Nat → xE) (h : Nat → Int32), i + k = A → (oX6 p (fun k => if k = 9 then h else t k) M) → (xfr p (p + 8) M0 M) → (∀ (M : Nat → xE) (h : Nat → Int32), oX6 p (fun z => if z = 9 then h else lftO t w (fok t go A W w goal k i) z) M → xfr p (p + 8) M0 M → Q (some (.int (oI (fok t go A W w goal k i)))) M) → X mX6_firstDoer 0 0 25 [(4, .int (nI i)), (3, .int (t 6 (2 ^ w))), (0, .ref p), (1, .int (nI w)), (2, .int goal)] [] n M (Q) := by
  have hiX6 : ∀ w ∈ wsX60, w ∈ wsX6_firstDoer := by decide +kernel
  intro k
  induction k with
  | zero =>
    intro i M h hik hT hf hQ
    have hT0 := hT
    obtain ⟨tp0, tp1, tp2, tp3, tp4, tp5, tp6, tp7⟩ := hT
    have tp0 : M p = .inr (6, [.int (t 0 0), .int (nI A), .int (t 2 0), .ref (p + 1), .ref (p + 2), .ref (p + 3), .ref (p + 4), .ref (p + 5), .ref (p + 6), .ref (p + 7)]) := by rw [tp0, ← hA0]; rfl
    have hsh : (1 : Int32) <<< (nI w &&& 31) = nI (2 ^ w) := xshl1 w (by omega)
    have h2w : 2 ^ w < 64 := Nat.lt_of_lt_of_le (Nat.pow_lt_pow_right (by decide) hw) (p2W W hW).1
    refine x_iload (q := 27) dX6_firstDoer_25 rfl rfl ?_
    refine x_aload_n (q := 28) dX6_firstDoer_27 rfl rfl ?_
    refine x_getf (C := RX6) (T := TX6) (N := 10) (k := 1) (q := 31) tp0 (by omega) rfl hiX6 (by decide) (by decide +kernel) rfl dX6_firstDoer_28 rfl ?_
    refine x_icmp_ge (t := 95) (q := 34) dX6_firstDoer_31 (by decide) rfl (fun c31 => ?_) (fun c31 => absurd (by rw [show i = A by omega]; exact nI_le (Nat.le_refl _) (by omega)) c31)
    refine x_iconst (v := -1) (q := 96) dX6_firstDoer_95 rfl (by decide) ?_
    refine x_iret dX6_firstDoer_96 rfl rfl (Nat.le_refl _) ?_
    exact hQ M h hT0 hf
  | succ k ih =>
    intro i M h hik hT hf hQ
    have hT0 := hT
    obtain ⟨tp0, tp1, tp2, tp3, tp4, tp5, tp6, tp7⟩ := hT
    have tp0 : M p = .inr (6, [.int (t 0 0), .int (nI A), .int (t 2 0), .ref (p + 1), .ref (p + 2), .ref (p + 3), .ref (p + 4), .ref (p + 5), .ref (p + 6), .ref (p + 7)]) := by rw [tp0, ← hA0]; rfl
    have hsh : (1 : Int32) <<< (nI w &&& 31) = nI (2 ^ w) := xshl1 w (by omega)
    have h2w : 2 ^ w < 64 := Nat.lt_of_lt_of_le (Nat.pow_lt_pow_right (by decide) hw) (p2W W hW).1
    refine x_iload (q := 27) dX6_firstDoer_25 rfl rfl ?_
    refine x_aload_n (q := 28) dX6_firstDoer_27 rfl rfl ?_
    refine x_getf (C := RX6) (T := TX6) (N := 10) (k := 1) (q := 31) tp0 (by omega) rfl hiX6 (by decide) (by decide +kernel) rfl dX6_firstDoer_28 rfl ?_
    refine x_icmp_ge (t := 95) (q := 34) dX6_firstDoer_31 (by decide) rfl (fun c31 => absurd c31 (nI_ge (a := i) (b := A) (by omega) (by omega))) (fun c31 => ?_)
    refine x_aload_n (q := 35) dX6_firstDoer_34 rfl rfl ?_
    refine x_iload (q := 37) dX6_firstDoer_35 rfl rfl ?_
    refine x_iconst (v := 1) (q := 38) dX6_firstDoer_37 rfl (by decide) ?_
    refine x_iload_n (q := 39) dX6_firstDoer_38 rfl rfl ?_
    refine x_ishl (q := 40) dX6_firstDoer_39 rfl ?_
    rw [hsh]
    refine x_callV (q := 43) (ci := 6) (c_Pl_fits (t := (fun k => if k = 9 then h else t k)) hp hT0 (by omega) h2w) eX6_firstDoer_94 gX6_firstDoer_X6_fits tp0 (by omega) rfl rfl rfl (Nat.le_of_ble_eq_true rfl) ⟨Nat.le_refl _, Nat.le_refl _⟩ dX6_firstDoer_40 rfl rfl (fun r40 M40 p40 => ?_)
    obtain ⟨rfl, p40⟩ := p40
    rcases p40 with ⟨b40, rfl⟩ | ⟨b40, rfl⟩
    · refine x_if_eq (t := 89) (q := 46) dX6_firstDoer_43 (by decide) rfl (fun c43 => absurd c43 (by decide)) (fun c43 => ?_)
      refine x_aload_n (q := 47) dX6_firstDoer_46 rfl rfl ?_
      refine x_getf (C := RX6) (T := TX6) (N := 10) (k := 3) (q := 50) tp0 (by omega) rfl hiX6 (by decide) (by decide +kernel) rfl dX6_firstDoer_47 rfl ?_
      refine x_iload (q := 52) dX6_firstDoer_50 rfl rfl ?_
      refine x_dup2 (q := 53) dX6_firstDoer_52 rfl rfl rfl ?_
      refine x_iald (q := 54) tp1 (by omega) (vp_in_nI (show i < 5 by omega) (by decide)) dX6_firstDoer_53 rfl ?_
      refine x_iload_n (q := 55) dX6_firstDoer_54 rfl rfl ?_
      refine x_isub (q := 56) dX6_firstDoer_55 rfl ?_
      refine x_iast (q := 57) tp1 (by omega) (vp_in_nI (show i < 5 by omega) (by decide)) dX6_firstDoer_56 rfl (fun M56 w56 o56 => ?_)
      refine x_aload_n (q := 58) dX6_firstDoer_57 rfl rfl ?_
      have hv1_1_p := ((o56 (p) (by omega)).trans tp0)
      refine x_getf (C := RX6) (T := TX6) (N := 10) (k := 5) (q := 61) hv1_1_p (by omega) rfl hiX6 (by decide) (by decide +kernel) rfl dX6_firstDoer_58 rfl ?_
      refine x_iload_n (q := 62) dX6_firstDoer_61 rfl rfl ?_
      have hv1_2_p3 := ((o56 (p + 3) (by omega)).trans tp3)
      refine x_iald (q := 63) hv1_2_p3 (by omega) (vp_in_nI (show w < 6 by omega) (by decide)) dX6_firstDoer_62 rfl ?_
      refine x_aload_n (q := 64) dX6_firstDoer_63 rfl rfl ?_
      refine x_iload_n (q := 65) dX6_firstDoer_64 rfl rfl ?_
      refine x_iconst (v := 1) (q := 66) dX6_firstDoer_65 rfl (by decide) ?_
      refine x_iadd (q := 67) dX6_firstDoer_66 rfl ?_
      rw [nIc (show i < 5 by omega) (by decide)] at w56
      have hv1_3_p2 := ((o56 (p + 2) (by omega)).trans tp2)
      have hv1_4_p4 := ((o56 (p + 4) (by omega)).trans tp4)
      have hv1_5_p5 := ((o56 (p + 5) (by omega)).trans tp5)
      have hv1_6_p6 := ((o56 (p + 6) (by omega)).trans tp6)
      have hv1_7_p7 := ((o56 (p + 7) (by omega)).trans tp7)
      have hV : oX6 p (fun k => if k = 9 then h else lftS t i w k) M56 := ⟨hv1_1_p.trans (by rw [← hA0]; rfl), w56, hv1_3_p2, hv1_2_p3, hv1_4_p4, hv1_5_p5, hv1_6_p6, hv1_7_p7⟩
      rw [nI_1 w]
      refine x_callV (q := 70) (ci := 6) (c_Pl_from (t := (fun k => if k = 9 then h else lftS t i w k)) (go := go) (A := A) (W := W) (f := w + 1) hp hA hW (by omega) hA0 hW0 hgo hgol hV) eX6_firstDoer_98 gX6_firstDoer_X6_mostFrom hv1_1_p (by omega) rfl rfl rfl (Nat.le_of_ble_eq_true rfl) ⟨Nat.le_refl _, Nat.le_refl _⟩ dX6_firstDoer_67 rfl rfl (fun r67 M67 p67 => ?_)
      obtain ⟨rfl, ⟨h67, hV67⟩, fr67⟩ := p67
      have hU67 : oX6 p (fun k => if k = 9 then h67 else lftS t i w k) M67 := hV67
      obtain ⟨y67_0, y67_1, y67_2, y67_3, y67_4, y67_5, y67_6, y67_7⟩ := hV67
      rw [plM_tb (t := (fun k => if k = 9 then h else lftS t i w k)) (t' := lftS t i w) (fun _ _ => rfl) rfl]
      refine x_iadd (q := 71) dX6_firstDoer_70 rfl ?_
      rw [nIc (show w < 6 by omega) (by decide)]
      refine x_iload_n (q := 72) dX6_firstDoer_71 rfl rfl ?_
      refine x_icmp_lt (t := 78) (q := 75) dX6_firstDoer_72 (by decide) rfl (fun c72 => ?_) (fun c72 => ?_)
      · refine x_aload_n (q := 79) dX6_firstDoer_78 rfl rfl ?_
        refine x_getf (C := RX6) (T := TX6) (N := 10) (k := 3) (q := 82) y67_0 (by omega) rfl hiX6 (by decide) (by decide +kernel) rfl dX6_firstDoer_79 rfl ?_
        refine x_iload (q := 84) dX6_firstDoer_82 rfl rfl ?_
        refine x_dup2 (q := 85) dX6_firstDoer_84 rfl rfl rfl ?_
        refine x_iald (q := 86) y67_1 (by omega) (vp_in_nI (show i < 5 by omega) (by decide)) dX6_firstDoer_85 rfl ?_
        refine x_iload_n (q := 87) dX6_firstDoer_86 rfl rfl ?_
        refine x_iadd (q := 88) dX6_firstDoer_87 rfl ?_
        refine x_iast (q := 89) y67_1 (by omega) (vp_in_nI (show i < 5 by omega) (by decide)) dX6_firstDoer_88 rfl (fun M88 w88 o88 => ?_)
        refine x_iinc (L' := fun x4_89 => [(4, .int x4_89), (3, .int (t 6 (2 ^ w))), (0, .ref p), (1, .int (nI w)), (2, .int goal)]) (q := 92) dX6_firstDoer_89 rfl rfl (by decide) (fun _ => rfl) (fun x4_89 ex4_89 => ?_)
        obtain rfl : x4_89 = nI (i + 1) := ex4_89.trans (nI_1 i)
        refine x_goto (q := 25) dX6_firstDoer_92 (by decide) ?_
        have hv3_8_p := ((o88 (p) (by omega)).trans y67_0)
        have hv3_9_p2 := ((o88 (p + 2) (by omega)).trans y67_2)
        have hv3_10_p3 := ((o88 (p + 3) (by omega)).trans y67_3)
        have hv3_11_p4 := ((o88 (p + 4) (by omega)).trans y67_4)
        have hv3_12_p5 := ((o88 (p + 5) (by omega)).trans y67_5)
        have hv3_13_p6 := ((o88 (p + 6) (by omega)).trans y67_6)
        have hv3_14_p7 := ((o88 (p + 7) (by omega)).trans y67_7)
        rw [fok, if_neg (fun h => h.2 c72)] at hQ
        rw [nIc (show i < 5 by omega) (by decide)] at w88
        have w89 : M88 (p + 1) = .inl (0, 5, .inl (t 3)) := w88.trans (congrArg (fun x : Nat → Int32 => (Sum.inl (0, 5, Sum.inl x) : xE)) (upd_back (t 3) i (t 6 (2 ^ w))))
        refine x_pick (L' := [(4, .int (nI (i + 1))), (3, .int (t 6 (2 ^ w))), (0, .ref p), (1, .int (nI w)), (2, .int goal)]) [0, 1, 2, 3, 4] rfl ?_
        exact ih (i + 1) M88 h67 (by omega) ⟨hv3_8_p, w89, hv3_9_p2, hv3_10_p3, hv3_11_p4, hv3_12_p5, hv3_13_p6, hv3_14_p7⟩ (fun j hj => (o88 j (by omega)).trans ((fr67 j hj).trans ((o56 j (by omega)).trans (hf j hj)))) hQ
      · refine x_iload (q := 77) dX6_firstDoer_75 rfl rfl ?_
        refine x_iret dX6_firstDoer_77 rfl rfl (Nat.le_refl _) ?_
        rw [fok, if_pos ⟨b40, c72⟩] at hQ
        exact hQ M67 h67 hU67 (fun j hj => (fr67 j hj).trans ((o56 j (by omega)).trans (hf j hj)))
    · refine x_if_eq (t := 89) (q := 46) dX6_firstDoer_43 (by decide) rfl (fun c43 => ?_) (fun c43 => absurd c43 (by decide))
      refine x_iinc (L' := fun x4_89 => [(4, .int x4_89), (3, .int (t 6 (2 ^ w))), (0, .ref p), (1, .int (nI w)), (2, .int goal)]) (q := 92) dX6_firstDoer_89 rfl rfl (by decide) (fun _ => rfl) (fun x4_89 ex4_89 => ?_)
      obtain rfl : x4_89 = nI (i + 1) := ex4_89.trans (nI_1 i)
      refine x_goto (q := 25) dX6_firstDoer_92 (by decide) ?_
      rw [fok, if_neg (fun h => b40 h.1)] at hQ
      refine x_pick (L' := [(4, .int (nI (i + 1))), (3, .int (t 6 (2 ^ w))), (0, .ref p), (1, .int (nI w)), (2, .int goal)]) [0, 1, 2, 3, 4] rfl ?_
      exact ih (i + 1) M h (by omega) hT0 hf hQ

set_option maxHeartbeats 4000000 in
set_option maxRecDepth 100000 in
theorem c_Pl_fd {n : Nat} {M : Nat → xE} {p w W A : Nat} {goal : Int32} {t : Nat → Nat → Int32} {go : Nat → Nat} {h : Nat → Int32} (hp : p + 7 < n) (hA : A ≤ 5) (hW : W ≤ 6) (hA0 : t 1 0 = nI A) (hW0 : t 2 0 = nI W) (hgo : ∀ U, U < 2 ^ W → t 8 U = nI (go U)) (hgol : ∀ U, go U ≤ 1000) (hw : w < W) (hT : oX6 p (fun k => if k = 9 then h else t k) M) : xMet mX6_firstDoer [.ref p, .int (nI w), .int goal] n M (fun r M' => some (.int (oI (fdo t go A W w goal))) = r ∧ (∃ h, oX6 p (fun k => if k = 9 then h else lftO t w (fdo t go A W w goal) k) M') ∧ xfr p (p + 8) M M') := by
  have hT0 := hT
  obtain ⟨tp0, tp1, tp2, tp3, tp4, tp5, tp6, tp7⟩ := hT
  have hsh : (1 : Int32) <<< (nI w &&& 31) = nI (2 ^ w) := xshl1 w (by omega)
  have h2w : 2 ^ w < 64 := Nat.lt_of_lt_of_le (Nat.pow_lt_pow_right (by decide) hw) (p2W W hW).1
  have hiX6 : ∀ w ∈ wsX60, w ∈ wsX6_firstDoer := by decide +kernel
  refine xMet.of _ (by decide) rfl (Nat.le_of_ble_eq_true rfl) ?_
  refine x_aload_n (q := 1) dX6_firstDoer_0 rfl rfl ?_
  refine x_iload_n (q := 2) dX6_firstDoer_1 rfl rfl ?_
  refine x_iconst (v := 1) (q := 3) dX6_firstDoer_2 rfl (by decide) ?_
  refine x_iadd (q := 4) dX6_firstDoer_3 rfl ?_
  rw [nI_1 w]
  refine x_callV (q := 7) (ci := 6) (c_Pl_from (t := (fun k => if k = 9 then h else t k)) (go := go) (A := A) (W := W) (f := w + 1) hp hA hW (by omega) hA0 hW0 hgo hgol hT0) eX6_firstDoer_98 gX6_firstDoer_X6_mostFrom tp0 (by omega) rfl rfl rfl (Nat.le_of_ble_eq_true rfl) ⟨Nat.le_refl _, Nat.le_refl _⟩ dX6_firstDoer_4 rfl rfl (fun r4 M4 p4 => ?_)
  obtain ⟨rfl, ⟨h4, hV4⟩, fr4⟩ := p4
  have hU4 : oX6 p (fun k => if k = 9 then h4 else t k) M4 := hV4
  obtain ⟨y4_0, y4_1, y4_2, y4_3, y4_4, y4_5, y4_6, y4_7⟩ := hV4
  rw [plM_tb (t := (fun k => if k = 9 then h else t k)) (t' := t) (fun _ _ => rfl) rfl]
  refine x_iload_n (q := 8) dX6_firstDoer_7 rfl rfl ?_
  refine x_icmp_lt (t := 13) (q := 11) dX6_firstDoer_8 (by decide) rfl (fun c8 => ?_) (fun c8 => ?_)
  · refine x_aload_n (q := 14) dX6_firstDoer_13 rfl rfl ?_
    refine x_getf (C := RX6) (T := TX6) (N := 10) (k := 6) (q := 17) y4_0 (by omega) rfl hiX6 (by decide) (by decide +kernel) rfl dX6_firstDoer_14 rfl ?_
    refine x_iconst (v := 1) (q := 18) dX6_firstDoer_17 rfl (by decide) ?_
    refine x_iload_n (q := 19) dX6_firstDoer_18 rfl rfl ?_
    refine x_ishl (q := 20) dX6_firstDoer_19 rfl ?_
    refine x_iald (q := 21) y4_4 (by omega) (by rw [hsh]; exact vp_in_nI h2w (by decide)) dX6_firstDoer_20 rfl ?_
    refine x_istore_n (L' := fun x3_21 => [(3, .int x3_21), (0, .ref p), (1, .int (nI w)), (2, .int goal)]) (q := 22) dX6_firstDoer_21 rfl (by decide) (fun _ => rfl) (fun x3_21 ex3_21 => ?_)
    obtain rfl : x3_21 = t 6 (2 ^ w) := ex3_21.trans (by rw [hsh, nI_clamp (by omega)]; rfl)
    refine x_iconst (v := 0) (q := 23) dX6_firstDoer_22 rfl (by decide) ?_
    refine x_istore (L' := fun x4_23 => [(4, .int x4_23), (3, .int (t 6 (2 ^ w))), (0, .ref p), (1, .int (nI w)), (2, .int goal)]) (q := 25) dX6_firstDoer_23 rfl (by decide) (fun _ => rfl) (fun x4_23 ex4_23 => ?_)
    subst ex4_23
    exact l_Pl_fd (M0 := M) hp hA hW hA0 hW0 hgo hgol hw A 0 M4 h4 (by omega) hU4 fr4 (fun M h h1 h2 => ⟨by unfold fdo; rw [if_pos c8], ⟨h, by unfold fdo; rw [if_pos c8]; exact h1⟩, h2⟩)
  · refine x_iconst (v := -1) (q := 12) dX6_firstDoer_11 rfl (by decide) ?_
    refine x_iret dX6_firstDoer_12 rfl rfl (Nat.le_refl _) ?_
    exact ⟨by unfold fdo; rw [if_neg c8]; rfl, ⟨h4, by unfold fdo; rw [if_neg c8]; exact hU4⟩, fr4⟩

