theorem pwF_tb {t t' : Nat → Nat → Int32} {go g : Nat → Nat} {f a S : Nat} (h : ∀ U, ftB t a U = ftB t' a U) : ∀ k part acc, pwF t go g f a S k part acc = pwF t' go g f a S k part acc
  | 0, _, _ => rfl
  | k + 1, part, acc => by
    rw [pwF, pwF, h]
    split
    · rfl
    · exact pwF_tb h k _ _
theorem pwF_gg {t : Nat → Nat → Int32} {go g g' : Nat → Nat} {f a S : Nat} (hS : S < 64) (h : ∀ U, U ≤ S → g U = g' U) : ∀ k part acc, part &&& S = part → pwF t go g f a S k part acc = pwF t go g' f a S k part acc
  | 0, _, _, _ => rfl
  | k + 1, part, acc, hs => by
    have hle : part ≤ S := hs ▸ Nat.and_le_right
    rw [pwF, pwF, h _ (xor_sub hS (by omega) hs).2]
    split
    · rfl
    · exact pwF_gg hS h k _ _ (by rw [Nat.and_assoc, Nat.and_self])
theorem pm_c0 {t : Nat → Nat → Int32} {go : Nat → Nat} {f a U : Nat} (hl : 0 < t 3 a) : (if 0 < U then pmk t go f (a + 1) U else pmk t go f a U) = pmk t go f (a + 1) U := by
  by_cases h5 : 0 < U
  · rw [if_pos h5]
  · rw [if_neg h5, show U = 0 by omega, pmk, if_pos hl]; rfl
set_option maxHeartbeats 4000000 in
set_option maxRecDepth 100000 in
theorem l_Pl_from1 {n p f W A : Nat} {t : Nat → Nat → Int32} {go : Nat → Nat} {Q : Option Value → (Nat → xE) → Prop} {M0 : Nat → xE} (hp : p + 7 < n) (hA : A ≤ 5) (hW : W ≤ 6) (hf : f ≤ W) (hA0 : t 1 0 = nI A) (hgo : ∀ U, U < 2 ^ W → t 8 U = nI (go U)) (hgol : ∀ U, go U ≤ 1000) {a : Nat} (ha : a < A) (hl : 0 < t 3 a) (hk : ∀ (M : Nat → xE) (h : Nat → Int32), oX6 p (fun k => if k = 9 then h else t k) M → (∀ U, U < 2 ^ (W - f) → h U = nI (pmk t go f (a + 1) U)) → xfr p (p + 8) M0 M → X mX6_mostFrom 0 0 71 [(3, .int (nI a)), (0, .ref p), (1, .int (nI f)), (2, .int (nI (2 ^ (W - f))))] [] n M Q) : ∀ (k c : Nat) (M : Nat → xE) (h : Nat → Int32), c ≤ k → oX6 p (fun k => if k = 9 then h else t k) M → c < 2 ^ (W - f) → (∀ U, U < 2 ^ (W - f) → h U = nI (if c < U then pmk t go f (a + 1) U else pmk t go f a U)) → xfr p (p + 8) M0 M → X mX6_mostFrom 0 0 36 [(4, .int (nI c)), (0, .ref p), (1, .int (nI f)), (2, .int (nI (2 ^ (W - f)))), (3, .int (nI a))] [] n M Q := by
  have hiX6 : ∀ w ∈ wsX60, w ∈ wsX6_mostFrom := by decide +kernel
  intro k
  induction k with
  | zero =>
    intro c M h hck hT hc hi hf2
    have hT0 := hT
    obtain ⟨tp0, tp1, tp2, tp3, tp4, tp5, tp6, tp7⟩ := hT
    have h64 := (p2W (W - f) (by omega)).1
    refine x_iload (q := 38) dX6_mostFrom_36 rfl rfl ?_
    refine x_if_le (t := 71) (q := 41) dX6_mostFrom_38 (by decide) rfl (fun c38 => ?_) (fun c38 => absurd (show nI c ≤ 0 by rw [show c = 0 by omega]; decide) c38)
    have e9 : c = 0 := by omega
    subst e9
    exact x_pick (L' := [(3, .int (nI a)), (0, .ref p), (1, .int (nI f)), (2, .int (nI (2 ^ (W - f))))]) [4, 1, 2, 3] rfl (hk M h hT0 (fun U hU => by rw [hi U hU, pm_c0 hl]) hf2)
  | succ k ih =>
    intro c M h hck hT hc hi hf2
    have hT0 := hT
    obtain ⟨tp0, tp1, tp2, tp3, tp4, tp5, tp6, tp7⟩ := hT
    have h64 := (p2W (W - f) (by omega)).1
    refine x_iload (q := 38) dX6_mostFrom_36 rfl rfl ?_
    refine x_if_le (t := 71) (q := 41) dX6_mostFrom_38 (by decide) rfl (fun c38 => ?_) (fun c38 => ?_)
    · have e9 : c = 0 := Nat.eq_zero_of_not_pos (fun h => absurd c38 (nI_nle h (by omega)))
      subst e9
      exact x_pick (L' := [(3, .int (nI a)), (0, .ref p), (1, .int (nI f)), (2, .int (nI (2 ^ (W - f))))]) [4, 1, 2, 3] rfl (hk M h hT0 (fun U hU => by rw [hi U hU, pm_c0 hl]) hf2)
    · refine x_aload_n (q := 42) dX6_mostFrom_41 rfl rfl ?_
      refine x_getf (C := RX6) (T := TX6) (N := 10) (k := 3) (q := 45) tp0 (by omega) rfl hiX6 (by decide) (by decide +kernel) rfl dX6_mostFrom_42 rfl ?_
      refine x_iload_n (q := 46) dX6_mostFrom_45 rfl rfl ?_
      refine x_iald (q := 47) tp1 (by omega) (vp_in_nI (show a < 5 by omega) (by decide)) dX6_mostFrom_46 rfl ?_
      refine x_if_le (t := 71) (q := 50) dX6_mostFrom_47 (by decide) rfl (fun c47 => absurd (show 0 < t 3 (nI a).toNatClampNeg by rw [nIc (show a < 5 by omega) (by decide)]; exact hl) (xle_nlt.mpr c47)) (fun c47 => ?_)
      refine x_aload_n (q := 51) dX6_mostFrom_50 rfl rfl ?_
      refine x_getf (C := RX6) (T := TX6) (N := 10) (k := 9) (q := 54) tp0 (by omega) rfl hiX6 (by decide) (by decide +kernel) rfl dX6_mostFrom_51 rfl ?_
      refine x_iload (q := 56) dX6_mostFrom_54 rfl rfl ?_
      refine x_aload_n (q := 57) dX6_mostFrom_56 rfl rfl ?_
      refine x_iload_n (q := 58) dX6_mostFrom_57 rfl rfl ?_
      refine x_iload (q := 60) dX6_mostFrom_58 rfl rfl ?_
      refine x_iload_n (q := 61) dX6_mostFrom_60 rfl rfl ?_
      have hc0 : 0 < c := Nat.pos_of_ne_zero (fun h => c38 (by rw [h]; decide))
      have hle : ∀ U, pmk t go f a U ≤ 100000 := fun U => Nat.le_trans (pmk_le hgol a U) (Nat.le_trans (Nat.mul_le_mul_right 1000 (show a ≤ 5 by omega)) (by decide))
      refine x_callV (q := 64) (ci := 6) (c_Pl_with (t := (fun k => if k = 9 then h else t k)) (go := go) (g := pmk t go f a) (W := W) hp (by omega) hW hf hc hgo hgol (fun U hU => (hi U (Nat.lt_of_le_of_lt hU hc)).trans (by rw [if_neg (by omega)])) hle hT0) eX6_mostFrom_90 gX6_mostFrom_X6_mostWith tp0 (by omega) rfl rfl rfl (Nat.le_of_ble_eq_true rfl) ⟨Nat.le_refl _, Nat.le_refl _⟩ dX6_mostFrom_61 rfl rfl (fun r61 M61 p61 => ?_)
      obtain ⟨rfl, rfl⟩ := p61
      refine x_iast (q := 65) tp7 (by omega) (vp_in_nI (by omega) (by decide)) dX6_mostFrom_64 rfl (fun M64 w64 o64 => ?_)
      refine x_iinc (L' := fun x4_65 => [(4, .int x4_65), (0, .ref p), (1, .int (nI f)), (2, .int (nI (2 ^ (W - f)))), (3, .int (nI a))]) (q := 68) dX6_mostFrom_65 rfl rfl (by decide) (fun _ => rfl) (fun x4_65 ex4_65 => ?_)
      refine x_goto (q := 36) dX6_mostFrom_68 (by decide) ?_
      have hv1_1_p := ((o64 (p) (by omega)).trans tp0)
      have hv1_2_p1 := ((o64 (p + 1) (by omega)).trans tp1)
      have hv1_3_p2 := ((o64 (p + 2) (by omega)).trans tp2)
      have hv1_4_p3 := ((o64 (p + 3) (by omega)).trans tp3)
      have hv1_5_p4 := ((o64 (p + 4) (by omega)).trans tp4)
      have hv1_6_p5 := ((o64 (p + 5) (by omega)).trans tp5)
      have hv1_7_p6 := ((o64 (p + 6) (by omega)).trans tp6)
      rw [nI_clamp (by omega), pwF_tb (t := fun k => if k = 9 then h else t k) (t' := t) (fun U => rfl)] at w64
      obtain rfl : x4_65 = nI (c - 1) := ex4_65.trans (by rw [xm1]; exact pk_sub (b := 1) (by omega))
      refine ih (c - 1) M64 (upd h c (nI (pwF t go (pmk t go f a) f a c c c (pmk t go f a c)))) (by omega) ⟨hv1_1_p, hv1_2_p1, hv1_3_p2, hv1_4_p3, hv1_5_p4, hv1_6_p5, hv1_7_p6, w64⟩ (by omega) (fun U hU => ?_) (fun j hj => (o64 j (by omega)).trans (hf2 j hj))
      by_cases e : U = c
      · subst e
        rw [pk_us, if_pos (by omega), pmk, if_pos hl]
      · rw [pk_un e, hi U hU]
        by_cases h5 : c < U
        · rw [if_pos h5, if_pos (by omega)]
        · rw [if_neg h5, if_neg (by omega)]
set_option maxHeartbeats 4000000 in
set_option maxRecDepth 100000 in
theorem l_Pl_from2 {n p f W A : Nat} {t : Nat → Nat → Int32} {go : Nat → Nat} {Q : Option Value → (Nat → xE) → Prop} {M0 : Nat → xE} (hp : p + 7 < n) (hA : A ≤ 5) (hW : W ≤ 6) (hf : f ≤ W) (hA0 : t 1 0 = nI A) (hgo : ∀ U, U < 2 ^ W → t 8 U = nI (go U)) (hgol : ∀ U, go U ≤ 1000) (hQ : ∀ (M : Nat → xE) (h : Nat → Int32), oX6 p (fun k => if k = 9 then h else t k) M → xfr p (p + 8) M0 M → Q (some (.int (nI (pmk t go f A (2 ^ (W - f) - 1))))) M) : ∀ (k i : Nat) (M : Nat → xE) (h : Nat → Int32), i + k = A → (oX6 p (fun k => if k = 9 then h else t k) M) → (∀ U, U < 2 ^ (W - f) → h U = nI (pmk t go f i U)) → (xfr p (p + 8) M0 M) → X mX6_mostFrom 0 0 23 [(3, .int (nI i)), (0, .ref p), (1, .int (nI f)), (2, .int (nI (2 ^ (W - f))))] [] n M (Q) := by
  have hiX6 : ∀ w ∈ wsX60, w ∈ wsX6_mostFrom := by decide +kernel
  intro k
  induction k with
  | zero =>
    intro i M h hik hT hi hf2
    have hT0 := hT
    obtain ⟨tp0, tp1, tp2, tp3, tp4, tp5, tp6, tp7⟩ := hT
    have hpw := p2W (W - f) (by omega)
    have hlast : nI (2 ^ (W - f)) - 1 = nI (2 ^ (W - f) - 1) := pk_sub (b := 1) hpw.2
    have tp0 : M p = .inr (6, [.int (t 0 0), .int (nI A), .int (t 2 0), .ref (p + 1), .ref (p + 2), .ref (p + 3), .ref (p + 4), .ref (p + 5), .ref (p + 6), .ref (p + 7)]) := by rw [tp0, ← hA0]; rfl
    refine x_iload_n (q := 24) dX6_mostFrom_23 rfl rfl ?_
    refine x_aload_n (q := 25) dX6_mostFrom_24 rfl rfl ?_
    refine x_getf (C := RX6) (T := TX6) (N := 10) (k := 1) (q := 28) tp0 (by omega) rfl hiX6 (by decide) (by decide +kernel) rfl dX6_mostFrom_25 rfl ?_
    refine x_icmp_ge (t := 77) (q := 31) dX6_mostFrom_28 (by decide) rfl (fun c28 => ?_) (fun c28 => absurd (by rw [show i = A by omega]; exact nI_le (Nat.le_refl _) (by omega)) c28)
    refine x_aload_n (q := 78) dX6_mostFrom_77 rfl rfl ?_
    refine x_getf (C := RX6) (T := TX6) (N := 10) (k := 9) (q := 81) tp0 (by omega) rfl hiX6 (by decide) (by decide +kernel) rfl dX6_mostFrom_78 rfl ?_
    refine x_iload_n (q := 82) dX6_mostFrom_81 rfl rfl ?_
    refine x_iconst (v := 1) (q := 83) dX6_mostFrom_82 rfl (by decide) ?_
    refine x_isub (q := 84) dX6_mostFrom_83 rfl ?_
    refine x_iald (q := 85) tp7 (by omega) (by rw [hlast]; exact vp_in_nI (by omega) (by decide)) dX6_mostFrom_84 rfl ?_
    refine x_iret dX6_mostFrom_85 rfl rfl (Nat.le_refl _) ?_
    rw [hlast, nI_clamp (by omega), show (fun k => if k = 9 then h else t k) 9 (2 ^ (W - f) - 1) = nI (pmk t go f i (2 ^ (W - f) - 1)) from hi _ (by omega), show i = A by omega]
    exact hQ M h hT0 hf2
  | succ k ih =>
    intro i M h hik hT hi hf2
    have hT0 := hT
    obtain ⟨tp0, tp1, tp2, tp3, tp4, tp5, tp6, tp7⟩ := hT
    have hpw := p2W (W - f) (by omega)
    have hlast : nI (2 ^ (W - f)) - 1 = nI (2 ^ (W - f) - 1) := pk_sub (b := 1) hpw.2
    have tp0 : M p = .inr (6, [.int (t 0 0), .int (nI A), .int (t 2 0), .ref (p + 1), .ref (p + 2), .ref (p + 3), .ref (p + 4), .ref (p + 5), .ref (p + 6), .ref (p + 7)]) := by rw [tp0, ← hA0]; rfl
    refine x_iload_n (q := 24) dX6_mostFrom_23 rfl rfl ?_
    refine x_aload_n (q := 25) dX6_mostFrom_24 rfl rfl ?_
    refine x_getf (C := RX6) (T := TX6) (N := 10) (k := 1) (q := 28) tp0 (by omega) rfl hiX6 (by decide) (by decide +kernel) rfl dX6_mostFrom_25 rfl ?_
    refine x_icmp_ge (t := 77) (q := 31) dX6_mostFrom_28 (by decide) rfl (fun c28 => absurd c28 (nI_ge (a := i) (b := A) (by omega) (by omega))) (fun c28 => ?_)
    refine x_iload_n (q := 32) dX6_mostFrom_31 rfl rfl ?_
    refine x_iconst (v := 1) (q := 33) dX6_mostFrom_32 rfl (by decide) ?_
    refine x_isub (q := 34) dX6_mostFrom_33 rfl ?_
    refine x_istore (L' := fun x4_34 => [(4, .int x4_34), (3, .int (nI i)), (0, .ref p), (1, .int (nI f)), (2, .int (nI (2 ^ (W - f))))]) (q := 36) dX6_mostFrom_34 rfl (by decide) (fun _ => rfl) (fun x4_34 ex4_34 => ?_)
    obtain rfl : x4_34 = nI (2 ^ (W - f) - 1) := ex4_34.trans (pk_sub (b := 1) (p2W (W - f) (by omega)).2)
    refine x_pick (L' := [(4, .int (nI (2 ^ (W - f) - 1))), (0, .ref p), (1, .int (nI f)), (2, .int (nI (2 ^ (W - f)))), (3, .int (nI i))]) [0, 2, 3, 4, 1] rfl ?_
    by_cases hl : 0 < t 3 i
    · refine l_Pl_from1 (t := t) (M0 := M0) hp hA hW hf hA0 hgo hgol (show i < A by omega) hl (fun M9 h9 g1 g2 g3 => ?_) (2 ^ (W - f) - 1) (2 ^ (W - f) - 1) M h (Nat.le_refl _) hT0 (by have := (p2W (W - f) (by omega)).2; omega) (fun U hU => by rw [hi U hU, if_neg (by omega)]) hf2
      refine x_iinc (L' := fun x3_71 => [(3, .int x3_71), (0, .ref p), (1, .int (nI f)), (2, .int (nI (2 ^ (W - f))))]) (q := 74) dX6_mostFrom_71 rfl rfl (by decide) (fun _ => rfl) (fun x3_71 ex3_71 => ?_)
      obtain rfl : x3_71 = nI (i + 1) := ex3_71.trans (nI_1 i)
      refine x_goto (q := 23) dX6_mostFrom_74 (by decide) ?_
      refine x_pick (L' := [(3, .int (nI (i + 1))), (0, .ref p), (1, .int (nI f)), (2, .int (nI (2 ^ (W - f))))]) [0, 1, 2, 3] rfl ?_
      exact ih (i + 1) M9 _ (by omega) g1 g2 g3
    · refine x_iload (q := 38) dX6_mostFrom_36 rfl rfl ?_
      refine x_if_le (t := 71) (q := 41) dX6_mostFrom_38 (by decide) rfl (fun c38 => ?_) (fun c38 => ?_)
      · refine x_iinc (L' := fun x3_71 => [(3, .int x3_71), (4, .int (nI (2 ^ (W - f) - 1))), (0, .ref p), (1, .int (nI f)), (2, .int (nI (2 ^ (W - f))))]) (q := 74) dX6_mostFrom_71 rfl rfl (by decide) (fun _ => rfl) (fun x3_71 ex3_71 => ?_)
        obtain rfl : x3_71 = nI (i + 1) := ex3_71.trans (nI_1 i)
        refine x_goto (q := 23) dX6_mostFrom_74 (by decide) ?_
        refine x_pick (L' := [(3, .int (nI (i + 1))), (0, .ref p), (1, .int (nI f)), (2, .int (nI (2 ^ (W - f))))]) [0, 2, 3, 4] rfl ?_
        exact ih (i + 1) M h (by omega) hT0 (fun U hU => by rw [hi U hU, pmk, if_neg hl]) hf2
      · refine x_aload_n (q := 42) dX6_mostFrom_41 rfl rfl ?_
        refine x_getf (C := RX6) (T := TX6) (N := 10) (k := 3) (q := 45) tp0 (by omega) rfl hiX6 (by decide) (by decide +kernel) rfl dX6_mostFrom_42 rfl ?_
        refine x_iload_n (q := 46) dX6_mostFrom_45 rfl rfl ?_
        refine x_iald (q := 47) tp1 (by omega) (vp_in_nI (show i < 5 by omega) (by decide)) dX6_mostFrom_46 rfl ?_
        refine x_if_le (t := 71) (q := 50) dX6_mostFrom_47 (by decide) rfl (fun c47 => ?_) (fun c47 => absurd (show 0 < t 3 i by rw [← nIc (show i < 5 by omega) (show 5 < 2 ^ 31 by decide)]; exact xlt_nle.mp c47) hl)
        refine x_iinc (L' := fun x3_71 => [(3, .int x3_71), (4, .int (nI (2 ^ (W - f) - 1))), (0, .ref p), (1, .int (nI f)), (2, .int (nI (2 ^ (W - f))))]) (q := 74) dX6_mostFrom_71 rfl rfl (by decide) (fun _ => rfl) (fun x3_71 ex3_71 => ?_)
        obtain rfl : x3_71 = nI (i + 1) := ex3_71.trans (nI_1 i)
        refine x_goto (q := 23) dX6_mostFrom_74 (by decide) ?_
        refine x_pick (L' := [(3, .int (nI (i + 1))), (0, .ref p), (1, .int (nI f)), (2, .int (nI (2 ^ (W - f))))]) [0, 2, 3, 4] rfl ?_
        exact ih (i + 1) M h (by omega) hT0 (fun U hU => by rw [hi U hU, pmk, if_neg hl]) hf2
    

theorem xmax0 {a : Nat} (h : a < 2 ^ 31) : (if (0 : Int32) < nI a then nI a else 0) = nI a := by
  by_cases h0 : a = 0
  · subst h0; rfl
  · rw [if_pos (show (0 : Int32) < nI a from nI_lt (a := 0) (show 0 < a by omega) h)]
def plM (t : Nat → Nat → Int32) (go : Nat → Nat) (A W f : Nat) : Nat := pmk t go f A (2 ^ (W - f) - 1)
theorem plM_le {t : Nat → Nat → Int32} {go : Nat → Nat} {A W f : Nat} (hgol : ∀ U, go U ≤ 1000) (hA : A ≤ 5) : plM t go A W f ≤ 5000 := Nat.le_trans (pmk_le hgol A _) (Nat.mul_le_mul_right 1000 hA)
set_option maxHeartbeats 4000000 in
set_option maxRecDepth 100000 in
theorem c_Pl_from {n : Nat} {M : Nat → xE} {p f W A : Nat} {t : Nat → Nat → Int32} {go : Nat → Nat} (hp : p + 7 < n) (hA : A ≤ 5) (hW : W ≤ 6) (hf : f ≤ W) (hA0 : t 1 0 = nI A) (hW0 : t 2 0 = nI W) (hgo : ∀ U, U < 2 ^ W → t 8 U = nI (go U)) (hgol : ∀ U, go U ≤ 1000) (hT : oX6 p t M) : xMet mX6_mostFrom [.ref p, .int (nI f)] n M (fun r M' => some (.int (nI (plM t go A W f))) = r ∧ (∃ h, oX6 p (fun k => if k = 9 then h else t k) M') ∧ xfr p (p + 8) M M') := by
  obtain ⟨tp0, tp1, tp2, tp3, tp4, tp5, tp6, tp7⟩ := hT
  rw [hW0] at tp0
  have hwf : nI W - nI f = nI (W - f) := pk_sub hf
  have hiX6 : ∀ w ∈ wsX60, w ∈ wsX6_mostFrom := by decide +kernel
  refine xMet.of _ (by decide) rfl (Nat.le_of_ble_eq_true rfl) ?_
  refine x_iconst (v := 1) (q := 1) dX6_mostFrom_0 rfl (by decide) ?_
  refine x_iconst (v := 0) (q := 2) dX6_mostFrom_1 rfl (by decide) ?_
  refine x_aload_n (q := 3) dX6_mostFrom_2 rfl rfl ?_
  refine x_getf (C := RX6) (T := TX6) (N := 10) (k := 2) (q := 6) tp0 (by omega) rfl hiX6 (by decide) (by decide +kernel) rfl dX6_mostFrom_3 rfl ?_
  refine x_iload_n (q := 7) dX6_mostFrom_6 rfl rfl ?_
  refine x_isub (q := 8) dX6_mostFrom_7 rfl ?_
  refine x_mmax (q := 11) (by decide +kernel) (by decide +kernel) (by decide +kernel) (by decide +kernel) (by decide) (Nat.le_of_ble_eq_true rfl) ⟨Nat.zero_le _, Nat.zero_le _⟩ dX6_mostFrom_8 rfl ?_
  refine x_ishl (q := 12) dX6_mostFrom_11 rfl ?_
  refine x_istore_n (L' := fun x2_12 => [(2, .int x2_12), (0, .ref p), (1, .int (nI f))]) (q := 13) dX6_mostFrom_12 rfl (by decide) (fun _ => rfl) (fun x2_12 ex2_12 => ?_)
  obtain rfl : x2_12 = nI (2 ^ (W - f)) := ex2_12.trans (by rw [hwf, xmax0 (by omega), xshl1 _ (by omega)])
  refine x_aload_n (q := 14) dX6_mostFrom_13 rfl rfl ?_
  refine x_getf (C := RX6) (T := TX6) (N := 10) (k := 9) (q := 17) tp0 (by omega) rfl hiX6 (by decide) (by decide +kernel) rfl dX6_mostFrom_14 rfl ?_
  refine x_iconst (v := 0) (q := 18) dX6_mostFrom_17 rfl (by decide) ?_
  refine x_callS (q := 21) (c_fillI (by omega) (by decide) tp7) eX6_mostFrom_84 gX6_mostFrom_J7_fill_53178 rfl (Nat.le_of_ble_eq_true rfl) ⟨Nat.le_refl _, Nat.le_refl _⟩ dX6_mostFrom_18 rfl rfl (fun r18 M18 p18 => ?_)
  obtain ⟨rfl, w18, o18⟩ := p18
  refine x_iconst (v := 0) (q := 22) dX6_mostFrom_21 rfl (by decide) ?_
  refine x_istore_n (L' := fun x3_22 => [(3, .int x3_22), (2, .int (nI (2 ^ (W - f)))), (0, .ref p), (1, .int (nI f))]) (q := 23) dX6_mostFrom_22 rfl (by decide) (fun _ => rfl) (fun x3_22 ex3_22 => ?_)
  subst ex3_22
  refine x_pick (L' := [(3, .int 0), (0, .ref p), (1, .int (nI f)), (2, .int (nI (2 ^ (W - f))))]) [0, 2, 3, 1] rfl ?_
  exact l_Pl_from2 (M0 := M) hp hA hW hf hA0 hgo hgol (fun M h h1 h2 => ⟨rfl, ⟨h, h1⟩, h2⟩) A 0 M18 (fun _ => 0) (by omega) ⟨(o18 _ (by omega)).trans (by rw [tp0, ← hW0]; rfl), (o18 _ (by omega)).trans tp1, (o18 _ (by omega)).trans tp2, (o18 _ (by omega)).trans tp3, (o18 _ (by omega)).trans tp4, (o18 _ (by omega)).trans tp5, (o18 _ (by omega)).trans tp6, w18⟩ (fun U _ => rfl) (fun j hj => o18 j (by omega))

