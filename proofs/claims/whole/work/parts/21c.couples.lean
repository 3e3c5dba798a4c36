/-- may a and b marry: by what was told and the day -/
def eM (τ δ : Nat → Nat → Int32) (a b : Nat) : Bool := decide (bo (τ 2 a) (nI b) = 1) && (decide (bo (τ 2 b) (nI a) = 1) && (decide (δ 8 a = -1) && decide (δ 8 b = -1)))
def fR (E : Nat → Nat → Bool) (P : Nat) (f : Nat → Int32) (i : Nat) : Nat → Int32 := fun j => if j < i then nI (fbits E j P) else f j
theorem fR_s (E : Nat → Nat → Bool) (P : Nat) (f : Nat → Int32) (i : Nat) : upd (fR E P f i) i (nI (fbits E i P)) = fR E P f (i + 1) := by
  funext j
  unfold upd fR
  by_cases e : j = i
  · subst e; simp
  · rw [if_neg e]
    by_cases h : j < i
    · rw [if_pos h, if_pos (by omega)]
    · rw [if_neg h, if_neg (by omega)]
theorem upd_2 (f : Nat → Int32) (a : Nat) (x y : Int32) : upd (upd f a x) a y = upd f a y := fa_upd_twice f a x y
theorem xmar {δ : Nat → Nat → Int32} {a : Nat} (ha : a < 5) : (¬ δ 8 (nI a).toNatClampNeg = -1) ↔ ¬ δ 8 a = -1 := by rw [nIc ha (by decide)]
theorem eM_like {τ δ : Nat → Nat → Int32} {a b : Nat} (ha : a < 5) (hb : b < 5) (h : ¬ tLike τ (nI a) (nI b)) : eM τ δ a b = false := by
  unfold tLike at h
  rw [nIc ha (by decide), nIc hb (by decide)] at h
  unfold eM
  by_cases h1 : bo (τ 2 a) (nI b) = 1
  · by_cases h2 : bo (τ 2 b) (nI a) = 1
    · exact absurd ⟨h1, h2⟩ h
    · rw [decide_eq_false h2]; simp
  · rw [decide_eq_false h1]; simp
theorem eM_m1 {τ δ : Nat → Nat → Int32} {a b : Nat} (ha : a < 5) (h : ¬ δ 8 (nI a).toNatClampNeg = -1) : eM τ δ a b = false := by
  rw [nIc ha (by decide)] at h
  unfold eM
  rw [decide_eq_false h]; simp
theorem eM_m2 {τ δ : Nat → Nat → Int32} {a b : Nat} (ha : b < 5) (h : ¬ δ 8 (nI b).toNatClampNeg = -1) : eM τ δ a b = false := by
  rw [nIc ha (by decide)] at h
  unfold eM
  rw [decide_eq_false h]; simp
theorem eM_yes {τ δ : Nat → Nat → Int32} {a b : Nat} (ha : a < 5) (hb : b < 5) (h : tLike τ (nI a) (nI b)) (h1 : ¬ ¬ δ 8 (nI a).toNatClampNeg = -1) (h2 : ¬ ¬ δ 8 (nI b).toNatClampNeg = -1) : eM τ δ a b = true := by
  unfold tLike at h
  rw [nIc ha (by decide), nIc hb (by decide)] at h
  rw [nIc ha (by decide)] at h1
  rw [nIc hb (by decide)] at h2
  unfold eM
  rw [decide_eq_true h.1, decide_eq_true h.2, decide_eq_true (Decidable.not_not.mp h1), decide_eq_true (Decidable.not_not.mp h2)]; rfl
set_option maxHeartbeats 4000000 in
set_option maxRecDepth 100000 in
theorem l_Co_fr1 {n p q d P : Nat} {most l0 g0 : Int32} {f h : Nat → Int32} {τ δ : Nat → Nat → Int32} {Q : Option Value → (Nat → xE) → Prop} {M0 : Nat → xE} (hpq : p + 3 ≤ q ∨ q + 11 ≤ p) (hpd : p + 3 ≤ d ∨ d + 4 ≤ p) (hp : p + 2 < n) (hq : q + 10 < n) (hd : d + 3 < n) (hP : P ≤ 5) (h0 : τ 0 0 = nI P) {a : Nat} (ha : a < P) (hk : ∀ M : Nat → xE, M p = .inr (2, [.int most, .int l0, .int g0, .ref (p + 1), .ref (p + 2)]) → M (p + 1) = .inl (0, 5, .inl (upd f a (nI (fbits (eM τ δ) a P)))) → M (p + 2) = .inl (0, 32, .inl h) → oX8 q τ M → oX3 d δ M → xfr p (p + 3) M0 M → X mX2_takeUp 0 0 91 [(3, .int (nI a)), (0, .ref p), (1, .ref q), (2, .ref d)] [] n M Q) : ∀ (k i : Nat) (M : Nat → xE), i + k = P → (M p = .inr (2, [.int most, .int l0, .int g0, .ref (p + 1), .ref (p + 2)])) → (M (p + 1) = .inl (0, 5, .inl (upd f a (nI (fbits (eM τ δ) a i))))) → (M (p + 2) = .inl (0, 32, .inl h)) → (oX8 q τ M) → (oX3 d δ M) → (xfr p (p + 3) M0 M) → X mX2_takeUp 0 0 20 [(4, .int (nI i)), (3, .int (nI a)), (0, .ref p), (1, .ref q), (2, .ref d)] [] n M (Q) := by
  have hiX2 : ∀ w ∈ wsX20, w ∈ wsX2_takeUp := by decide +kernel
  have hiX8 : ∀ w ∈ wsX80, w ∈ wsX2_takeUp := by decide +kernel
  intro k
  induction k with
  | zero =>
    intro i M hik hA h1 h2 hS hDd hf
    have hS0 : M q = .inr (8, [.int (nI P), .ref (q + 1), .ref (q + 2), .int (τ 3 0), .ref (q + 3), .ref (q + 4), .ref (q + 5), .ref (q + 6), .int (τ 8 0), .int (τ 9 0), .ref (q + 7), .ref (q + 8), .int (τ 12 0), .ref (q + 9), .ref (q + 10)]) := by rw [← h0]; exact hS.1
    refine x_iload (q := 22) dX2_takeUp_20 rfl rfl ?_
    refine x_aload_n (q := 23) dX2_takeUp_22 rfl rfl ?_
    refine x_getf (C := RX8) (T := TX8) (N := 15) (k := 0) (q := 26) hS0 (by omega) rfl hiX8 (by decide) (by decide +kernel) rfl dX2_takeUp_23 rfl ?_
    refine x_icmp_ge (t := 91) (q := 29) dX2_takeUp_26 (by decide) rfl (fun c26 => ?_) (fun c26 => absurd (by rw [show i = P by omega]; exact nI_le (Nat.le_refl _) (by omega)) c26)
    have e9 : i = P := by omega
    subst e9
    refine x_pick (L' := [(3, .int (nI a)), (0, .ref p), (1, .ref q), (2, .ref d)]) [1, 2, 3, 4] rfl ?_
    exact hk M hA h1 h2 hS hDd hf
  | succ k ih =>
    intro i M hik hA h1 h2 hS hDd hf
    have hS0 : M q = .inr (8, [.int (nI P), .ref (q + 1), .ref (q + 2), .int (τ 3 0), .ref (q + 3), .ref (q + 4), .ref (q + 5), .ref (q + 6), .int (τ 8 0), .int (τ 9 0), .ref (q + 7), .ref (q + 8), .int (τ 12 0), .ref (q + 9), .ref (q + 10)]) := by rw [← h0]; exact hS.1
    refine x_iload (q := 22) dX2_takeUp_20 rfl rfl ?_
    refine x_aload_n (q := 23) dX2_takeUp_22 rfl rfl ?_
    refine x_getf (C := RX8) (T := TX8) (N := 15) (k := 0) (q := 26) hS0 (by omega) rfl hiX8 (by decide) (by decide +kernel) rfl dX2_takeUp_23 rfl ?_
    refine x_icmp_ge (t := 91) (q := 29) dX2_takeUp_26 (by decide) rfl (fun c26 => absurd c26 (nI_ge (a := i) (b := P) (by omega) (by omega))) (fun c26 => ?_)
    refine x_aload_n (q := 30) dX2_takeUp_29 rfl rfl ?_
    refine x_iload_n (q := 31) dX2_takeUp_30 rfl rfl ?_
    refine x_iload (q := 33) dX2_takeUp_31 rfl rfl ?_
    refine x_callV (q := 36) (ci := 8) (c_Told_like (p := q) (by omega) hS (vp_in_nI (show a < 5 by omega) (by decide)) (vp_in_nI (show i < 5 by omega) (by decide))) eX2_takeUp_24 gX2_takeUp_X8_likeOneAnother hS0 (by omega) rfl rfl rfl (Nat.le_of_ble_eq_true rfl) ⟨Nat.le_refl _, Nat.le_refl _⟩ dX2_takeUp_33 rfl rfl (fun r33 M33 p33 => ?_)
    obtain ⟨rfl, p33⟩ := p33
    rcases p33 with ⟨b33, rfl⟩ | ⟨b33, rfl⟩
    · refine x_if_eq (t := 60) (q := 39) dX2_takeUp_36 (by decide) rfl (fun c36 => absurd c36 (by decide)) (fun c36 => ?_)
      refine x_aload_n (q := 40) dX2_takeUp_39 rfl rfl ?_
      refine x_iload_n (q := 41) dX2_takeUp_40 rfl rfl ?_
      refine x_callV (q := 44) (ci := 3) (c_Day_isMarried (p := d) (by omega) hDd (vp_in_nI (show a < 5 by omega) (by decide))) eX2_takeUp_28 gX2_takeUp_X3_isMarried hDd.1 (by omega) rfl rfl rfl (Nat.le_of_ble_eq_true rfl) ⟨Nat.le_refl _, Nat.le_refl _⟩ dX2_takeUp_41 rfl rfl (fun r41 M41 p41 => ?_)
      obtain ⟨rfl, p41⟩ := p41
      rcases p41 with ⟨b41, rfl⟩ | ⟨b41, rfl⟩
      · refine x_if_ne (t := 60) (q := 47) dX2_takeUp_44 (by decide) rfl (fun c44 => ?_) (fun c44 => absurd c44 (by decide))
        refine x_iconst (v := 0) (q := 61) dX2_takeUp_60 rfl (by decide) ?_
        refine x_istore (L' := fun x5_61 => [(5, .int x5_61), (4, .int (nI i)), (3, .int (nI a)), (0, .ref p), (1, .ref q), (2, .ref d)]) (q := 63) dX2_takeUp_61 rfl (by decide) (fun _ => rfl) (fun x5_61 ex5_61 => ?_)
        have hE : eM τ δ a i = false := eM_m1 (by omega) b41
        rw [show x5_61 = 0 from ex5_61]
        refine x_aload_n (q := 64) dX2_takeUp_63 rfl rfl ?_
        refine x_getf (C := RX2) (T := TX2) (N := 5) (k := 3) (q := 67) hA (by omega) rfl hiX2 (by decide) (by decide +kernel) rfl dX2_takeUp_64 rfl ?_
        refine x_iload_n (q := 68) dX2_takeUp_67 rfl rfl ?_
        refine x_dup2 (q := 69) dX2_takeUp_68 rfl rfl rfl ?_
        refine x_iald (q := 70) h1 (by omega) (vp_in_nI (show a < 5 by omega) (by decide)) dX2_takeUp_69 rfl ?_
        refine x_iload (q := 72) dX2_takeUp_70 rfl rfl ?_
        refine x_if_eq (t := 82) (q := 75) dX2_takeUp_72 (by decide) rfl (fun c72 => ?_) (fun c72 => absurd c72 (by decide))
        refine x_iconst (v := 0) (q := 83) dX2_takeUp_82 rfl (by decide) ?_
        refine x_ior (q := 84) dX2_takeUp_83 rfl ?_
        refine x_iast (q := 85) h1 (by omega) (vp_in_nI (show a < 5 by omega) (by decide)) dX2_takeUp_84 rfl (fun M84 w84 o84 => ?_)
        refine x_iinc (L' := fun x4_85 => [(4, .int x4_85), (5, .int (0)), (3, .int (nI a)), (0, .ref p), (1, .ref q), (2, .ref d)]) (q := 88) dX2_takeUp_85 rfl rfl (by decide) (fun _ => rfl) (fun x4_85 ex4_85 => ?_)
        obtain rfl : x4_85 = nI (i + 1) := ex4_85.trans (nI_1 i)
        refine x_goto (q := 20) dX2_takeUp_88 (by decide) ?_
        rw [nIc (show a < 5 by omega) (by decide)] at w84
        have hfb := fbits_s (eM τ δ) a i (by omega)
        rw [hE] at hfb
        have w85 : M84 (p + 1) = .inl (0, 5, .inl (upd f a (nI (fbits (eM τ δ) a (i + 1))))) := by
          rw [w84, upd_2, pk_us, ← hfb]; rfl
        refine x_pick (L' := [(4, .int (nI (i + 1))), (3, .int (nI a)), (0, .ref p), (1, .ref q), (2, .ref d)]) [0, 2, 3, 4, 5] rfl ?_
        exact ih (i + 1) M84 (by omega) ((o84 _ (by omega)).trans hA) w85 ((o84 _ (by omega)).trans h2) (hS.keep (fun j h1 h2 => o84 j (by omega))) (hDd.keep (fun j h1 h2 => o84 j (by omega))) (fun j hj => (o84 j (by omega)).trans (hf j hj))
      · refine x_if_ne (t := 60) (q := 47) dX2_takeUp_44 (by decide) rfl (fun c44 => absurd c44 (by decide)) (fun c44 => ?_)
        refine x_aload_n (q := 48) dX2_takeUp_47 rfl rfl ?_
        refine x_iload (q := 50) dX2_takeUp_48 rfl rfl ?_
        refine x_callV (q := 53) (ci := 3) (c_Day_isMarried (p := d) (by omega) hDd (vp_in_nI (show i < 5 by omega) (by decide))) eX2_takeUp_28 gX2_takeUp_X3_isMarried hDd.1 (by omega) rfl rfl rfl (Nat.le_of_ble_eq_true rfl) ⟨Nat.le_refl _, Nat.le_refl _⟩ dX2_takeUp_50 rfl rfl (fun r50 M50 p50 => ?_)
        obtain ⟨rfl, p50⟩ := p50
        rcases p50 with ⟨b50, rfl⟩ | ⟨b50, rfl⟩
        · refine x_if_ne (t := 60) (q := 56) dX2_takeUp_53 (by decide) rfl (fun c53 => ?_) (fun c53 => absurd c53 (by decide))
          refine x_iconst (v := 0) (q := 61) dX2_takeUp_60 rfl (by decide) ?_
          refine x_istore (L' := fun x5_61 => [(5, .int x5_61), (4, .int (nI i)), (3, .int (nI a)), (0, .ref p), (1, .ref q), (2, .ref d)]) (q := 63) dX2_takeUp_61 rfl (by decide) (fun _ => rfl) (fun x5_61 ex5_61 => ?_)
          have hE : eM τ δ a i = false := eM_m2 (by omega) b50
          rw [show x5_61 = 0 from ex5_61]
          refine x_aload_n (q := 64) dX2_takeUp_63 rfl rfl ?_
          refine x_getf (C := RX2) (T := TX2) (N := 5) (k := 3) (q := 67) hA (by omega) rfl hiX2 (by decide) (by decide +kernel) rfl dX2_takeUp_64 rfl ?_
          refine x_iload_n (q := 68) dX2_takeUp_67 rfl rfl ?_
          refine x_dup2 (q := 69) dX2_takeUp_68 rfl rfl rfl ?_
          refine x_iald (q := 70) h1 (by omega) (vp_in_nI (show a < 5 by omega) (by decide)) dX2_takeUp_69 rfl ?_
          refine x_iload (q := 72) dX2_takeUp_70 rfl rfl ?_
          refine x_if_eq (t := 82) (q := 75) dX2_takeUp_72 (by decide) rfl (fun c72 => ?_) (fun c72 => absurd c72 (by decide))
          refine x_iconst (v := 0) (q := 83) dX2_takeUp_82 rfl (by decide) ?_
          refine x_ior (q := 84) dX2_takeUp_83 rfl ?_
          refine x_iast (q := 85) h1 (by omega) (vp_in_nI (show a < 5 by omega) (by decide)) dX2_takeUp_84 rfl (fun M84 w84 o84 => ?_)
          refine x_iinc (L' := fun x4_85 => [(4, .int x4_85), (5, .int (0)), (3, .int (nI a)), (0, .ref p), (1, .ref q), (2, .ref d)]) (q := 88) dX2_takeUp_85 rfl rfl (by decide) (fun _ => rfl) (fun x4_85 ex4_85 => ?_)
          obtain rfl : x4_85 = nI (i + 1) := ex4_85.trans (nI_1 i)
          refine x_goto (q := 20) dX2_takeUp_88 (by decide) ?_
          rw [nIc (show a < 5 by omega) (by decide)] at w84
          have hfb := fbits_s (eM τ δ) a i (by omega)
          rw [hE] at hfb
          have w85 : M84 (p + 1) = .inl (0, 5, .inl (upd f a (nI (fbits (eM τ δ) a (i + 1))))) := by
            rw [w84, upd_2, pk_us, ← hfb]; rfl
          refine x_pick (L' := [(4, .int (nI (i + 1))), (3, .int (nI a)), (0, .ref p), (1, .ref q), (2, .ref d)]) [0, 2, 3, 4, 5] rfl ?_
          exact ih (i + 1) M84 (by omega) ((o84 _ (by omega)).trans hA) w85 ((o84 _ (by omega)).trans h2) (hS.keep (fun j h1 h2 => o84 j (by omega))) (hDd.keep (fun j h1 h2 => o84 j (by omega))) (fun j hj => (o84 j (by omega)).trans (hf j hj))
        · refine x_if_ne (t := 60) (q := 56) dX2_takeUp_53 (by decide) rfl (fun c53 => absurd c53 (by decide)) (fun c53 => ?_)
          refine x_iconst (v := 1) (q := 57) dX2_takeUp_56 rfl (by decide) ?_
          refine x_goto (q := 61) dX2_takeUp_57 (by decide) ?_
          refine x_istore (L' := fun x5_61 => [(5, .int x5_61), (4, .int (nI i)), (3, .int (nI a)), (0, .ref p), (1, .ref q), (2, .ref d)]) (q := 63) dX2_takeUp_61 rfl (by decide) (fun _ => rfl) (fun x5_61 ex5_61 => ?_)
          have hE : eM τ δ a i = true := eM_yes (by omega) (by omega) b33 b41 b50
          rw [show x5_61 = 1 from ex5_61]
          refine x_aload_n (q := 64) dX2_takeUp_63 rfl rfl ?_
          refine x_getf (C := RX2) (T := TX2) (N := 5) (k := 3) (q := 67) hA (by omega) rfl hiX2 (by decide) (by decide +kernel) rfl dX2_takeUp_64 rfl ?_
          refine x_iload_n (q := 68) dX2_takeUp_67 rfl rfl ?_
          refine x_dup2 (q := 69) dX2_takeUp_68 rfl rfl rfl ?_
          refine x_iald (q := 70) h1 (by omega) (vp_in_nI (show a < 5 by omega) (by decide)) dX2_takeUp_69 rfl ?_
          refine x_iload (q := 72) dX2_takeUp_70 rfl rfl ?_
          refine x_if_eq (t := 82) (q := 75) dX2_takeUp_72 (by decide) rfl (fun c72 => absurd c72 (by decide)) (fun c72 => ?_)
          refine x_iconst (v := 1) (q := 76) dX2_takeUp_75 rfl (by decide) ?_
          refine x_iload (q := 78) dX2_takeUp_76 rfl rfl ?_
          refine x_ishl (q := 79) dX2_takeUp_78 rfl ?_
          refine x_goto (q := 83) dX2_takeUp_79 (by decide) ?_
          refine x_ior (q := 84) dX2_takeUp_83 rfl ?_
          refine x_iast (q := 85) h1 (by omega) (vp_in_nI (show a < 5 by omega) (by decide)) dX2_takeUp_84 rfl (fun M84 w84 o84 => ?_)
          refine x_iinc (L' := fun x4_85 => [(4, .int x4_85), (5, .int (1)), (3, .int (nI a)), (0, .ref p), (1, .ref q), (2, .ref d)]) (q := 88) dX2_takeUp_85 rfl rfl (by decide) (fun _ => rfl) (fun x4_85 ex4_85 => ?_)
          obtain rfl : x4_85 = nI (i + 1) := ex4_85.trans (nI_1 i)
          refine x_goto (q := 20) dX2_takeUp_88 (by decide) ?_
          rw [nIc (show a < 5 by omega) (by decide)] at w84
          have hfb := fbits_s (eM τ δ) a i (by omega)
          rw [hE] at hfb
          have w85 : M84 (p + 1) = .inl (0, 5, .inl (upd f a (nI (fbits (eM τ δ) a (i + 1))))) := by
            rw [w84, upd_2, pk_us, ← hfb]; rfl
          refine x_pick (L' := [(4, .int (nI (i + 1))), (3, .int (nI a)), (0, .ref p), (1, .ref q), (2, .ref d)]) [0, 2, 3, 4, 5] rfl ?_
          exact ih (i + 1) M84 (by omega) ((o84 _ (by omega)).trans hA) w85 ((o84 _ (by omega)).trans h2) (hS.keep (fun j h1 h2 => o84 j (by omega))) (hDd.keep (fun j h1 h2 => o84 j (by omega))) (fun j hj => (o84 j (by omega)).trans (hf j hj))
    · refine x_if_eq (t := 60) (q := 39) dX2_takeUp_36 (by decide) rfl (fun c36 => ?_) (fun c36 => absurd c36 (by decide))
      refine x_iconst (v := 0) (q := 61) dX2_takeUp_60 rfl (by decide) ?_
      refine x_istore (L' := fun x5_61 => [(5, .int x5_61), (4, .int (nI i)), (3, .int (nI a)), (0, .ref p), (1, .ref q), (2, .ref d)]) (q := 63) dX2_takeUp_61 rfl (by decide) (fun _ => rfl) (fun x5_61 ex5_61 => ?_)
      have hE : eM τ δ a i = false := eM_like (by omega) (by omega) b33
      rw [show x5_61 = 0 from ex5_61]
      refine x_aload_n (q := 64) dX2_takeUp_63 rfl rfl ?_
      refine x_getf (C := RX2) (T := TX2) (N := 5) (k := 3) (q := 67) hA (by omega) rfl hiX2 (by decide) (by decide +kernel) rfl dX2_takeUp_64 rfl ?_
      refine x_iload_n (q := 68) dX2_takeUp_67 rfl rfl ?_
      refine x_dup2 (q := 69) dX2_takeUp_68 rfl rfl rfl ?_
      refine x_iald (q := 70) h1 (by omega) (vp_in_nI (show a < 5 by omega) (by decide)) dX2_takeUp_69 rfl ?_
      refine x_iload (q := 72) dX2_takeUp_70 rfl rfl ?_
      refine x_if_eq (t := 82) (q := 75) dX2_takeUp_72 (by decide) rfl (fun c72 => ?_) (fun c72 => absurd c72 (by decide))
      refine x_iconst (v := 0) (q := 83) dX2_takeUp_82 rfl (by decide) ?_
      refine x_ior (q := 84) dX2_takeUp_83 rfl ?_
      refine x_iast (q := 85) h1 (by omega) (vp_in_nI (show a < 5 by omega) (by decide)) dX2_takeUp_84 rfl (fun M84 w84 o84 => ?_)
      refine x_iinc (L' := fun x4_85 => [(4, .int x4_85), (5, .int (0)), (3, .int (nI a)), (0, .ref p), (1, .ref q), (2, .ref d)]) (q := 88) dX2_takeUp_85 rfl rfl (by decide) (fun _ => rfl) (fun x4_85 ex4_85 => ?_)
      obtain rfl : x4_85 = nI (i + 1) := ex4_85.trans (nI_1 i)
      refine x_goto (q := 20) dX2_takeUp_88 (by decide) ?_
      rw [nIc (show a < 5 by omega) (by decide)] at w84
      have hfb := fbits_s (eM τ δ) a i (by omega)
      rw [hE] at hfb
      have w85 : M84 (p + 1) = .inl (0, 5, .inl (upd f a (nI (fbits (eM τ δ) a (i + 1))))) := by
        rw [w84, upd_2, pk_us, ← hfb]; rfl
      refine x_pick (L' := [(4, .int (nI (i + 1))), (3, .int (nI a)), (0, .ref p), (1, .ref q), (2, .ref d)]) [0, 2, 3, 4, 5] rfl ?_
      exact ih (i + 1) M84 (by omega) ((o84 _ (by omega)).trans hA) w85 ((o84 _ (by omega)).trans h2) (hS.keep (fun j h1 h2 => o84 j (by omega))) (hDd.keep (fun j h1 h2 => o84 j (by omega))) (fun j hj => (o84 j (by omega)).trans (hf j hj))

set_option maxHeartbeats 4000000 in
set_option maxRecDepth 100000 in
theorem l_Co_fr2 {n p q d P : Nat} {most l0 g0 : Int32} {f h : Nat → Int32} {τ δ : Nat → Nat → Int32} {Q : Option Value → (Nat → xE) → Prop} {M0 : Nat → xE} (hpq : p + 3 ≤ q ∨ q + 11 ≤ p) (hpd : p + 3 ≤ d ∨ d + 4 ≤ p) (hp : p + 2 < n) (hq : q + 10 < n) (hd : d + 3 < n) (hP : P ≤ 5) (h0 : τ 0 0 = nI P) (hk : ∀ M : Nat → xE, M p = .inr (2, [.int most, .int l0, .int g0, .ref (p + 1), .ref (p + 2)]) → M (p + 1) = .inl (0, 5, .inl (fR (eM τ δ) P f P)) → M (p + 2) = .inl (0, 32, .inl h) → oX8 q τ M → oX3 d δ M → xfr p (p + 3) M0 M → X mX2_takeUp 0 0 97 [(3, .int (nI P)), (0, .ref p), (1, .ref q), (2, .ref d)] [] n M Q) : ∀ (k i : Nat) (M : Nat → xE), i + k = P → (M p = .inr (2, [.int most, .int l0, .int g0, .ref (p + 1), .ref (p + 2)])) → (M (p + 1) = .inl (0, 5, .inl (fR (eM τ δ) P f i))) → (M (p + 2) = .inl (0, 32, .inl h)) → (oX8 q τ M) → (oX3 d δ M) → (xfr p (p + 3) M0 M) → X mX2_takeUp 0 0 2 [(3, .int (nI i)), (0, .ref p), (1, .ref q), (2, .ref d)] [] n M (Q) := by
  have hiX2 : ∀ w ∈ wsX20, w ∈ wsX2_takeUp := by decide +kernel
  have hiX8 : ∀ w ∈ wsX80, w ∈ wsX2_takeUp := by decide +kernel
  intro k
  induction k with
  | zero =>
    intro i M hik hA h1 h2 hS hDd hf
    have hS0 : M q = .inr (8, [.int (nI P), .ref (q + 1), .ref (q + 2), .int (τ 3 0), .ref (q + 3), .ref (q + 4), .ref (q + 5), .ref (q + 6), .int (τ 8 0), .int (τ 9 0), .ref (q + 7), .ref (q + 8), .int (τ 12 0), .ref (q + 9), .ref (q + 10)]) := by rw [← h0]; exact hS.1
    refine x_iload_n (q := 3) dX2_takeUp_2 rfl rfl ?_
    refine x_aload_n (q := 4) dX2_takeUp_3 rfl rfl ?_
    refine x_getf (C := RX8) (T := TX8) (N := 15) (k := 0) (q := 7) hS0 (by omega) rfl hiX8 (by decide) (by decide +kernel) rfl dX2_takeUp_4 rfl ?_
    refine x_icmp_ge (t := 97) (q := 10) dX2_takeUp_7 (by decide) rfl (fun c7 => ?_) (fun c7 => absurd (by rw [show i = P by omega]; exact nI_le (Nat.le_refl _) (by omega)) c7)
    have e9 : i = P := by omega
    subst e9
    exact hk M hA h1 h2 hS hDd hf
  | succ k ih =>
    intro i M hik hA h1 h2 hS hDd hf
    have hS0 : M q = .inr (8, [.int (nI P), .ref (q + 1), .ref (q + 2), .int (τ 3 0), .ref (q + 3), .ref (q + 4), .ref (q + 5), .ref (q + 6), .int (τ 8 0), .int (τ 9 0), .ref (q + 7), .ref (q + 8), .int (τ 12 0), .ref (q + 9), .ref (q + 10)]) := by rw [← h0]; exact hS.1
    refine x_iload_n (q := 3) dX2_takeUp_2 rfl rfl ?_
    refine x_aload_n (q := 4) dX2_takeUp_3 rfl rfl ?_
    refine x_getf (C := RX8) (T := TX8) (N := 15) (k := 0) (q := 7) hS0 (by omega) rfl hiX8 (by decide) (by decide +kernel) rfl dX2_takeUp_4 rfl ?_
    refine x_icmp_ge (t := 97) (q := 10) dX2_takeUp_7 (by decide) rfl (fun c7 => absurd c7 (nI_ge (a := i) (b := P) (by omega) (by omega))) (fun c7 => ?_)
    refine x_aload_n (q := 11) dX2_takeUp_10 rfl rfl ?_
    refine x_getf (C := RX2) (T := TX2) (N := 5) (k := 3) (q := 14) hA (by omega) rfl hiX2 (by decide) (by decide +kernel) rfl dX2_takeUp_11 rfl ?_
    refine x_iload_n (q := 15) dX2_takeUp_14 rfl rfl ?_
    refine x_iconst (v := 0) (q := 16) dX2_takeUp_15 rfl (by decide) ?_
    refine x_iast (q := 17) h1 (by omega) (vp_in_nI (show i < 5 by omega) (by decide)) dX2_takeUp_16 rfl (fun M16 w16 o16 => ?_)
    refine x_iconst (v := 0) (q := 18) dX2_takeUp_17 rfl (by decide) ?_
    refine x_istore (L' := fun x4_18 => [(4, .int x4_18), (3, .int (nI i)), (0, .ref p), (1, .ref q), (2, .ref d)]) (q := 20) dX2_takeUp_18 rfl (by decide) (fun _ => rfl) (fun x4_18 ex4_18 => ?_)
    subst ex4_18
    rw [nIc (show i < 5 by omega) (by decide)] at w16
    refine l_Co_fr1 (a := i) (f := fR (eM τ δ) P f i) (M0 := M0) hpq hpd hp hq hd hP h0 (show i < P by omega) (fun M9 g1 g2 g3 g4 g5 g6 => ?_) P 0 M16 (by omega) ((o16 _ (by omega)).trans hA) w16 ((o16 _ (by omega)).trans h2) (hS.keep (fun j h1 h2 => o16 j (by omega))) (hDd.keep (fun j h1 h2 => o16 j (by omega))) (fun j hj => (o16 j (by omega)).trans (hf j hj))
    rw [fR_s] at g2
    refine x_iinc (L' := fun x3_91 => [(3, .int x3_91), (0, .ref p), (1, .ref q), (2, .ref d)]) (q := 94) dX2_takeUp_91 rfl rfl (by decide) (fun _ => rfl) (fun x3_91 ex3_91 => ?_)
    obtain rfl : x3_91 = nI (i + 1) := ex3_91.trans (nI_1 i)
    refine x_goto (q := 2) dX2_takeUp_94 (by decide) ?_
    refine x_pick (L' := [(3, .int (nI (i + 1))), (0, .ref p), (1, .ref q), (2, .ref d)]) [0, 1, 2, 3] rfl ?_
    exact ih (i + 1) M9 (by omega) g1 g2 g3 g4 g5 g6
    

