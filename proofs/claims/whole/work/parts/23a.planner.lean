/-- can the set S be done by one, by his minutes and skills -/
def ftB (t : Nat → Nat → Int32) (a S : Nat) : Bool := decide (¬ t 3 a < t 6 S) && decide (t 7 S &&& (t 4 a ^^^ -1) = 0)
/-- over the parts of S, from one on downwards -/
def pwF (t : Nat → Nat → Int32) (go g : Nat → Nat) (f a S : Nat) : Nat → Nat → Nat → Nat
  | 0, _, acc => acc
  | k + 1, part, acc => if part = 0 then acc else pwF t go g f a S k ((part - 1) &&& S) (if acc < go (part * 2 ^ f) + g (S ^^^ part) ∧ ftB t a (part * 2 ^ f) = true then go (part * 2 ^ f) + g (S ^^^ part) else acc)
def pmk (t : Nat → Nat → Int32) (go : Nat → Nat) (f : Nat) : Nat → Nat → Nat
  | 0, _ => 0
  | k + 1, S => if 0 < t 3 k then pwF t go (pmk t go f k) f k S S S (pmk t go f k S) else pmk t go f k S
theorem pwF_le {t : Nat → Nat → Int32} {go g : Nat → Nat} {f a S c b : Nat} (hg : ∀ S, g S ≤ c) (hgo : ∀ S, go S ≤ b) : ∀ k part acc, acc ≤ c + b → pwF t go g f a S k part acc ≤ c + b
  | 0, _, acc, h => h
  | k + 1, part, acc, h => by
    rw [pwF]
    split
    · exact h
    · refine pwF_le hg hgo k _ _ ?_
      split
      · have := hg (S ^^^ part); have := hgo (part * 2 ^ f); omega
      · exact h
theorem pmk_le {t : Nat → Nat → Int32} {go : Nat → Nat} {f b : Nat} (hgo : ∀ S, go S ≤ b) : ∀ k S, pmk t go f k S ≤ k * b
  | 0, _ => Nat.zero_le _
  | k + 1, S => by
    have ih := fun S => pmk_le (t := t) (f := f) hgo k S
    rw [pmk, Nat.succ_mul]
    split
    · exact pwF_le ih hgo _ _ _ (Nat.le_trans (ih S) (Nat.le_add_right _ _))
    · exact Nat.le_trans (ih S) (Nat.le_add_right _ _)
theorem pwF_0 (t : Nat → Nat → Int32) (go g : Nat → Nat) (f a S : Nat) (acc : Nat) : ∀ k, pwF t go g f a S k 0 acc = acc
  | 0 => rfl
  | k + 1 => by rw [pwF, if_pos rfl]
theorem xshln : ∀ a, a < 64 → ∀ f, f < 7 → nI a <<< (nI f &&& 31) = nI (a * 2 ^ f) := by decide +kernel
set_option maxHeartbeats 4000000 in
set_option maxRecDepth 100000 in
theorem c_Pl_fits {n : Nat} {M : Nat → xE} {p : Nat} {t : Nat → Nat → Int32} (hp : p + 7 < n) (hT : oX6 p t M) {a S : Nat} (ha : a < 5) (hS : S < 64) : xMet mX6_fits [.ref p, .int (nI a), .int (nI S)] n M (fun r M' => M = M' ∧ xB (ftB t a S = true) r) := by
  obtain ⟨tp0, tp1, tp2, tp3, tp4, tp5, tp6, tp7⟩ := hT
  have ca := nIc ha (by decide)
  have cS := nIc hS (by decide)
  have hiX6 : ∀ w ∈ wsX60, w ∈ wsX6_fits := by decide +kernel
  refine xMet.of _ (by decide) rfl (Nat.le_of_ble_eq_true rfl) ?_
  refine x_aload_n (q := 1) dX6_fits_0 rfl rfl ?_
  refine x_getf (C := RX6) (T := TX6) (N := 10) (k := 6) (q := 4) tp0 (by omega) rfl hiX6 (by decide) (by decide +kernel) rfl dX6_fits_1 rfl ?_
  refine x_iload_n (q := 5) dX6_fits_4 rfl rfl ?_
  refine x_iald (q := 6) tp4 (by omega) (vp_in_nI hS (by decide)) dX6_fits_5 rfl ?_
  refine x_aload_n (q := 7) dX6_fits_6 rfl rfl ?_
  refine x_getf (C := RX6) (T := TX6) (N := 10) (k := 3) (q := 10) tp0 (by omega) rfl hiX6 (by decide) (by decide +kernel) rfl dX6_fits_7 rfl ?_
  refine x_iload_n (q := 11) dX6_fits_10 rfl rfl ?_
  refine x_iald (q := 12) tp1 (by omega) (vp_in_nI ha (by decide)) dX6_fits_11 rfl ?_
  refine x_icmp_gt (t := 37) (q := 15) dX6_fits_12 (by decide) rfl (fun c12 => ?_) (fun c12 => ?_)
  · refine x_iconst (v := 0) (q := 38) dX6_fits_37 rfl (by decide) ?_
    refine x_zret dX6_fits_38 rfl rfl rfl (Nat.le_refl _) ?_
    refine ⟨rfl, ?_⟩
    unfold ftB
    first
      | (rw [ca, cS] at c12 c30; exact Or.inl ⟨by rw [show decide (¬ t 3 a < t 6 S) = true from decide_eq_true c12, decide_eq_true c30]; rfl, rfl⟩)
      | (rw [ca, cS] at c12 c30; exact Or.inr ⟨by rw [decide_eq_false c30, Bool.and_false]; decide, rfl⟩)
      | (rw [ca, cS] at c12; exact Or.inr ⟨by rw [show decide (¬ t 3 a < t 6 S) = false from decide_eq_false (fun h => h c12), Bool.false_and]; decide, rfl⟩)
  · refine x_aload_n (q := 16) dX6_fits_15 rfl rfl ?_
    refine x_getf (C := RX6) (T := TX6) (N := 10) (k := 7) (q := 19) tp0 (by omega) rfl hiX6 (by decide) (by decide +kernel) rfl dX6_fits_16 rfl ?_
    refine x_iload_n (q := 20) dX6_fits_19 rfl rfl ?_
    refine x_iald (q := 21) tp5 (by omega) (vp_in_nI hS (by decide)) dX6_fits_20 rfl ?_
    refine x_aload_n (q := 22) dX6_fits_21 rfl rfl ?_
    refine x_getf (C := RX6) (T := TX6) (N := 10) (k := 4) (q := 25) tp0 (by omega) rfl hiX6 (by decide) (by decide +kernel) rfl dX6_fits_22 rfl ?_
    refine x_iload_n (q := 26) dX6_fits_25 rfl rfl ?_
    refine x_iald (q := 27) tp2 (by omega) (vp_in_nI ha (by decide)) dX6_fits_26 rfl ?_
    refine x_iconst (v := -1) (q := 28) dX6_fits_27 rfl (by decide) ?_
    refine x_ixor (q := 29) dX6_fits_28 rfl ?_
    refine x_iand (q := 30) dX6_fits_29 rfl ?_
    refine x_if_ne (t := 37) (q := 33) dX6_fits_30 (by decide) rfl (fun c30 => ?_) (fun c30 => ?_)
    · refine x_iconst (v := 0) (q := 38) dX6_fits_37 rfl (by decide) ?_
      refine x_zret dX6_fits_38 rfl rfl rfl (Nat.le_refl _) ?_
      refine ⟨rfl, ?_⟩
      unfold ftB
      first
        | (rw [ca, cS] at c12 c30; exact Or.inl ⟨by rw [show decide (¬ t 3 a < t 6 S) = true from decide_eq_true c12, decide_eq_true c30]; rfl, rfl⟩)
        | (rw [ca, cS] at c12 c30; exact Or.inr ⟨by rw [decide_eq_false c30, Bool.and_false]; decide, rfl⟩)
        | (rw [ca, cS] at c12; exact Or.inr ⟨by rw [show decide (¬ t 3 a < t 6 S) = false from decide_eq_false (fun h => h c12), Bool.false_and]; decide, rfl⟩)
    · refine x_iconst (v := 1) (q := 34) dX6_fits_33 rfl (by decide) ?_
      refine x_goto (q := 38) dX6_fits_34 (by decide) ?_
      refine x_zret dX6_fits_38 rfl rfl rfl (Nat.le_refl _) ?_
      refine ⟨rfl, ?_⟩
      unfold ftB
      first
        | (rw [ca, cS] at c12 c30; exact Or.inl ⟨by rw [show decide (¬ t 3 a < t 6 S) = true from decide_eq_true c12, decide_eq_true c30]; rfl, rfl⟩)
        | (rw [ca, cS] at c12 c30; exact Or.inr ⟨by rw [decide_eq_false c30, Bool.and_false]; decide, rfl⟩)
        | (rw [ca, cS] at c12; exact Or.inr ⟨by rw [show decide (¬ t 3 a < t 6 S) = false from decide_eq_false (fun h => h c12), Bool.false_and]; decide, rfl⟩)

theorem p2W : ∀ W, W ≤ 6 → 2 ^ W ≤ 64 ∧ 1 ≤ 2 ^ W := by decide
theorem p2sh {S W f : Nat} (hf : f ≤ W) (h : S < 2 ^ (W - f)) : S * 2 ^ f < 2 ^ W := by
  have h1 : 2 ^ W = 2 ^ (W - f) * 2 ^ f := by rw [← Nat.pow_add]; congr 1; omega
  rw [h1]
  exact Nat.mul_lt_mul_of_pos_right h (Nat.two_pow_pos f)
def xorB (S c : Nat) : Bool := !(decide (c &&& S = c)) || decide (S ^^^ c = S - c ∧ S ^^^ c ≤ S)
theorem xorB_ok : ∀ S, S < 64 → ∀ c, c < 64 → xorB S c = true := by decide +kernel
theorem xor_sub {S c : Nat} (hS : S < 64) (hc : c < 64) (h : c &&& S = c) : S ^^^ c = S - c ∧ S ^^^ c ≤ S := by
  have h9 := xorB_ok S hS c hc
  unfold xorB at h9
  rw [decide_eq_true h] at h9
  simpa using h9
set_option maxHeartbeats 4000000 in
set_option maxRecDepth 100000 in
theorem l_Pl_with {n p a S f W : Nat} {t : Nat → Nat → Int32} {go g : Nat → Nat} {Q : Option Value → (Nat → xE) → Prop} (hp : p + 7 < n) (ha : a < 5) (hW : W ≤ 6) (hf : f ≤ W) (hS : S < 2 ^ (W - f)) (hgo : ∀ U, U < 2 ^ W → t 8 U = nI (go U)) (hgol : ∀ U, go U ≤ 1000) (hg : ∀ U, U ≤ S → t 9 U = nI (g U)) (hgl : ∀ U, g U ≤ 100000) : ∀ (k part acc : Nat) (M : Nat → xE), part ≤ k → oX6 p t M → part &&& S = part → acc ≤ 101000 → Q (some (.int (nI (pwF t go g f a S k part acc)))) M → X mX6_mostWith 0 0 11 [(5, .int (nI part)), (4, .int (nI acc)), (0, .ref p), (1, .int (nI a)), (2, .int (nI S)), (3, .int (nI f))] [] n M Q := by
  have hiX6 : ∀ w ∈ wsX60, w ∈ wsX6_mostWith := by decide +kernel
  intro k
  induction k with
  | zero =>
    intro part acc M hpk hT hsub hacc hQ
    have hT0 := hT
    obtain ⟨tp0, tp1, tp2, tp3, tp4, tp5, tp6, tp7⟩ := hT
    refine x_iload (q := 13) dX6_mostWith_11 rfl rfl ?_
    refine x_if_le (t := 71) (q := 16) dX6_mostWith_13 (by decide) rfl (fun c13 => ?_) (fun c13 => absurd (show nI part ≤ 0 by rw [show part = 0 by omega]; decide) c13)
    refine x_iload (q := 73) dX6_mostWith_71 rfl rfl ?_
    refine x_iret dX6_mostWith_73 rfl rfl (Nat.le_refl _) ?_
    exact hQ
  | succ k ih =>
    intro part acc M hpk hT hsub hacc hQ
    have hT0 := hT
    obtain ⟨tp0, tp1, tp2, tp3, tp4, tp5, tp6, tp7⟩ := hT
    refine x_iload (q := 13) dX6_mostWith_11 rfl rfl ?_
    refine x_if_le (t := 71) (q := 16) dX6_mostWith_13 (by decide) rfl (fun c13 => ?_) (fun c13 => ?_)
    · refine x_iload (q := 73) dX6_mostWith_71 rfl rfl ?_
      refine x_iret dX6_mostWith_73 rfl rfl (Nat.le_refl _) ?_
      rw [pwF, if_pos (Nat.eq_zero_of_not_pos (fun h => absurd c13 (nI_nle h (by have : part ≤ S := hsub ▸ Nat.and_le_right; have h64 : S < 64 := Nat.lt_of_lt_of_le hS (Nat.le_trans (Nat.pow_le_pow_right (by decide) (Nat.sub_le W f)) (p2W W hW).1); omega))))] at hQ
      exact hQ
    · have hp0 : 0 < part := Nat.pos_of_ne_zero (fun h => c13 (by rw [h]; decide))
      have hpS : part ≤ S := hsub ▸ Nat.and_le_right
      have h64 : S < 64 := Nat.lt_of_lt_of_le hS (Nat.le_trans (Nat.pow_le_pow_right (by decide) (Nat.sub_le W f)) (p2W W hW).1)
      have hshl : nI part <<< (nI f &&& 31) = nI (part * 2 ^ f) := xshln part (by omega) f (by omega)
      have hpl : part * 2 ^ f < 2 ^ W := p2sh hf (Nat.lt_of_le_of_lt hpS hS)
      have hp64 : part * 2 ^ f < 64 := Nat.lt_of_lt_of_le hpl (p2W W hW).1
      have hxor := xor_sub h64 (show part < 64 by omega) hsub
      have hx : nI S ^^^ nI part = nI (S ^^^ part) := fb_xorI S part
      have hgx := hgl (S ^^^ part)
      have hgox := hgol (part * 2 ^ f)
      refine x_aload_n (q := 17) dX6_mostWith_16 rfl rfl ?_
      refine x_getf (C := RX6) (T := TX6) (N := 10) (k := 8) (q := 20) tp0 (by omega) rfl hiX6 (by decide) (by decide +kernel) rfl dX6_mostWith_17 rfl ?_
      refine x_iload (q := 22) dX6_mostWith_20 rfl rfl ?_
      refine x_iload_n (q := 23) dX6_mostWith_22 rfl rfl ?_
      refine x_ishl (q := 24) dX6_mostWith_23 rfl ?_
      refine x_iald (q := 25) tp6 (by omega) (by rw [hshl]; exact vp_in_nI hp64 (by decide)) dX6_mostWith_24 rfl ?_
      refine x_aload_n (q := 26) dX6_mostWith_25 rfl rfl ?_
      refine x_getf (C := RX6) (T := TX6) (N := 10) (k := 9) (q := 29) tp0 (by omega) rfl hiX6 (by decide) (by decide +kernel) rfl dX6_mostWith_26 rfl ?_
      refine x_iload_n (q := 30) dX6_mostWith_29 rfl rfl ?_
      refine x_iload (q := 32) dX6_mostWith_30 rfl rfl ?_
      refine x_ixor (q := 33) dX6_mostWith_32 rfl ?_
      refine x_iald (q := 34) tp7 (by omega) (by rw [hx]; exact vp_in_nI (by omega) (by decide)) dX6_mostWith_33 rfl ?_
      refine x_iadd (q := 35) dX6_mostWith_34 rfl ?_
      refine x_istore (L' := fun x6_35 => [(6, .int x6_35), (5, .int (nI part)), (4, .int (nI acc)), (0, .ref p), (1, .int (nI a)), (2, .int (nI S)), (3, .int (nI f))]) (q := 37) dX6_mostWith_35 rfl (by decide) (fun _ => rfl) (fun x6_35 ex6_35 => ?_)
      obtain rfl : x6_35 = nI (go (part * 2 ^ f) + g (S ^^^ part)) := ex6_35.trans (by rw [hshl, hx, nIc hp64 (by decide), nI_clamp (by omega), hgo _ hpl, hg _ hxor.2, nI_add])
      refine x_iload (q := 39) dX6_mostWith_37 rfl rfl ?_
      refine x_iload (q := 41) dX6_mostWith_39 rfl rfl ?_
      refine x_icmp_le (t := 60) (q := 44) dX6_mostWith_41 (by decide) rfl (fun c41 => ?_) (fun c41 => ?_)
      · refine x_iload (q := 62) dX6_mostWith_60 rfl rfl ?_
        refine x_iconst (v := 1) (q := 63) dX6_mostWith_62 rfl (by decide) ?_
        refine x_isub (q := 64) dX6_mostWith_63 rfl ?_
        refine x_iload_n (q := 65) dX6_mostWith_64 rfl rfl ?_
        refine x_iand (q := 66) dX6_mostWith_65 rfl ?_
        refine x_istore (L' := fun x5_66 => [(5, .int x5_66), (6, .int (nI (go (part * 2 ^ f) + g (S ^^^ part)))), (4, .int (nI acc)), (0, .ref p), (1, .int (nI a)), (2, .int (nI S)), (3, .int (nI f))]) (q := 68) dX6_mostWith_66 rfl (by decide) (fun _ => rfl) (fun x5_66 ex5_66 => ?_)
        refine x_goto (q := 11) dX6_mostWith_68 (by decide) ?_
        rw [pwF, if_neg (by omega), if_neg (fun h => absurd ((nI_ltI (by omega) (by omega)).mpr h.1) (xle_nlt.mpr c41))] at hQ
        have hnx : nI part - 1 &&& nI S = nI ((part - 1) &&& S) := by rw [show nI part - 1 = nI (part - 1) from pk_sub (b := 1) (by omega), fa_and]
        have hnl : (part - 1) &&& S ≤ part - 1 := Nat.and_le_left
        obtain rfl : x5_66 = nI ((part - 1) &&& S) := ex5_66.trans hnx
        refine x_pick (L' := [(5, .int (nI ((part - 1) &&& S))), (4, .int (nI acc)), (0, .ref p), (1, .int (nI a)), (2, .int (nI S)), (3, .int (nI f))]) [0, 2, 3, 4, 5, 6] rfl ?_
        exact ih ((part - 1) &&& S) (acc) M (by omega) hT0 (by rw [Nat.and_assoc, Nat.and_self]) hacc hQ
      · refine x_aload_n (q := 45) dX6_mostWith_44 rfl rfl ?_
        refine x_iload_n (q := 46) dX6_mostWith_45 rfl rfl ?_
        refine x_iload (q := 48) dX6_mostWith_46 rfl rfl ?_
        refine x_iload_n (q := 49) dX6_mostWith_48 rfl rfl ?_
        refine x_ishl (q := 50) dX6_mostWith_49 rfl ?_
        rw [hshl]
        refine x_callV (q := 53) (ci := 6) (c_Pl_fits hp hT0 ha hp64) eX6_mostWith_94 gX6_mostWith_X6_fits tp0 (by omega) rfl rfl rfl (Nat.le_of_ble_eq_true rfl) ⟨Nat.le_refl _, Nat.le_refl _⟩ dX6_mostWith_50 rfl rfl (fun r50 M50 p50 => ?_)
        obtain ⟨rfl, p50⟩ := p50
        rcases p50 with ⟨b50, rfl⟩ | ⟨b50, rfl⟩
        · refine x_if_eq (t := 60) (q := 56) dX6_mostWith_53 (by decide) rfl (fun c53 => absurd c53 (by decide)) (fun c53 => ?_)
          refine x_iload (q := 58) dX6_mostWith_56 rfl rfl ?_
          refine x_istore (L' := fun x4_58 => [(4, .int x4_58), (6, .int (nI (go (part * 2 ^ f) + g (S ^^^ part)))), (5, .int (nI part)), (0, .ref p), (1, .int (nI a)), (2, .int (nI S)), (3, .int (nI f))]) (q := 60) dX6_mostWith_58 rfl (by decide) (fun _ => rfl) (fun x4_58 ex4_58 => ?_)
          obtain rfl : x4_58 = nI (go (part * 2 ^ f) + g (S ^^^ part)) := ex4_58
          refine x_iload (q := 62) dX6_mostWith_60 rfl rfl ?_
          refine x_iconst (v := 1) (q := 63) dX6_mostWith_62 rfl (by decide) ?_
          refine x_isub (q := 64) dX6_mostWith_63 rfl ?_
          refine x_iload_n (q := 65) dX6_mostWith_64 rfl rfl ?_
          refine x_iand (q := 66) dX6_mostWith_65 rfl ?_
          refine x_istore (L' := fun x5_66 => [(5, .int x5_66), (4, .int (nI (go (part * 2 ^ f) + g (S ^^^ part)))), (6, .int (nI (go (part * 2 ^ f) + g (S ^^^ part)))), (0, .ref p), (1, .int (nI a)), (2, .int (nI S)), (3, .int (nI f))]) (q := 68) dX6_mostWith_66 rfl (by decide) (fun _ => rfl) (fun x5_66 ex5_66 => ?_)
          refine x_goto (q := 11) dX6_mostWith_68 (by decide) ?_
          rw [pwF, if_neg (by omega), if_pos ⟨(nI_ltI (by omega) (by omega)).mp (xlt_nle.mp c41), b50⟩] at hQ
          have hnx : nI part - 1 &&& nI S = nI ((part - 1) &&& S) := by rw [show nI part - 1 = nI (part - 1) from pk_sub (b := 1) (by omega), fa_and]
          have hnl : (part - 1) &&& S ≤ part - 1 := Nat.and_le_left
          obtain rfl : x5_66 = nI ((part - 1) &&& S) := ex5_66.trans hnx
          refine x_pick (L' := [(5, .int (nI ((part - 1) &&& S))), (4, .int (nI (go (part * 2 ^ f) + g (S ^^^ part)))), (0, .ref p), (1, .int (nI a)), (2, .int (nI S)), (3, .int (nI f))]) [0, 1, 3, 4, 5, 6] rfl ?_
          exact ih ((part - 1) &&& S) (go (part * 2 ^ f) + g (S ^^^ part)) M (by omega) hT0 (by rw [Nat.and_assoc, Nat.and_self]) (by omega) hQ
        · refine x_if_eq (t := 60) (q := 56) dX6_mostWith_53 (by decide) rfl (fun c53 => ?_) (fun c53 => absurd c53 (by decide))
          refine x_iload (q := 62) dX6_mostWith_60 rfl rfl ?_
          refine x_iconst (v := 1) (q := 63) dX6_mostWith_62 rfl (by decide) ?_
          refine x_isub (q := 64) dX6_mostWith_63 rfl ?_
          refine x_iload_n (q := 65) dX6_mostWith_64 rfl rfl ?_
          refine x_iand (q := 66) dX6_mostWith_65 rfl ?_
          refine x_istore (L' := fun x5_66 => [(5, .int x5_66), (6, .int (nI (go (part * 2 ^ f) + g (S ^^^ part)))), (4, .int (nI acc)), (0, .ref p), (1, .int (nI a)), (2, .int (nI S)), (3, .int (nI f))]) (q := 68) dX6_mostWith_66 rfl (by decide) (fun _ => rfl) (fun x5_66 ex5_66 => ?_)
          refine x_goto (q := 11) dX6_mostWith_68 (by decide) ?_
          rw [pwF, if_neg (by omega), if_neg (fun h => b50 h.2)] at hQ
          have hnx : nI part - 1 &&& nI S = nI ((part - 1) &&& S) := by rw [show nI part - 1 = nI (part - 1) from pk_sub (b := 1) (by omega), fa_and]
          have hnl : (part - 1) &&& S ≤ part - 1 := Nat.and_le_left
          obtain rfl : x5_66 = nI ((part - 1) &&& S) := ex5_66.trans hnx
          refine x_pick (L' := [(5, .int (nI ((part - 1) &&& S))), (4, .int (nI acc)), (0, .ref p), (1, .int (nI a)), (2, .int (nI S)), (3, .int (nI f))]) [0, 2, 3, 4, 5, 6] rfl ?_
          exact ih ((part - 1) &&& S) (acc) M (by omega) hT0 (by rw [Nat.and_assoc, Nat.and_self]) hacc hQ
set_option maxHeartbeats 4000000 in
set_option maxRecDepth 100000 in
theorem c_Pl_with {n : Nat} {M : Nat → xE} {p a S f W : Nat} {t : Nat → Nat → Int32} {go g : Nat → Nat} (hp : p + 7 < n) (ha : a < 5) (hW : W ≤ 6) (hf : f ≤ W) (hS : S < 2 ^ (W - f)) (hgo : ∀ U, U < 2 ^ W → t 8 U = nI (go U)) (hgol : ∀ U, go U ≤ 1000) (hg : ∀ U, U ≤ S → t 9 U = nI (g U)) (hgl : ∀ U, g U ≤ 100000) (hT : oX6 p t M) : xMet mX6_mostWith [.ref p, .int (nI a), .int (nI S), .int (nI f)] n M (fun r M' => M = M' ∧ some (.int (nI (pwF t go g f a S S S (g S)))) = r) := by
  have hT0 := hT
  obtain ⟨tp0, tp1, tp2, tp3, tp4, tp5, tp6, tp7⟩ := hT
  have h64 : S < 64 := Nat.lt_of_lt_of_le hS (Nat.le_trans (Nat.pow_le_pow_right (by decide) (Nat.sub_le W f)) (p2W W hW).1)
  have hiX6 : ∀ w ∈ wsX60, w ∈ wsX6_mostWith := by decide +kernel
  refine xMet.of _ (by decide) rfl (Nat.le_of_ble_eq_true rfl) ?_
  refine x_aload_n (q := 1) dX6_mostWith_0 rfl rfl ?_
  refine x_getf (C := RX6) (T := TX6) (N := 10) (k := 9) (q := 4) tp0 (by omega) rfl hiX6 (by decide) (by decide +kernel) rfl dX6_mostWith_1 rfl ?_
  refine x_iload_n (q := 5) dX6_mostWith_4 rfl rfl ?_
  refine x_iald (q := 6) tp7 (by omega) (vp_in_nI h64 (by decide)) dX6_mostWith_5 rfl ?_
  refine x_istore (L' := fun x4_6 => [(4, .int x4_6), (0, .ref p), (1, .int (nI a)), (2, .int (nI S)), (3, .int (nI f))]) (q := 8) dX6_mostWith_6 rfl (by decide) (fun _ => rfl) (fun x4_6 ex4_6 => ?_)
  refine x_iload_n (q := 9) dX6_mostWith_8 rfl rfl ?_
  refine x_istore (L' := fun x5_9 => [(5, .int x5_9), (4, .int x4_6), (0, .ref p), (1, .int (nI a)), (2, .int (nI S)), (3, .int (nI f))]) (q := 11) dX6_mostWith_9 rfl (by decide) (fun _ => rfl) (fun x5_9 ex5_9 => ?_)
  obtain rfl : x4_6 = nI (g S) := ex4_6.trans (by rw [nIc h64 (by decide), hg S (Nat.le_refl _)])
  subst ex5_9
  exact l_Pl_with hp ha hW hf hS hgo hgol hg hgl S S (g S) M (Nat.le_refl _) hT0 (Nat.and_self S) (by have := hgl S; omega) ⟨rfl, rfl⟩

