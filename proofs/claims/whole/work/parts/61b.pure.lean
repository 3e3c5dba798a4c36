/-! the plan: by sets, as the class goes through it, is the best of all rows -/
theorem sub_nx : ∀ n c S U : Nat, c ≤ n → c &&& S = c → U &&& S = U → U < c → U ≤ (c - 1) &&& S := by
  intro n
  induction n with
  | zero => intro c S U h _ _ h2; omega
  | succ n ih =>
    intro c S U hc h1 h2 h3
    have e1 : c / 2 &&& S / 2 = c / 2 := by rw [← Nat.and_div_two, h1]
    have e2 : U / 2 &&& S / 2 = U / 2 := by rw [← Nat.and_div_two, h2]
    have e3 : ((c - 1) &&& S) / 2 = (c - 1) / 2 &&& S / 2 := Nat.and_div_two
    have m1 : ((c - 1) &&& S) % 2 = 1 ↔ (c - 1) % 2 = 1 ∧ S % 2 = 1 := Nat.and_mod_two_eq_one
    have m2 : U % 2 = 1 → S % 2 = 1 := fun q => by
      have : (U &&& S) % 2 = 1 := by rw [h2]; exact q
      exact (Nat.and_mod_two_eq_one.mp this).2
    rcases Nat.mod_two_eq_zero_or_one c with p | p
    · have := ih (c / 2) (S / 2) (U / 2) (by omega) e1 e2 (by omega)
      rw [show c / 2 - 1 = (c - 1) / 2 by omega, ← e3] at this
      rcases Nat.mod_two_eq_zero_or_one U with q | q
      · omega
      · have := m1.mpr ⟨by omega, m2 q⟩
        omega
    · rw [show (c - 1) / 2 = c / 2 by omega, e1] at e3
      omega
theorem pwF_acc {t : Nat → Nat → Int32} {go g : Nat → Nat} {f a S : Nat} : ∀ k part acc, acc ≤ pwF t go g f a S k part acc
  | 0, _, _ => Nat.le_refl _
  | k + 1, part, acc => by
    rw [pwF]
    split
    · exact Nat.le_refl _
    · refine Nat.le_trans ?_ (pwF_acc k _ _)
      split <;> omega
theorem pwF_ge {t : Nat → Nat → Int32} {go g : Nat → Nat} {f a S U : Nat} (hU : U &&& S = U) (hU0 : 0 < U) (hft : ftB t a (U * 2 ^ f) = true) : ∀ k part acc, U ≤ part → part ≤ k → part &&& S = part → go (U * 2 ^ f) + g (S ^^^ U) ≤ pwF t go g f a S k part acc
  | 0, part, acc, h1, h2, _ => by omega
  | k + 1, part, acc, h1, h2, h3 => by
    rw [pwF, if_neg (by omega)]
    by_cases e : U = part
    · subst e
      refine Nat.le_trans ?_ (pwF_acc k _ _)
      by_cases q : acc < go (U * 2 ^ f) + g (S ^^^ U) ∧ ftB t a (U * 2 ^ f) = true
      · rw [if_pos q]; exact Nat.le_refl _
      · rw [if_neg q]
        have : ¬ acc < go (U * 2 ^ f) + g (S ^^^ U) := fun z => q ⟨z, hft⟩
        omega
    · have hn := sub_nx part part S U (Nat.le_refl _) h3 hU (by omega)
      have hle : (part - 1) &&& S ≤ part - 1 := Nat.and_le_left
      exact pwF_ge hU hU0 hft k _ _ hn (by omega) (by rw [Nat.and_assoc, Nat.and_self])
theorem pwF_at {t : Nat → Nat → Int32} {go g : Nat → Nat} {f a S : Nat} : ∀ k part acc, part &&& S = part → pwF t go g f a S k part acc = acc ∨ ∃ U, U &&& S = U ∧ 0 < U ∧ ftB t a (U * 2 ^ f) = true ∧ pwF t go g f a S k part acc = go (U * 2 ^ f) + g (S ^^^ U)
  | 0, _, _, _ => Or.inl rfl
  | k + 1, part, acc, h => by
    rw [pwF]
    by_cases e : part = 0
    · rw [if_pos e]; exact Or.inl rfl
    · rw [if_neg e]
      rcases pwF_at (t := t) (go := go) (g := g) (f := f) (a := a) k ((part - 1) &&& S) (if acc < go (part * 2 ^ f) + g (S ^^^ part) ∧ ftB t a (part * 2 ^ f) = true then go (part * 2 ^ f) + g (S ^^^ part) else acc) (by rw [Nat.and_assoc, Nat.and_self]) with q | q
      · rw [q]
        by_cases z : acc < go (part * 2 ^ f) + g (S ^^^ part) ∧ ftB t a (part * 2 ^ f) = true
        · rw [if_pos z]; exact Or.inr ⟨part, h, by omega, z.2, rfl⟩
        · rw [if_neg z]; exact Or.inl rfl
      · exact Or.inr q
theorem tb_sub {S k j : Nat} (h : S.testBit k = true) (hj : j < k) : (S - 2 ^ k).testBit j = S.testBit j := by
  have h1 := Nat.ge_two_pow_of_testBit h
  have := Nat.testBit_two_pow_add_gt hj (S - 2 ^ k)
  rw [show 2 ^ k + (S - 2 ^ k) = S by omega] at this
  exact this.symm
theorem fSN_sL {g : Nat → Nat} : ∀ k S, fSN g k S = sL (fun j => if S.testBit j = true then g j else 0) k 0
  | 0, _ => rfl
  | k + 1, S => by
    rw [fSN, sL_snoc, Nat.zero_add]
    by_cases h : S.testBit k = true
    · rw [if_pos h, if_pos h, fSN_sL k]
      congr 1
      exact sL_cong k 0 (fun j _ hj => by rw [tb_sub h (by omega)])
    · rw [if_neg h, if_neg h, fSN_sL k, Nat.add_zero]
theorem fSN_sh {g : Nat → Nat} {f W U : Nat} (hf : f ≤ W) : fSN g W (U * 2 ^ f) = sL (fun j => if U.testBit (j - f) = true then g j else 0) (W - f) f := by
  rw [fSN_sL]
  have e : sL (fun j => if (U * 2 ^ f).testBit j = true then g j else 0) W 0 = sL (fun j => if (U * 2 ^ f).testBit j = true then g j else 0) (f + (W - f)) 0 := by rw [show f + (W - f) = W by omega]
  rw [e, sL_app, sL_zero f 0 (fun j _ hj => by rw [Nat.testBit_mul_two_pow, decide_eq_false (by omega), Bool.false_and, if_neg (by decide)]), Nat.zero_add, Nat.zero_add]
  exact sL_cong (W - f) f (fun j h1 _ => by rw [Nat.testBit_mul_two_pow, decide_eq_true h1, Bool.true_and])
section PLAN
variable {mn gn : Nat → Nat} {ok : Nat → Nat → Bool} {W f : Nat} {L : Nat → Nat}
def usP (mn : Nat → Nat) (W f : Nat) (d : Nat → Nat) (p : Nat) : Nat := sL (fun j => if d j = p + 1 then mn j else 0) (W - f) f
def vlP (gn : Nat → Nat) (W f : Nat) (d : Nat → Nat) : Nat := sL (fun j => if d j = 0 then 0 else gn j) (W - f) f
/-- a row for works from f on, the first k of people, works out of S alone -/
def FkP (mn : Nat → Nat) (ok : Nat → Nat → Bool) (W f : Nat) (L : Nat → Nat) (k S : Nat) (d : Nat → Nat) : Prop := (∀ j, f ≤ j → j < W → d j ≤ k ∧ (¬ d j = 0 → S.testBit (j - f) = true ∧ ok (d j - 1) j = true)) ∧ ∀ p, p < k → usP mn W f d p ≤ L p
theorem us_split {d d' : Nat → Nat} {k U : Nat} (hf : f ≤ W) (h : ∀ j, f ≤ j → j < W → d j = if U.testBit (j - f) = true then k + 1 else d' j) (hd : ∀ j, f ≤ j → j < W → d' j ≤ k ∧ (U.testBit (j - f) = true → d' j = 0)) :
    usP mn W f d k = fSN mn W (U * 2 ^ f) ∧ (∀ p, p < k → usP mn W f d p = usP mn W f d' p) ∧ vlP gn W f d = vlP gn W f d' + fSN gn W (U * 2 ^ f) := by
  refine ⟨?_, fun p hp => ?_, ?_⟩
  · rw [fSN_sh hf]
    refine sL_cong _ f (fun j h1 h2 => ?_)
    rw [h j h1 (by omega)]
    have := hd j h1 (by omega)
    by_cases q : U.testBit (j - f) = true
    · rw [if_pos q, if_pos rfl, if_pos q]
    · rw [if_neg q, if_neg (by omega), if_neg q]
  · refine sL_cong _ f (fun j h1 h2 => ?_)
    rw [h j h1 (by omega)]
    have := hd j h1 (by omega)
    by_cases q : U.testBit (j - f) = true
    · rw [if_pos q, if_neg (by omega), this.2 q, if_neg (by omega)]
    · rw [if_neg q]
  · rw [fSN_sh hf]
    unfold vlP
    rw [← sL_add]
    refine sL_cong _ f (fun j h1 h2 => ?_)
    rw [h j h1 (by omega)]
    have := hd j h1 (by omega)
    by_cases q : U.testBit (j - f) = true
    · rw [if_pos q, if_neg (by omega), this.2 q, if_pos rfl, if_pos q, Nat.zero_add]
    · rw [if_neg q, if_neg q, Nat.add_zero]
theorem us_none {d : Nat → Nat} {k : Nat} (h : ∀ j, f ≤ j → j < W → d j ≤ k) : usP mn W f d k = 0 := sL_zero _ f (fun j h1 h2 => by have := h j h1 (by omega); rw [if_neg (by omega)])
theorem pm_best {t : Nat → Nat → Int32} {P : Nat} (hf : f ≤ W) (hmn : ∀ j, j < W → 1 ≤ mn j) (hft : ∀ a, a < P → ∀ U, U < 2 ^ W → (ftB t a U = true ↔ (fSN mn W U ≤ L a ∧ ∀ j, j < W → U.testBit j = true → ok a j = true))) (h0 : ∀ a, a < P → (0 < t 3 a ↔ 0 < L a)) :
    ∀ k, k ≤ P → ∀ S, S < 2 ^ (W - f) → (∀ d, FkP mn ok W f L k S d → vlP gn W f d ≤ pmk t (fSN gn W) f k S) ∧ ∃ d, FkP mn ok W f L k S d ∧ vlP gn W f d = pmk t (fSN gn W) f k S := by
  intro k
  induction k with
  | zero =>
    intro _ S _
    refine ⟨fun d hd => ?_, fun _ => 0, ⟨fun j _ _ => ⟨Nat.le_refl _, fun q => absurd rfl q⟩, fun p hp => absurd hp (Nat.not_lt_zero p)⟩, ?_⟩
    · rw [pmk]
      exact Nat.le_of_eq (sL_zero _ f (fun j h1 h2 => by have := (hd.1 j h1 (by omega)).1; rw [if_pos (by omega)]))
    · exact sL_zero _ f (fun j _ _ => if_pos rfl)
  | succ k ih =>
    intro hk S hS
    have ihk := ih (by omega)
    have hlow : ∀ S, S < 2 ^ (W - f) → ∃ d, FkP mn ok W f L (k + 1) S d ∧ vlP gn W f d = pmk t (fSN gn W) f k S := fun S hS => by
      obtain ⟨d, h1, h2⟩ := (ihk S hS).2
      refine ⟨d, ⟨fun j a b => ⟨Nat.le_succ_of_le (h1.1 j a b).1, (h1.1 j a b).2⟩, fun p hp => ?_⟩, h2⟩
      by_cases e : p = k
      · subst e; rw [us_none (fun j a b => (h1.1 j a b).1)]; exact Nat.zero_le _
      · exact h1.2 p (by omega)
    have hdn : ∀ d, FkP mn ok W f L (k + 1) S d → (∀ j, f ≤ j → j < W → ¬ d j = k + 1) → vlP gn W f d ≤ pmk t (fSN gn W) f k S := fun d hd hne => (ihk S hS).1 d ⟨fun j a b => ⟨by have := (hd.1 j a b).1; have := hne j a b; omega, (hd.1 j a b).2⟩, fun p hp => hd.2 p (by omega)⟩
    rw [pmk]
    by_cases hl : 0 < t 3 k
    · rw [if_pos hl]
      refine ⟨fun d hd => ?_, ?_⟩
      · by_cases hne : ∀ j, f ≤ j → j < W → ¬ d j = k + 1
        · exact Nat.le_trans (hdn d hd hne) (pwF_acc _ _ _)
        · let U := fbits (fun _ i => decide (d (i + f) = k + 1)) 0 (W - f)
          have hUlt : U < 2 ^ (W - f) := fbits_lt _ 0 _
          have hUb : ∀ j, f ≤ j → j < W → (U.testBit (j - f) = true ↔ d j = k + 1) := fun j a b => by
            have := fbits_tb (fun _ i => decide (d (i + f) = k + 1)) 0 (W - f) (j - f) (by omega)
            rw [show U.testBit (j - f) = decide (d (j - f + f) = k + 1) from this, decide_eq_true_iff, Nat.sub_add_cancel a]
          have hUS : U &&& S = U := by
            apply Nat.eq_of_testBit_eq
            intro i
            rw [Nat.testBit_and]
            by_cases hi : i < W - f
            · cases hb : U.testBit i with
              | false => rfl
              | true =>
                have h1 := (hUb (i + f) (by omega) (by omega)).mp (by rw [Nat.add_sub_cancel]; exact hb)
                have h2 := (hd.1 (i + f) (by omega) (by omega)).2 (by omega)
                rw [Nat.add_sub_cancel] at h2
                rw [h2.1]; rfl
            · rw [Nat.testBit_lt_two_pow (Nat.lt_of_lt_of_le hUlt (Nat.pow_le_pow_right (by decide) (by omega)))]; rfl
          have hsp := us_split (mn := mn) (gn := gn) (d := d) (d' := fun j => if d j = k + 1 then 0 else d j) (k := k) (U := U) hf (fun j a b => by
            by_cases q : d j = k + 1
            · rw [if_pos ((hUb j a b).mpr q), q]
            · rw [if_neg (fun z => q ((hUb j a b).mp z)), if_neg q]) (fun j a b => by
            have := (hd.1 j a b).1
            by_cases q : d j = k + 1
            · rw [if_pos q]; exact ⟨Nat.zero_le _, fun _ => rfl⟩
            · rw [if_neg q]; exact ⟨by omega, fun z => absurd ((hUb j a b).mp z) q⟩)
          have hU0 : 0 < U := by
            rcases Nat.eq_zero_or_pos U with e | e
            · exfalso
              refine hne (fun j a b q => ?_)
              have := (hUb j a b).mpr q
              rw [e, Nat.zero_testBit] at this
              cases this
            · exact e
          have hUW : U * 2 ^ f < 2 ^ W := p2sh hf hUlt
          have hft1 : ftB t k (U * 2 ^ f) = true := (hft k (by omega) _ hUW).mpr ⟨by rw [← hsp.1]; exact hd.2 k (Nat.lt_succ_self k), fun j hj hb => by
            rw [Nat.testBit_mul_two_pow, Bool.and_eq_true, decide_eq_true_iff] at hb
            have q := (hUb j hb.1 hj).mp hb.2
            have := ((hd.1 j hb.1 hj).2 (by omega)).2
            rw [q] at this
            exact this⟩
          have hge := pwF_ge (go := fSN gn W) (g := pmk t (fSN gn W) f k) hUS hU0 hft1 S S (pmk t (fSN gn W) f k S) (by rw [← hUS]; exact Nat.and_le_right) (Nat.le_refl _) (Nat.and_self S)
          have hub := (ihk (S ^^^ U) (Nat.xor_lt_two_pow hS hUlt)).1 (fun j => if d j = k + 1 then 0 else d j) ⟨fun j a b => by
            have h1 := hd.1 j a b
            dsimp only
            by_cases q : d j = k + 1
            · rw [if_pos q]; exact ⟨Nat.zero_le _, fun z => absurd rfl z⟩
            · rw [if_neg q]
              refine ⟨by omega, fun z => ⟨?_, (h1.2 z).2⟩⟩
              have hub : U.testBit (j - f) = false := by
                cases hb : U.testBit (j - f) with
                | false => rfl
                | true => exact absurd ((hUb j a b).mp hb) q
              rw [Nat.testBit_xor, (h1.2 z).1, hub]; rfl, fun p hp => by rw [← hsp.2.1 p hp]; exact hd.2 p (by omega)⟩
          rw [hsp.2.2]
          omega
      · rcases pwF_at (t := t) (go := fSN gn W) (g := pmk t (fSN gn W) f k) (f := f) (a := k) (S := S) S S (pmk t (fSN gn W) f k S) (Nat.and_self S) with q | ⟨U, hUS, hU0, hft1, q⟩
        · rw [q]; exact hlow S hS
        · rw [q]
          have hUlt : U < 2 ^ (W - f) := Nat.lt_of_le_of_lt (by rw [← hUS]; exact Nat.and_le_right) hS
          have hUW : U * 2 ^ f < 2 ^ W := p2sh hf hUlt
          obtain ⟨d', h1, h2⟩ := (ihk (S ^^^ U) (Nat.xor_lt_two_pow hS hUlt)).2
          have hz : ∀ j, f ≤ j → j < W → U.testBit (j - f) = true → S.testBit (j - f) = true ∧ d' j = 0 := fun j a b hb => by
            have hs : S.testBit (j - f) = true := by
              rw [← hUS, Nat.testBit_and, Bool.and_eq_true] at hb
              exact hb.2
            refine ⟨hs, ?_⟩
            rcases Nat.eq_zero_or_pos (d' j) with e | e
            · exact e
            · have := ((h1.1 j a b).2 (by omega)).1
              rw [Nat.testBit_xor, hs, hb] at this
              cases this
          have hsp := us_split (mn := mn) (gn := gn) (d := fun j => if U.testBit (j - f) = true then k + 1 else d' j) (d' := d') (k := k) (U := U) hf (fun j _ _ => rfl) (fun j a b => ⟨(h1.1 j a b).1, fun hb => (hz j a b hb).2⟩)
          have hok := (hft k (by omega) _ hUW).mp hft1
          refine ⟨fun j => if U.testBit (j - f) = true then k + 1 else d' j, ⟨fun j a b => ?_, fun p hp => ?_⟩, ?_⟩
          · dsimp only
            by_cases hb : U.testBit (j - f) = true
            · rw [if_pos hb]
              refine ⟨Nat.le_refl _, fun _ => ⟨(hz j a b hb).1, hok.2 j b ?_⟩⟩
              rw [Nat.testBit_mul_two_pow, decide_eq_true a, hb]; rfl
            · rw [if_neg hb]
              refine ⟨Nat.le_succ_of_le (h1.1 j a b).1, fun z => ?_⟩
              have h3 := (h1.1 j a b).2 z
              have hbf : U.testBit (j - f) = false := by simpa using hb
              rw [Nat.testBit_xor, hbf, Bool.xor_false] at h3
              exact h3
          · by_cases e : p = k
            · subst e; rw [hsp.1]; exact hok.1
            · rw [hsp.2.1 p (by omega)]; exact h1.2 p (by omega)
          · rw [hsp.2.2, h2, Nat.add_comm]
    · rw [if_neg hl]
      have hL0 : L k = 0 := by
        rcases Nat.eq_zero_or_pos (L k) with e | e
        · exact e
        · exact absurd ((h0 k (by omega)).mpr e) hl
      refine ⟨fun d hd => hdn d hd (fun j a b q => ?_), hlow S hS⟩
      have h1 := hd.2 k (Nat.lt_succ_self k)
      have h2 := sL_part (g := fun j => if d j = k + 1 then mn j else 0) (W - f) f j a (by omega)
      have h3 := hmn j b
      simp only [q, if_true] at h2
      unfold usP at h1
      omega
end PLAN
