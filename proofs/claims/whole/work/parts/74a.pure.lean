def DOK (δ : Nat → Nat → Int32) (P : Nat) : Prop := (∀ p, p < P → vp_in (δ 7 p) 100) ∧ (∀ k, k < 6 → vp_in (δ 9 k) 10) ∧ vp_in (δ 1 0) 4 ∧ (∃ c, c < 1000 ∧ δ 0 0 = nI c) ∧ δ 3 0 = nI (mrN (δ 8) P)
theorem mrN_m1 : ∀ P, P < 2 ^ 31 → mrN (fun _ => (-1 : Int32)) P = 0
  | 0, _ => rfl
  | P + 1, h => by
    rw [mrN, mrN_m1 P (by omega), if_neg]
    rw [fa_lt, nI_toInt (by omega)]
    show ¬ (P : Int) < -1
    omega
theorem dok_new {l : Int32} {P : Nat} (hP : P ≤ 5) (h : 1 ≤ l.toInt ∧ l.toInt ≤ 99) : DOK (dNew l) P := by
  refine ⟨fun p _ => vp_in_iff.mpr ⟨?_, ?_⟩, fun k _ => ?_, ?_, ⟨0, by omega, rfl⟩, ?_⟩
  · show 0 ≤ l.toInt; omega
  · show l.toInt < ((100 : Nat) : Int); omega
  · show vp_in 0 10
    exact vp_in_iff.mpr (by decide)
  · show vp_in 0 4
    exact vp_in_iff.mpr (by decide)
  · show (0 : Int32) = nI (mrN (fun _ => (-1 : Int32)) P)
    rw [mrN_m1 P (by omega)]; rfl
theorem dok_sell {τ δ : Nat → Nat → Int32} {P : Nat} {a : Int32} (h : DOK δ P) : DOK (dSell τ δ a) P := h
theorem dok_over {δ : Nat → Nat → Int32} {P : Nat} {a b : Int32} (h : DOK δ P) : DOK (dOver δ a b) P := h
theorem dok_does {τ δ : Nat → Nat → Int32} {P W G : Nat} {a b : Int32} (hk : TOK τ P W G) (hP : P ≤ 5) (hW : W ≤ 6) (h : DOK δ P) (ha : inB a P = true) (hb : inB b W = true) (hc : cDo τ δ a b = true) : DOK (dDoes τ δ a b) P := by
  obtain ⟨h7, h9, h1, h0, h3⟩ := h
  obtain ⟨p, hp, rfl⟩ := vp_in_of (inB_t.mp ha) (by omega)
  obtain ⟨k, hw, rfl⟩ := vp_in_of (inB_t.mp hb) (by omega)
  have hcp : (nI p).toNatClampNeg = p := nI_clamp (by omega)
  have hck : (nI k).toNatClampNeg = k := nI_clamp (by omega)
  have hle : τ 5 k ≤ δ 7 p := by
    unfold cDo at hc
    rw [hcp, hck] at hc
    simp only [Bool.and_eq_true, decide_eq_true_iff] at hc
    exact hc.2.2
  have hw5 := (hk.2.2.1 k hw).2.1
  have hw6 := (hk.2.2.1 k hw).2.2.1
  refine ⟨fun q hq => ?_, fun j hj => ?_, h1, h0, h3⟩
  · show vp_in (upd (δ 7) (nI p).toNatClampNeg (δ 7 (nI p).toNatClampNeg - τ 5 (nI k).toNatClampNeg) q) 100
    rw [hcp, hck]
    unfold upd
    by_cases e : q = p
    · rw [if_pos e]
      have hv := vp_in_iff.mp (h7 p hp)
      have hl : (τ 5 k).toInt ≤ (δ 7 p).toInt := Int32.le_iff_toInt_le.mp hle
      have hs : (δ 7 p - τ 5 k).toInt = (δ 7 p).toInt - (τ 5 k).toInt := by
        rw [Int32.toInt_sub]
        have e1 := hv.1
        have e2 := hv.2
        have : (((100 : Nat) : Int)) = 100 := rfl
        rw [Int.bmod_eq_of_le] <;> omega
      refine vp_in_iff.mpr ?_
      rw [hs]
      omega
    · rw [if_neg e]; exact h7 q hq
  · show vp_in (upd (δ 9) (nI k).toNatClampNeg (τ 6 (nI k).toNatClampNeg) j) 10
    rw [hck]
    unfold upd
    by_cases e : j = k
    · rw [if_pos e]; exact vp_in_iff.mpr ⟨by omega, by have : (((10 : Nat) : Int)) = 10 := rfl; omega⟩
    · rw [if_neg e]; exact h9 j hj
theorem dok_marry {δ : Nat → Nat → Int32} {P : Nat} {a b : Int32} (hP : P ≤ 5) (h : DOK δ P) (ha : inB a P = true) (hb : inB b P = true) (hab : ¬ a = b) {x : Bool} (hc : (x && (decide (δ 8 a.toNatClampNeg = -1) && decide (δ 8 b.toNatClampNeg = -1))) = true) : DOK (dMarry δ a b) P := by
  obtain ⟨h7, h9, h1, h0, h3⟩ := h
  obtain ⟨p, hp, rfl⟩ := vp_in_of (inB_t.mp ha) (by omega)
  obtain ⟨q, hq, rfl⟩ := vp_in_of (inB_t.mp hb) (by omega)
  have hcp : (nI p).toNatClampNeg = p := nI_clamp (by omega)
  have hcq : (nI q).toNatClampNeg = q := nI_clamp (by omega)
  rw [hcp, hcq] at hc
  simp only [Bool.and_eq_true, decide_eq_true_iff] at hc
  refine ⟨h7, h9, h1, h0, ?_⟩
  show δ 3 0 + 1 = nI (mrN (upd (upd (δ 8) (nI p).toNatClampNeg (nI q)) (nI q).toNatClampNeg (nI p)) P)
  rw [hcp, hcq, mrN_marry hP hp hq (fun e => hab (by rw [e])) hc.2.1 hc.2.2, h3, nI_1]
theorem dok_cent {τ δ : Nat → Nat → Int32} {P W G N : Nat} {z : Int32} (hk : TOK τ P W G) (h : DOK δ P) (hc : δ 0 0 < 999) : DOK (dCent δ τ z N) P := by
  obtain ⟨h7, h9, h1, ⟨c, hc1, hc2⟩, h3⟩ := h
  refine ⟨fun p _ => vp_in_iff.mpr ⟨?_, ?_⟩, fun k hk9 => ?_, ?_, ⟨c + 1, ?_, ?_⟩, h3⟩
  · show 0 ≤ (τ 12 0).toInt
    have := hk.1.2.2.2.1; omega
  · show (τ 12 0).toInt < ((100 : Nat) : Int)
    have := hk.1.2.2.2.2; omega
  · show vp_in (dFall (δ 9) N k) 10
    obtain ⟨x, hx, ex⟩ := vp_in_of (h9 k hk9) (by decide)
    unfold dFall
    rw [ex]
    split
    · split
      · rename_i hz
        match x, hx with
        | 0, _ => exact absurd hz (by decide)
        | x + 1, hx1 => rw [← nI_1, Int32.add_sub_cancel]; exact vp_in_nI (by omega) (by decide)
      · exact vp_in_iff.mpr (by decide)
    · exact vp_in_nI hx (by decide)
  · show vp_in (if dDraw z (δ 0 0) < τ 14 (δ 1 0).toNatClampNeg then τ 13 (δ 1 0).toNatClampNeg else δ 1 0) 4
    split
    · obtain ⟨x, hx, ex⟩ := vp_in_of h1 (by decide)
      rw [ex, nI_clamp (by omega)]
      exact (hk.2.2.2.2 x hx).1
    · exact h1
  · rw [hc2, fa_lt, nI_toInt (by omega)] at hc
    have : (999 : Int32).toInt = 999 := rfl
    omega
  · show δ 0 0 + 1 = nI (c + 1)
    rw [hc2, nI_1]
theorem price_in {τ δ : Nat → Nat → Int32} {P W G : Nat} (hk : TOK τ P W G) (hG : G ≤ 5) (h : DOK δ P) : ∀ j, j < G → ∀ e, e < 9 → vp_in (tPrice τ (nI j) (δ 0 0 + nI e)) 20001 := by
  intro j hj e he
  obtain ⟨c, hc1, hc2⟩ := h.2.2.2.1
  obtain ⟨k1, k2⟩ := hk.2.2.2.1 j hj
  rw [hc2, nI_add, ← tPrice_m (g := j) (c := c + e) (by omega) (by omega) k1 k2 rfl]
  obtain ⟨a, ha, ea⟩ := vp_in_of k1 (by decide)
  obtain ⟨b, hb, eb⟩ := vp_in_of k2 (by decide)
  have hm : b * (c + e) ≤ 9 * 1007 := Nat.mul_le_mul (by omega) (by omega)
  rw [ea, eb]
  by_cases q : bo (τ 9 0) (nI j) = 1
  · rw [if_pos (show (if bo (τ 9 0) (nI j) = 1 then (1 : Int32) else 2) = 1 by rw [if_pos q]), Int32.one_mul, nIm (a := nI b) (b := nI (c + e)) rfl rfl, nI_add]
    split
    · exact vp_in_iff.mpr (by decide)
    · exact vp_in_nI (by omega) (by decide)
  · rw [if_neg (show ¬ (if bo (τ 9 0) (nI j) = 1 then (1 : Int32) else 2) = 1 by rw [if_neg q]; decide), Int32.neg_mul, Int32.one_mul, Int32.neg_mul, ← Int32.sub_eq_add_neg, nIm (a := nI b) (b := nI (c + e)) rfl rfl]
    split
    · exact vp_in_iff.mpr (by decide)
    · rename_i hs
      by_cases hge : b * (c + e) ≤ a
      · rw [show nI a - nI (b * (c + e)) = nI (a - b * (c + e)) by
          rw [← Nat.sub_add_cancel hge, ← nI_add, Int32.add_sub_cancel, Nat.add_sub_cancel]]
        exact vp_in_nI (by omega) (by decide)
      · refine absurd ?_ hs
        rw [fa_lt]
        have hs2 : (nI a - nI (b * (c + e))).toInt = (a : Int) - (b * (c + e) : Nat) := by
          rw [Int32.toInt_sub, nI_toInt (by omega), nI_toInt (by omega), Int.bmod_eq_of_le] <;> omega
        rw [hs2]
        show (a : Int) - (b * (c + e) : Nat) < 0
        omega
