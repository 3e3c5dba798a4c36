/-! what is told: a clause keeps class and model alike -/
theorem bo_set {y : Int32} {G j : Nat} (hG : G < 5) (hj : j ≤ G) (g : Nat) (hg : g < 2) : bo ((y &&& ((1 <<< (nI G &&& 31)) ^^^ -1)) ||| (nI g <<< (nI G &&& 31))) (nI j) = if j = G then nI g else bo y (nI j) := by
  have hx : ∀ x : Int32, bo x (nI j) = if bt x j = true then 1 else 0 := fun x => by
    by_cases h : bt x j = true
    · rw [if_pos h]; exact (bo_bt (by omega)).mpr h
    · rw [if_neg h]; exact (bo01 x (nI j)).resolve_right (fun q => h ((bo_bt (by omega)).mp q))
  rw [hx, hx, b_or, b_and, b_xor, b_m1 j (by omega), b_shl G (by omega) 1 (by omega), b_shl G (by omega) (nI g) (by omega), bt_1, bt_nI (by omega)]
  by_cases e : j = G
  · subst e
    rw [if_pos rfl, decide_eq_true (Nat.le_refl j), Nat.sub_self, decide_eq_true rfl]
    rcases (show g = 0 ∨ g = 1 by omega) with q | q <;> subst q
    · cases bt y j <;> decide
    · cases bt y j <;> decide
  · rw [if_neg e, decide_eq_false (show ¬ G ≤ j by omega), Bool.false_and, Bool.false_and, Bool.or_false, Bool.false_xor, Bool.and_true]
def RTo (τ : Nat → Nat → Int32) (P W G : Nat) (w : Nat → Int32) : Prop := RT τ P W G (fun k => w (61 + k))
theorem rt_0 {τ : Nat → Nat → Int32} {w : Nat → Int32} : RTo (tNone τ) 0 0 0 (begW w 61) := by
  refine ⟨⟨by omega, by omega, by omega, begW_z (by omega) (by omega) (by omega), begW_z (by omega) (by omega) (by omega), begW_z (by omega) (by omega) (by omega), ?_⟩, fun j hj => by omega, fun j hj => by omega, fun j hj => by omega, fun j hj => ?_⟩
  · show begW w 61 (61 + 36) = 60
    unfold begW
    rw [stW_n (by omega), pk_us]
  · show begW w 61 (61 + (53 + j)) = nI j ∧ begW w 61 (61 + (57 + j)) = 0
    unfold begW stW
    constructor
    · rw [if_pos (by omega)]; congr 1; omega
    · rw [if_neg (by omega), if_pos (by omega)]
theorem rt_still {τ : Nat → Nat → Int32} {P W G : Nat} {w : Nat → Int32} (h : RTo τ P W G w) : RTo (tStill τ) P W G (stW w 61 4) := by
  obtain ⟨⟨a1, a2, a3, a4, a5, a6, a7⟩, b, c, d, e⟩ := h
  have hP := a1
  refine ⟨⟨a1, a2, a3, (stW_n (by omega)).trans a4, (stW_n (by omega)).trans a5, (stW_n (by omega)).trans a6, (stW_n (by omega)).trans a7⟩, fun j hj => ⟨(stW_n (by omega)).trans (b j hj).1, (stW_n (by omega)).trans (b j hj).2⟩, fun j hj => ⟨(stW_n (by omega)).trans (c j hj).1, (stW_n (by omega)).trans (c j hj).2.1, (stW_n (by omega)).trans (c j hj).2.2.1, (stW_n (by omega)).trans (c j hj).2.2.2⟩, fun j hj => ⟨(stW_n (by omega)).trans (d j hj).1, (stW_n (by omega)).trans (d j hj).2.1, (stW_n (by omega)).trans (d j hj).2.2⟩, fun j hj => ?_⟩
  show stW w 61 4 (61 + (53 + j)) = nI j ∧ stW w 61 4 (61 + (57 + j)) = 0
  unfold stW
  constructor
  · rw [if_pos (by omega)]; congr 1; omega
  · rw [if_neg (by omega), if_pos (by omega)]
theorem rt_one {τ : Nat → Nat → Int32} {P W G : Nat} {w : Nat → Int32} (h : RTo τ P W G w) (h0 : τ 0 0 = nI P) (hP : P < 5) (k : Int32) : RTo (tOne τ k) (P + 1) W G (upd (upd (upd w (62 + P) k) (67 + P) 0) 61 (nI (P + 1))) := by
  obtain ⟨⟨a1, a2, a3, a4, a5, a6, a7⟩, b, c, d, e⟩ := h
  have hc : (τ 0 0).toNatClampNeg = P := by rw [h0]; exact nI_clamp (by omega)
  have hn : ∀ j, ¬ j = 62 + P → ¬ j = 67 + P → ¬ j = 61 → upd (upd (upd w (62 + P) k) (67 + P) 0) 61 (nI (P + 1)) j = w j := fun j x y z => by rw [upd_ne z, upd_ne y, upd_ne x]
  refine ⟨⟨by omega, a2, a3, pk_us, (hn _ (by omega) (by omega) (by omega)).trans a5, (hn _ (by omega) (by omega) (by omega)).trans a6, (hn _ (by omega) (by omega) (by omega)).trans a7⟩, fun j hj => ?_, fun j hj => ⟨(hn _ (by omega) (by omega) (by omega)).trans (c j hj).1, (hn _ (by omega) (by omega) (by omega)).trans (c j hj).2.1, (hn _ (by omega) (by omega) (by omega)).trans (c j hj).2.2.1, (hn _ (by omega) (by omega) (by omega)).trans (c j hj).2.2.2⟩, fun j hj => ⟨(hn _ (by omega) (by omega) (by omega)).trans (d j hj).1, (hn _ (by omega) (by omega) (by omega)).trans (d j hj).2.1, (hn _ (by omega) (by omega) (by omega)).trans (d j hj).2.2⟩, fun j hj => ⟨(hn _ (by omega) (by omega) (by omega)).trans (e j hj).1, (hn _ (by omega) (by omega) (by omega)).trans (e j hj).2⟩⟩
  show upd (upd (upd w (62 + P) k) (67 + P) 0) 61 (nI (P + 1)) (61 + (1 + j)) = upd (τ 1) (τ 0 0).toNatClampNeg k j ∧ upd (upd (upd w (62 + P) k) (67 + P) 0) 61 (nI (P + 1)) (61 + (6 + j)) = upd (τ 2) (τ 0 0).toNatClampNeg 0 j
  rw [hc]
  by_cases q : j = P
  · subst q
    rw [pk_us, pk_us]
    constructor
    · rw [upd_ne (by omega), upd_ne (by omega), show 61 + (1 + j) = 62 + j by omega, pk_us]
    · rw [upd_ne (by omega), show 61 + (6 + j) = 67 + j by omega, pk_us]
  · rw [upd_ne q, upd_ne q]
    exact ⟨(hn _ (by omega) (by omega) (by omega)).trans (b j (by omega)).1, (hn _ (by omega) (by omega) (by omega)).trans (b j (by omega)).2⟩
theorem rt_lik {τ : Nat → Nat → Int32} {P W G a b : Nat} {w : Nat → Int32} (h : RTo τ P W G w) (ha : a < P) : RTo (tLik τ a b) P W G (upd w (67 + a) (w (67 + a) ||| (1 <<< (nI b &&& 31)))) := by
  obtain ⟨⟨a1, a2, a3, a4, a5, a6, a7⟩, b1, c, d, e⟩ := h
  have hn : ∀ j, ¬ j = 67 + a → upd w (67 + a) (w (67 + a) ||| (1 <<< (nI b &&& 31))) j = w j := fun j x => upd_ne x
  have hwa : w (67 + a) = τ 2 a := by have h9 : w (61 + (6 + a)) = τ 2 a := (b1 a ha).2; rw [show 61 + (6 + a) = 67 + a by omega] at h9; exact h9
  refine ⟨⟨a1, a2, a3, (hn _ (by omega)).trans a4, (hn _ (by omega)).trans a5, (hn _ (by omega)).trans a6, (hn _ (by omega)).trans a7⟩, fun j hj => ⟨(hn _ (by omega)).trans (b1 j hj).1, ?_⟩, fun j hj => ⟨(hn _ (by omega)).trans (c j hj).1, (hn _ (by omega)).trans (c j hj).2.1, (hn _ (by omega)).trans (c j hj).2.2.1, (hn _ (by omega)).trans (c j hj).2.2.2⟩, fun j hj => ⟨(hn _ (by omega)).trans (d j hj).1, (hn _ (by omega)).trans (d j hj).2.1, (hn _ (by omega)).trans (d j hj).2.2⟩, fun j hj => ⟨(hn _ (by omega)).trans (e j hj).1, (hn _ (by omega)).trans (e j hj).2⟩⟩
  show upd w (67 + a) (w (67 + a) ||| (1 <<< (nI b &&& 31))) (61 + (6 + j)) = upd (τ 2) a (τ 2 a ||| (1 <<< (nI b &&& 31))) j
  rw [hwa]
  by_cases q : j = a
  · subst q; rw [pk_us, show 61 + (6 + j) = 67 + j by omega, pk_us]
  · rw [upd_ne q, upd_ne (by omega)]; exact (b1 j hj).2
theorem rt_len {τ : Nat → Nat → Int32} {P W G a : Nat} {w : Nat → Int32} (h : RTo τ P W G w) : RTo (tLen τ a) P W G (upd w 97 (nI a)) := by
  obtain ⟨⟨a1, a2, a3, a4, a5, a6, a7⟩, b1, c, d, e⟩ := h
  have hn : ∀ j, ¬ j = 97 → upd w 97 (nI a) j = w j := fun j x => upd_ne x
  exact ⟨⟨a1, a2, a3, (hn _ (by omega)).trans a4, (hn _ (by omega)).trans a5, (hn _ (by omega)).trans a6, pk_us⟩, fun j hj => ⟨(hn _ (by omega)).trans (b1 j hj).1, (hn _ (by omega)).trans (b1 j hj).2⟩, fun j hj => ⟨(hn _ (by omega)).trans (c j hj).1, (hn _ (by omega)).trans (c j hj).2.1, (hn _ (by omega)).trans (c j hj).2.2.1, (hn _ (by omega)).trans (c j hj).2.2.2⟩, fun j hj => ⟨(hn _ (by omega)).trans (d j hj).1, (hn _ (by omega)).trans (d j hj).2.1, (hn _ (by omega)).trans (d j hj).2.2⟩, fun j hj => ⟨(hn _ (by omega)).trans (e j hj).1, (hn _ (by omega)).trans (e j hj).2⟩⟩
theorem rt_wld {τ : Nat → Nat → Int32} {P W G a b k : Nat} {w : Nat → Int32} (h : RTo τ P W G w) (ha : a < 4) : RTo (tWld τ a b k) P W G (upd (upd w (114 + a) (nI b)) (118 + a) (nI k)) := by
  obtain ⟨⟨a1, a2, a3, a4, a5, a6, a7⟩, b1, c, d, e⟩ := h
  have hn : ∀ j, ¬ j = 114 + a → ¬ j = 118 + a → upd (upd w (114 + a) (nI b)) (118 + a) (nI k) j = w j := fun j x y => by rw [upd_ne y, upd_ne x]
  refine ⟨⟨a1, a2, a3, (hn _ (by omega) (by omega)).trans a4, (hn _ (by omega) (by omega)).trans a5, (hn _ (by omega) (by omega)).trans a6, (hn _ (by omega) (by omega)).trans a7⟩, fun j hj => ⟨(hn _ (by omega) (by omega)).trans (b1 j hj).1, (hn _ (by omega) (by omega)).trans (b1 j hj).2⟩, fun j hj => ⟨(hn _ (by omega) (by omega)).trans (c j hj).1, (hn _ (by omega) (by omega)).trans (c j hj).2.1, (hn _ (by omega) (by omega)).trans (c j hj).2.2.1, (hn _ (by omega) (by omega)).trans (c j hj).2.2.2⟩, fun j hj => ⟨(hn _ (by omega) (by omega)).trans (d j hj).1, (hn _ (by omega) (by omega)).trans (d j hj).2.1, (hn _ (by omega) (by omega)).trans (d j hj).2.2⟩, fun j hj => ?_⟩
  show upd (upd w (114 + a) (nI b)) (118 + a) (nI k) (61 + (53 + j)) = upd (τ 13) a (nI b) j ∧ upd (upd w (114 + a) (nI b)) (118 + a) (nI k) (61 + (57 + j)) = upd (τ 14) a (nI k) j
  by_cases q : j = a
  · subst q
    rw [pk_us, pk_us, show 61 + (57 + j) = 118 + j by omega, pk_us, upd_ne (by omega), show 61 + (53 + j) = 114 + j by omega, pk_us]
    exact ⟨rfl, rfl⟩
  · rw [upd_ne q, upd_ne q]
    exact ⟨(hn _ (by omega) (by omega)).trans (e j hj).1, (hn _ (by omega) (by omega)).trans (e j hj).2⟩
theorem rt_wrk {τ : Nat → Nat → Int32} {P W G : Nat} {x1 x2 x3 x4 : Int32} {w : Nat → Int32} (h : RTo τ P W G w) (h3 : τ 3 0 = nI W) (hW : W < 6) : RTo (tWork τ x1 x2 x3 x4) P (W + 1) G (upd (upd (upd (upd (upd w (73 + W) x1) (79 + W) x2) (85 + W) x3) (91 + W) x4) 72 (nI (W + 1))) := by
  obtain ⟨⟨a1, a2, a3, a4, a5, a6, a7⟩, b1, c, d, e⟩ := h
  have hc : (τ 3 0).toNatClampNeg = W := by rw [h3]; exact nI_clamp (by omega)
  generalize hg : upd (upd (upd (upd (upd w (73 + W) x1) (79 + W) x2) (85 + W) x3) (91 + W) x4) 72 (nI (W + 1)) = w'
  have hn : ∀ j, ¬ j = 73 + W → ¬ j = 79 + W → ¬ j = 85 + W → ¬ j = 91 + W → ¬ j = 72 → w' j = w j := fun j y1 y2 y3 y4 y5 => by rw [← hg, upd_ne y5, upd_ne y4, upd_ne y3, upd_ne y2, upd_ne y1]
  have n0 : w' (61 + 11) = nI (W + 1) := by rw [← hg]; exact pk_us
  have n1 : w' (73 + W) = x1 := by rw [← hg, upd_ne (by omega), upd_ne (by omega), upd_ne (by omega), upd_ne (by omega), pk_us]
  have n2 : w' (79 + W) = x2 := by rw [← hg, upd_ne (by omega), upd_ne (by omega), upd_ne (by omega), pk_us]
  have n3 : w' (85 + W) = x3 := by rw [← hg, upd_ne (by omega), upd_ne (by omega), pk_us]
  have n4 : w' (91 + W) = x4 := by rw [← hg, upd_ne (by omega), pk_us]
  have hk : ∀ j, j < 61 → ¬ j = 11 → (∀ i, i = 12 ∨ i = 18 ∨ i = 24 ∨ i = 30 → ¬ j = i + W) → w' (61 + j) = w (61 + j) := fun j y1 y2 y3 => hn _ (by have := y3 12 (by omega); omega) (by have := y3 18 (by omega); omega) (by have := y3 24 (by omega); omega) (by have := y3 30 (by omega); omega) (by omega)
  refine ⟨⟨a1, by omega, a3, (hk 0 (by omega) (by omega) (by omega)).trans a4, n0, (hk 37 (by omega) (by omega) (by omega)).trans a6, (hk 36 (by omega) (by omega) (by omega)).trans a7⟩, fun j hj => ⟨(hk _ (by omega) (by omega) (by omega)).trans (b1 j hj).1, (hk _ (by omega) (by omega) (by omega)).trans (b1 j hj).2⟩, fun j hj => ?_, fun j hj => ⟨(hk _ (by omega) (by omega) (by omega)).trans (d j hj).1, (hk _ (by omega) (by omega) (by omega)).trans (d j hj).2.1, (hk _ (by omega) (by omega) (by omega)).trans (d j hj).2.2⟩, fun j hj => ⟨(hk _ (by omega) (by omega) (by omega)).trans (e j hj).1, (hk _ (by omega) (by omega) (by omega)).trans (e j hj).2⟩⟩
  show w' (61 + (12 + j)) = upd (τ 4) (τ 3 0).toNatClampNeg x1 j ∧ w' (61 + (18 + j)) = upd (τ 5) (τ 3 0).toNatClampNeg x2 j ∧ w' (61 + (24 + j)) = upd (τ 6) (τ 3 0).toNatClampNeg x3 j ∧ w' (61 + (30 + j)) = upd (τ 7) (τ 3 0).toNatClampNeg x4 j
  rw [hc]
  by_cases q : j = W
  · subst q
    rw [pk_us, pk_us, pk_us, pk_us, show 61 + (12 + j) = 73 + j by omega, show 61 + (18 + j) = 79 + j by omega, show 61 + (24 + j) = 85 + j by omega, show 61 + (30 + j) = 91 + j by omega]
    exact ⟨n1, n2, n3, n4⟩
  · rw [upd_ne q, upd_ne q, upd_ne q, upd_ne q]
    exact ⟨(hk _ (by omega) (by omega) (by omega)).trans (c j (by omega)).1, (hk _ (by omega) (by omega) (by omega)).trans (c j (by omega)).2.1, (hk _ (by omega) (by omega) (by omega)).trans (c j (by omega)).2.2.1, (hk _ (by omega) (by omega) (by omega)).trans (c j (by omega)).2.2.2⟩
theorem rt_gud {τ : Nat → Nat → Int32} {P W G g : Nat} {x1 x2 k : Int32} {w : Nat → Int32} (h : RTo τ P W G w) (h8 : τ 8 0 = nI G) (hG : G < 5) (hg : g < 2) (hk : k = if nI g = 1 then 1 else 2) : RTo (tGood τ x1 x2 (nI g)) P W (G + 1) (upd (upd (upd (upd w (99 + G) x1) (104 + G) x2) (109 + G) k) 98 (nI (G + 1))) := by
  obtain ⟨⟨a1, a2, a3, a4, a5, a6, a7⟩, b1, c, d, e⟩ := h
  have hc : (τ 8 0).toNatClampNeg = G := by rw [h8]; exact nI_clamp (by omega)
  generalize hw : upd (upd (upd (upd w (99 + G) x1) (104 + G) x2) (109 + G) k) 98 (nI (G + 1)) = w'
  have hn : ∀ j, ¬ j = 99 + G → ¬ j = 104 + G → ¬ j = 109 + G → ¬ j = 98 → w' j = w j := fun j y1 y2 y3 y5 => by rw [← hw, upd_ne y5, upd_ne y3, upd_ne y2, upd_ne y1]
  have n0 : w' (61 + 37) = nI (G + 1) := by rw [← hw]; exact pk_us
  have n1 : w' (99 + G) = x1 := by rw [← hw, upd_ne (by omega), upd_ne (by omega), upd_ne (by omega), pk_us]
  have n2 : w' (104 + G) = x2 := by rw [← hw, upd_ne (by omega), upd_ne (by omega), pk_us]
  have n3 : w' (109 + G) = k := by rw [← hw, upd_ne (by omega), pk_us]
  have hkk : ∀ j, j < 61 → ¬ j = 37 → (∀ i, i = 38 ∨ i = 43 ∨ i = 48 → ¬ j = i + G) → w' (61 + j) = w (61 + j) := fun j y1 y2 y3 => hn _ (by have := y3 38 (by omega); omega) (by have := y3 43 (by omega); omega) (by have := y3 48 (by omega); omega) (by omega)
  refine ⟨⟨a1, a2, by omega, (hkk 0 (by omega) (by omega) (by omega)).trans a4, (hkk 11 (by omega) (by omega) (by omega)).trans a5, n0, (hkk 36 (by omega) (by omega) (by omega)).trans a7⟩, fun j hj => ⟨(hkk _ (by omega) (by omega) (by omega)).trans (b1 j hj).1, (hkk _ (by omega) (by omega) (by omega)).trans (b1 j hj).2⟩, fun j hj => ⟨(hkk _ (by omega) (by omega) (by omega)).trans (c j hj).1, (hkk _ (by omega) (by omega) (by omega)).trans (c j hj).2.1, (hkk _ (by omega) (by omega) (by omega)).trans (c j hj).2.2.1, (hkk _ (by omega) (by omega) (by omega)).trans (c j hj).2.2.2⟩, fun j hj => ?_, fun j hj => ⟨(hkk _ (by omega) (by omega) (by omega)).trans (e j hj).1, (hkk _ (by omega) (by omega) (by omega)).trans (e j hj).2⟩⟩
  show w' (61 + (38 + j)) = upd (τ 10) (τ 8 0).toNatClampNeg x1 j ∧ w' (61 + (43 + j)) = upd (τ 11) (τ 8 0).toNatClampNeg x2 j ∧ w' (61 + (48 + j)) = if bo ((τ 9 0 &&& ((1 <<< (τ 8 0 &&& 31)) ^^^ -1)) ||| (nI g <<< (τ 8 0 &&& 31))) (nI j) = 1 then 1 else 2
  rw [hc, h8, bo_set hG (by omega) g hg]
  by_cases q : j = G
  · subst q
    rw [pk_us, pk_us, if_pos rfl, show 61 + (38 + j) = 99 + j by omega, show 61 + (43 + j) = 104 + j by omega, show 61 + (48 + j) = 109 + j by omega, ← hk]
    exact ⟨n1, n2, n3⟩
  · rw [upd_ne q, upd_ne q, if_neg q]
    exact ⟨(hkk _ (by omega) (by omega) (by omega)).trans (d j (by omega)).1, (hkk _ (by omega) (by omega) (by omega)).trans (d j (by omega)).2.1, (hkk _ (by omega) (by omega) (by omega)).trans (d j (by omega)).2.2⟩
theorem rt_act {τ : Nat → Nat → Int32} {P W G : Nat} {w : Nat → Int32} {x : tAct} (h : RTo τ P W G w) (h0 : τ 0 0 = nI P) (h3 : τ 3 0 = nI W) (h8 : τ 8 0 = nI G) (ha : actOK P W G x) : RTo (doA τ x) (cP P x) (cW W x) (cG G x) (doM P W G w x) := by
  obtain ⟨h1, h2, h5, h6, h7, h9, h10⟩ := ha
  obtain ⟨c, a, b, d, e⟩ := x
  replace h1 : c < 12 := h1
  dsimp only at *
  rcases (show c = 0 ∨ c = 1 ∨ c = 2 ∨ c = 3 ∨ c = 4 ∨ c = 5 ∨ c = 6 ∨ c = 7 ∨ c = 8 ∨ c = 9 ∨ c = 10 ∨ c = 11 by omega) with q | q | q | q | q | q | q | q | q | q | q | q <;> subst q
  · exact rt_0
  · exact rt_one h h0 (rm_P h2 (by decide) (by decide)) _
  · exact rt_one h h0 (rm_P h2 (by decide) (by decide)) _
  · exact rt_one h h0 (rm_P h2 (by decide) (by decide)) _
  · exact rt_one h h0 (rm_P h2 (by decide) (by decide)) _
  · exact rt_lik h (h5 rfl).1
  · exact rt_wrk h h3 (rm_W h2)
  · exact rt_gud (g := 1) h h8 (rm_G h2 (Or.inl rfl)) (by decide) (show nI 1 = if nI 1 = 1 then (1 : Int32) else 2 by decide)
  · exact rt_gud (g := 0) h h8 (rm_G h2 (Or.inr rfl)) (by decide) (show nI 2 = if nI 0 = 1 then (1 : Int32) else 2 by decide)
  · exact rt_len h
  · exact rt_wld h (h10 rfl).1
  · exact rt_still h
theorem vnI {a N : Nat} (h : a < N) (hN : N < 2 ^ 31) : vp_in (nI a) N := vp_in_nI h hN
theorem tok_act {τ : Nat → Nat → Int32} {P W G : Nat} {x : tAct} (hk : TOK τ P W G) (hP : P ≤ 5) (hW : W ≤ 6) (hG : G ≤ 5) (ha : actOK P W G x) : TOK (doA τ x) (cP P x) (cW W x) (cG G x) := by
  have hcn := act_tau (x := x) hk.1.1 hk.1.2.1 hk.1.2.2.1 ha.1
  obtain ⟨h1, h2, h5, h6, h7, h9, h10⟩ := ha
  obtain ⟨⟨k0, k3, k8, kl1, kl2⟩, kp, kw, kg, kv⟩ := hk
  obtain ⟨c, a, b, d, e⟩ := x
  replace h1 : c < 12 := h1
  dsimp only at *
  have i60 : (60 : Int32).toInt = 60 := rfl
  refine ⟨⟨hcn.1, hcn.2.1, hcn.2.2, ?_⟩, ?_⟩
  · by_cases q : c = 0
    · subst q; exact ⟨by show 1 ≤ (60 : Int32).toInt; omega, by show (60 : Int32).toInt ≤ 99; omega⟩
    · by_cases q9 : c = 9
      · subst q9
        have := h9 rfl
        show 1 ≤ (nI a).toInt ∧ (nI a).toInt ≤ 99
        rw [nI_toInt (by omega)]; omega
      · have : doA τ (c, a, b, d, e) 12 0 = τ 12 0 := by
          rcases (show c = 1 ∨ c = 2 ∨ c = 3 ∨ c = 4 ∨ c = 5 ∨ c = 6 ∨ c = 7 ∨ c = 8 ∨ c = 10 ∨ c = 11 by omega) with z | z | z | z | z | z | z | z | z | z <;> subst z <;> rfl
        rw [this]; exact ⟨kl1, kl2⟩
  · have hc0 : (τ 0 0).toNatClampNeg = P := by rw [k0]; exact nI_clamp (by omega)
    have hc3 : (τ 3 0).toNatClampNeg = W := by rw [k3]; exact nI_clamp (by omega)
    have hc8 : (τ 8 0).toNatClampNeg = G := by rw [k8]; exact nI_clamp (by omega)
    have hone : ∀ k : Nat, k < 4 → P < 5 → ∀ j, j < P + 1 → vp_in (tOne τ (nI k) 1 j) 4 := fun k hk hP j hj => by
      show vp_in (upd (τ 1) (τ 0 0).toNatClampNeg (nI k) j) 4
      rw [hc0]
      by_cases q : j = P
      · subst q; rw [pk_us]; exact vnI hk (by decide)
      · rw [upd_ne q]; exact kp j (by omega)
    rcases (show c = 0 ∨ c = 1 ∨ c = 2 ∨ c = 3 ∨ c = 4 ∨ c = 5 ∨ c = 6 ∨ c = 7 ∨ c = 8 ∨ c = 9 ∨ c = 10 ∨ c = 11 by omega) with q | q | q | q | q | q | q | q | q | q | q | q <;> subst q
    · exact ⟨fun j hj => absurd hj (Nat.not_lt_zero j), fun j hj => absurd hj (Nat.not_lt_zero j), fun j hj => absurd hj (Nat.not_lt_zero j), fun j hj => ⟨vnI hj (by decide), vnI (a := 0) (by decide) (by decide)⟩⟩
    · exact ⟨hone 0 (by decide) (rm_P h2 (by decide) (by decide)), kw, kg, kv⟩
    · exact ⟨hone 1 (by decide) (rm_P h2 (by decide) (by decide)), kw, kg, kv⟩
    · exact ⟨hone 2 (by decide) (rm_P h2 (by decide) (by decide)), kw, kg, kv⟩
    · exact ⟨hone 3 (by decide) (rm_P h2 (by decide) (by decide)), kw, kg, kv⟩
    · exact ⟨kp, kw, kg, kv⟩
    · refine ⟨kp, fun j hj => ?_, kg, kv⟩
      have h6 := h6 rfl
      have hj : j < W + 1 := hj
      show vp_in (upd (τ 4) (τ 3 0).toNatClampNeg (nI a) j) 3 ∧ (1 ≤ (upd (τ 5) (τ 3 0).toNatClampNeg (nI b) j).toInt ∧ (upd (τ 5) (τ 3 0).toNatClampNeg (nI b) j).toInt ≤ 60) ∧ (1 ≤ (upd (τ 6) (τ 3 0).toNatClampNeg (nI d) j).toInt ∧ (upd (τ 6) (τ 3 0).toNatClampNeg (nI d) j).toInt ≤ 9) ∧ vp_in (upd (τ 7) (τ 3 0).toNatClampNeg (nI e) j) 51
      rw [hc3]
      by_cases q : j = W
      · subst q
        rw [pk_us, pk_us, pk_us, pk_us, nI_toInt (by omega), nI_toInt (by omega)]
        exact ⟨vnI h6.1 (by decide), by omega, by omega, vnI h6.2.2.2 (by decide)⟩
      · rw [upd_ne q, upd_ne q, upd_ne q, upd_ne q]; exact kw j (by omega)
    · refine ⟨kp, kw, fun j hj => ?_, kv⟩
      have h7 := h7 (Or.inl rfl)
      have hj : j < G + 1 := hj
      show vp_in (upd (τ 10) (τ 8 0).toNatClampNeg (nI a) j) 100 ∧ vp_in (upd (τ 11) (τ 8 0).toNatClampNeg (nI b) j) 10
      rw [hc8]
      by_cases q : j = G
      · subst q; rw [pk_us, pk_us]; exact ⟨vnI h7.1 (by decide), vnI h7.2 (by decide)⟩
      · rw [upd_ne q, upd_ne q]; exact kg j (by omega)
    · refine ⟨kp, kw, fun j hj => ?_, kv⟩
      have h7 := h7 (Or.inr rfl)
      have hj : j < G + 1 := hj
      show vp_in (upd (τ 10) (τ 8 0).toNatClampNeg (nI a) j) 100 ∧ vp_in (upd (τ 11) (τ 8 0).toNatClampNeg (nI b) j) 10
      rw [hc8]
      by_cases q : j = G
      · subst q; rw [pk_us, pk_us]; exact ⟨vnI h7.1 (by decide), vnI h7.2 (by decide)⟩
      · rw [upd_ne q, upd_ne q]; exact kg j (by omega)
    · exact ⟨kp, kw, kg, kv⟩
    · refine ⟨kp, kw, kg, fun j hj => ?_⟩
      have h10 := h10 rfl
      show vp_in (upd (τ 13) a (nI b) j) 4 ∧ vp_in (upd (τ 14) a (nI d) j) 10
      by_cases q : j = a
      · subst q; rw [pk_us, pk_us]; exact ⟨vnI h10.2.1 (by decide), vnI h10.2.2 (by decide)⟩
      · rw [upd_ne q, upd_ne q]; exact kv j hj
    · exact ⟨kp, kw, kg, fun j hj => ⟨vnI hj (by decide), vnI (a := 0) (by decide) (by decide)⟩⟩
/-- all clauses of a text -/
def actsOK : Nat → Nat → Nat → List tAct → Prop
  | _, _, _, [] => True
  | P, W, G, x :: xs => actOK P W G x ∧ actsOK (cP P x) (cW W x) (cG G x) xs
theorem fnd_acts {lt : Nat → Int32} {N : Nat} : ∀ k num P W G q y, fnd lt N k num P W G q = .inr y → actsOK P W G y.2 := by
  intro k
  induction k with
  | zero => intro num P W G q y h; cases h
  | succ k ih =>
    intro num P W G q y h
    rw [fnd] at h
    cases e : rdC lt N P W G q with
    | inl s => rw [e] at h; cases h
    | inr x =>
      rw [e] at h
      have hx := rdC_act e
      replace h : (if tkK lt N x.1 = 3 then .inr (num, [x.2]) else if ¬ lt (tsp lt N x.1) = 59 ∨ num = 14 then .inl (tsp lt N x.1) else (fnd lt N k (num + 1) (cP P x.2) (cW W x.2) (cG G x.2) (tkE lt N x.1)).elim .inl (fun y => .inr (y.1, x.2 :: y.2))) = (.inr y : Nat ⊕ (Nat × List tAct)) := h
      by_cases h3 : tkK lt N x.1 = 3
      · rw [if_pos h3] at h; cases h; exact ⟨hx, trivial⟩
      · rw [if_neg h3] at h
        by_cases h4 : ¬ lt (tsp lt N x.1) = 59 ∨ num = 14
        · rw [if_pos h4] at h; cases h
        · rw [if_neg h4] at h
          cases e2 : fnd lt N k (num + 1) (cP P x.2) (cW W x.2) (cG G x.2) (tkE lt N x.1) with
          | inl s => rw [e2] at h; cases h
          | inr z => rw [e2] at h; cases h; exact ⟨hx, ih _ _ _ _ _ _ e2⟩
theorem all_acts : ∀ (xs : List tAct) {τ : Nat → Nat → Int32} {P W G : Nat} {w : Nat → Int32}, P ≤ 5 → W ≤ 6 → G ≤ 5 → RTo τ P W G w → TOK τ P W G → actsOK P W G xs → ∃ P' W' G', P' ≤ 5 ∧ W' ≤ 6 ∧ G' ≤ 5 ∧ RTo (xs.foldl doA τ) P' W' G' (foldM P W G w xs) ∧ TOK (xs.foldl doA τ) P' W' G'
  | [], τ, P, W, G, w, hP, hW, hG, h1, h2, _ => ⟨P, W, G, hP, hW, hG, h1, h2⟩
  | x :: xs, τ, P, W, G, w, hP, hW, hG, h1, h2, h3 => by
    have hc := act_cnt hP hW hG h3.1
    exact all_acts xs hc.1 hc.2.1 hc.2.2 (rt_act h1 h2.1.1 h2.1.2.1 h2.1.2.2.1 h3.1) (tok_act h2 hP hW hG h3.1) h3.2
