section XR5
variable {f : xM} {k0 s0 pc q n : Nat} {L : List (Nat × Value)} {S : List Value} {M : Nat → xE} {Q : Option Value → (Nat → xE) → Prop}
theorem x_alenI {a z : Nat} {h : Nat → Int32} {v : Int32} (hM : M a = .inl (0, z, .inl h)) (ha : a < n) (hv : Int32.ofNat z = v) (hd : decode f.2.1 pc = .ok (.arraylength, 1)) (hq : pc + 1 = q) (kk : X f k0 s0 q L (.int v :: S) n M Q) : X f k0 s0 pc L (.ref a :: S) n M Q := by
  subst hq
  exact fun g p l e s m args below meth c H locs ls C hk hP hS hl => va_alen C.1 C.2.1 C.2.2.2.2.2.2.2.2.1 hP a 0 (xWa ha hM) rfl hv hd (kk g p l e s m args below meth c H locs ls C hk hP hS hl)
theorem x_alenJ {a z : Nat} {h : Nat → Int64} {v : Int32} (hM : M a = .inl (1, z, .inr (.inl h))) (ha : a < n) (hv : Int32.ofNat z = v) (hd : decode f.2.1 pc = .ok (.arraylength, 1)) (hq : pc + 1 = q) (kk : X f k0 s0 q L (.int v :: S) n M Q) : X f k0 s0 pc L (.ref a :: S) n M Q := by
  subst hq
  exact fun g p l e s m args below meth c H locs ls C hk hP hS hl => va_alen C.1 C.2.1 C.2.2.2.2.2.2.2.2.1 hP a 1 (xWa ha hM) rfl hv hd (kk g p l e s m args below meth c H locs ls C hk hP hS hl)
theorem xarr {cA : ClassId} {z : Nat} {v w : Nat → Value} (h : ∀ j, j < z → v j = w j) : arrV cA z v = arrV cA z w := by
  unfold arrV
  congr 1
  apply Array.ext
  · simp
  · intro i h1 h2
    simp at h1 h2 ⊢
    exact h i h1
/-- an array's contents, told by another function -/
theorem x_fixI {a t z : Nat} {h f' : Nat → Int32} (hM : M a = .inl (t, z, .inl h)) (ha : a < n) (he : ∀ j, j < z → h j = f' j) (kk : ∀ M' : Nat → xE, M' a = .inl (t, z, .inl f') → (∀ j, j ≠ a → M' j = M j) → X f k0 s0 pc L S n M' Q) : X f k0 s0 pc L S n M Q := by
  intro g p l e s m args below meth c H locs ls C hk hP hS hl
  refine kk (xup M a (.inl (t, z, .inl f'))) (xup_s _ _ _) (fun j h => xup_n _ _ _ _ h) g p l e s m args below meth c H locs ls C hk ?_ hS hl
  intro k x hx
  obtain ⟨hkn, rfl⟩ := xW_of hx
  have h1 := hP k _ (xW_at g n M hkn)
  by_cases hka : k = a
  · subst hka
    rw [hM] at h1
    rw [xup_s]
    show H[g.1 + k]? = some (vp_cell (g.2.2.1 t) (z, .inl f'))
    have h2 : H[g.1 + k]? = some (vp_cell (g.2.2.1 t) (z, .inl h)) := h1
    rw [h2, vp_cell_i, vp_cell_i, xarr (fun j hj => by rw [he j hj])]
  · rw [xup_n _ _ _ _ hka]
    exact h1
theorem x_fixJ {a t z : Nat} {h f' : Nat → Int64} (hM : M a = .inl (t, z, .inr (.inl h))) (ha : a < n) (he : ∀ j, j < z → h j = f' j) (kk : ∀ M' : Nat → xE, M' a = .inl (t, z, .inr (.inl f')) → (∀ j, j ≠ a → M' j = M j) → X f k0 s0 pc L S n M' Q) : X f k0 s0 pc L S n M Q := by
  intro g p l e s m args below meth c H locs ls C hk hP hS hl
  refine kk (xup M a (.inl (t, z, .inr (.inl f')))) (xup_s _ _ _) (fun j h => xup_n _ _ _ _ h) g p l e s m args below meth c H locs ls C hk ?_ hS hl
  intro k x hx
  obtain ⟨hkn, rfl⟩ := xW_of hx
  have h1 := hP k _ (xW_at g n M hkn)
  by_cases hka : k = a
  · subst hka
    rw [hM] at h1
    rw [xup_s]
    show H[g.1 + k]? = some (vp_cell (g.2.2.1 t) (z, .inr (.inl f')))
    have h2 : H[g.1 + k]? = some (vp_cell (g.2.2.1 t) (z, .inr (.inl h))) := h1
    rw [h2, vp_cell_l, vp_cell_l, xarr (fun j hj => by rw [he j hj])]
  · rw [xup_n _ _ _ _ hka]
    exact h1
theorem xMet.post {as : List Value} {Q' : Option Value → (Nat → xE) → Prop} (hq : ∀ r M', Q' r M' → Q r M') (h : xMet f as n M Q') : xMet f as n M Q := by
  intro l g p e ha hc hk s m args below hf happ hP hK
  obtain ⟨k, o, h1, h2, h3, ⟨⟨⟨r, M', q1, q2, q3⟩, q4⟩, h5⟩⟩ := h l g p e ha hc hk s m args below hf happ hP hK
  exact ⟨k, o, h1, h2, h3, ⟨⟨⟨r, M', q1, hq r M' q2, q3⟩, q4⟩, h5⟩⟩
end XR5
/-- outside of [a, b) nothing has changed -/
def xfr (a b : Nat) (M M' : Nat → xE) : Prop := ∀ j, (j < a ∨ b ≤ j) → M' j = M j
def oX0 (p : Nat) (t : Nat → Nat → Int32) (M : Nat → xE) : Prop := M p = .inr (0, [.int (t 0 0), .ref (p + 1), .ref (p + 2), .ref (p + 3)]) ∧ M (p + 1) = .inl (0, 45, .inl (t 1)) ∧ M (p + 2) = .inl (0, 5, .inl (t 2)) ∧ M (p + 3) = .inl (0, 5, .inl (t 3))
def oX1 (p : Nat) (t : Nat → Nat → Int32) (u : Nat → Nat → Int64) (M : Nat → xE) : Prop := M p = .inr (1, [.int (t 0 0), .ref (p + 1), .ref (p + 2), .ref (p + 3), .ref (p + 4), .ref (p + 5), .ref (p + 6)]) ∧ M (p + 1) = .inl (0, 6, .inl (t 1)) ∧ M (p + 2) = .inl (0, 6, .inl (t 2)) ∧ M (p + 3) = .inl (0, 6, .inl (t 3)) ∧ M (p + 4) = .inl (1, 4, .inr (.inl (u 4))) ∧ M (p + 5) = .inl (1, 4, .inr (.inl (u 5))) ∧ M (p + 6) = .inl (1, 4, .inr (.inl (u 6)))
def oX2 (p : Nat) (t : Nat → Nat → Int32) (M : Nat → xE) : Prop := M p = .inr (2, [.int (t 0 0), .int (t 1 0), .int (t 2 0), .ref (p + 1), .ref (p + 2)]) ∧ M (p + 1) = .inl (0, 5, .inl (t 3)) ∧ M (p + 2) = .inl (0, 32, .inl (t 4))
def oX3 (p : Nat) (t : Nat → Nat → Int32) (M : Nat → xE) : Prop := M p = .inr (3, [.int (t 0 0), .int (t 1 0), .int (t 2 0), .int (t 3 0), .int (t 4 0), .int (t 5 0), .int (t 6 0), .ref (p + 1), .ref (p + 2), .ref (p + 3)]) ∧ M (p + 1) = .inl (0, 5, .inl (t 7)) ∧ M (p + 2) = .inl (0, 5, .inl (t 8)) ∧ M (p + 3) = .inl (0, 6, .inl (t 9))
def oX4 (p : Nat) (t : Nat → Nat → Int32) (M : Nat → xE) : Prop := M p = .inr (4, [.int (t 0 0), .int (t 1 0), .int (t 2 0), .ref (p + 1), .ref (p + 2)]) ∧ M (p + 1) = .inl (0, 45, .inl (t 3)) ∧ M (p + 2) = .inl (0, 32, .inl (t 4))
def oX6 (p : Nat) (t : Nat → Nat → Int32) (M : Nat → xE) : Prop := M p = .inr (6, [.int (t 0 0), .int (t 1 0), .int (t 2 0), .ref (p + 1), .ref (p + 2), .ref (p + 3), .ref (p + 4), .ref (p + 5), .ref (p + 6), .ref (p + 7)]) ∧ M (p + 1) = .inl (0, 5, .inl (t 3)) ∧ M (p + 2) = .inl (0, 5, .inl (t 4)) ∧ M (p + 3) = .inl (0, 6, .inl (t 5)) ∧ M (p + 4) = .inl (0, 64, .inl (t 6)) ∧ M (p + 5) = .inl (0, 64, .inl (t 7)) ∧ M (p + 6) = .inl (0, 64, .inl (t 8)) ∧ M (p + 7) = .inl (0, 64, .inl (t 9))
def oX7 (p : Nat) (t : Nat → Nat → Int32) (M : Nat → xE) : Prop := M p = .inr (7, [.ref (p + 1), .ref (p + 2), .int (t 2 0), .int (t 3 0), .int (t 4 0), .int (t 5 0), .int (t 6 0), .int (t 7 0)]) ∧ M (p + 1) = .inl (0, 160, .inl (t 0))
def oX8 (p : Nat) (t : Nat → Nat → Int32) (M : Nat → xE) : Prop := M p = .inr (8, [.int (t 0 0), .ref (p + 1), .ref (p + 2), .int (t 3 0), .ref (p + 3), .ref (p + 4), .ref (p + 5), .ref (p + 6), .int (t 8 0), .int (t 9 0), .ref (p + 7), .ref (p + 8), .int (t 12 0), .ref (p + 9), .ref (p + 10)]) ∧ M (p + 1) = .inl (0, 5, .inl (t 1)) ∧ M (p + 2) = .inl (0, 5, .inl (t 2)) ∧ M (p + 3) = .inl (0, 6, .inl (t 4)) ∧ M (p + 4) = .inl (0, 6, .inl (t 5)) ∧ M (p + 5) = .inl (0, 6, .inl (t 6)) ∧ M (p + 6) = .inl (0, 6, .inl (t 7)) ∧ M (p + 7) = .inl (0, 5, .inl (t 10)) ∧ M (p + 8) = .inl (0, 5, .inl (t 11)) ∧ M (p + 9) = .inl (0, 4, .inl (t 13)) ∧ M (p + 10) = .inl (0, 4, .inl (t 14))
def oX9 (p : Nat) (t : Nat → Nat → Int32) (M : Nat → xE) : Prop := M p = .inr (9, [.int (t 0 0), .ref (p + 1)]) ∧ M (p + 1) = .inl (0, 6, .inl (t 1))
def oX11 (p : Nat) (t : Nat → Nat → Int32) (u : Nat → Nat → Int64) (M : Nat → xE) : Prop := M p = .inr (11, [.ref (p + 1), .ref (p + 2), .int (t 2 0), .ref (p + 3), .ref (p + 4), .int (t 5 0), .int (t 6 0), .int (t 7 0), .int (t 8 0), .int (t 9 0), .int (t 10 0), .int (t 11 0), .ref (p + 5), .int (t 13 0), .ref (p + 6), .ref (p + 7), .long (u 16 0), .long (u 17 0), .int (t 18 0), .ref (p + 8), .ref (p + 9), .ref (p + 10), .int (t 22 0), .ref (p + 11), .ref (p + 12), .ref (p + 13), .int (t 26 0), .int (t 27 0), .ref (p + 14)]) ∧ M (p + 1) = .inl (0, 122, .inl (t 0)) ∧ M (p + 2) = .inl (0, 242, .inl (t 1)) ∧ M (p + 3) = .inl (2, 2, .inl (t 3)) ∧ M (p + 4) = .inl (0, 160, .inl (t 4)) ∧ M (p + 5) = .inl (0, 5, .inl (t 12)) ∧ M (p + 6) = .inl (1, 4, .inr (.inl (u 14))) ∧ M (p + 7) = .inl (1, 4, .inr (.inl (u 15))) ∧ M (p + 8) = .inl (0, 6, .inl (t 19)) ∧ M (p + 9) = .inl (0, 6, .inl (t 20)) ∧ M (p + 10) = .inl (0, 6, .inl (t 21)) ∧ M (p + 11) = .inl (0, 6, .inl (t 23)) ∧ M (p + 12) = .inl (0, 10, .inl (t 24)) ∧ M (p + 13) = .inl (0, 10, .inl (t 25)) ∧ M (p + 14) = .inl (0, 45, .inl (t 28))
set_option maxHeartbeats 4000000 in
set_option maxRecDepth 100000 in
theorem l_fillI {n : Nat} {a z : Nat} (hn : a < n) (hz : z < 2 ^ 31) {v : Int32} {Q : Option Value → (Nat → xE) → Prop} {M0 : Nat → xE} (hQ : ∀ M' : Nat → xE, M' a = .inl (0, z, .inl (fun _ => v)) → (∀ j, j ≠ a → M' j = M0 j) → Q none M') : ∀ (k i : Nat) (M : Nat → xE) (h : Nat → Int32), i + k = z → M a = .inl (0, z, .inl h) → (∀ j, j < i → h j = v) → (∀ j, j ≠ a → M j = M0 j) → X mJ7_fill_53178 0 0 5 [(2, .int (nI i)), (0, .ref a), (1, .int v), (3, .int (nI z))] [] n M Q := by
  intro k
  induction k with
  | zero =>
    intro i M h hi h0 hv hm
    refine x_iload_n (q := 6) dJ7_fill_53178_5 rfl rfl ?_
    refine x_iload_n (q := 7) dJ7_fill_53178_6 rfl rfl ?_
    refine x_icmp_ge (t := 20) (q := 10) dJ7_fill_53178_7 (by decide) rfl (fun c7 => ?_) (fun c7 => absurd (by rw [show i = z by omega]; exact nI_le (Nat.le_refl z) hz) c7)
    refine x_fixI (f' := fun _ => v) h0 hn (fun j hj => hv j (by omega)) (fun M9 w9 o9 => ?_)
    refine x_vret dJ7_fill_53178_20 rfl rfl (Nat.le_refl _) ?_
    exact hQ M9 w9 (fun j hj => (o9 j hj).trans (hm j hj))
  | succ k ih =>
    intro i M h hi h0 hv hm
    refine x_iload_n (q := 6) dJ7_fill_53178_5 rfl rfl ?_
    refine x_iload_n (q := 7) dJ7_fill_53178_6 rfl rfl ?_
    refine x_icmp_ge (t := 20) (q := 10) dJ7_fill_53178_7 (by decide) rfl (fun c7 => absurd c7 (nI_ge (by omega) hz)) (fun c7 => ?_)
    refine x_aload_n (q := 11) dJ7_fill_53178_10 rfl rfl ?_
    refine x_iload_n (q := 12) dJ7_fill_53178_11 rfl rfl ?_
    refine x_iload_n (q := 13) dJ7_fill_53178_12 rfl rfl ?_
    refine x_iast (q := 14) h0 hn (vp_in_nI (by omega) hz) dJ7_fill_53178_13 rfl (fun M13 w13 o13 => ?_)
    refine x_iinc (L' := fun x2_14 => [(2, .int x2_14), (0, .ref a), (1, .int v), (3, .int (nI z))]) (q := 17) dJ7_fill_53178_14 rfl rfl (by decide) (fun _ => rfl) (fun x2_14 ex2_14 => ?_)
    refine x_goto (q := 5) dJ7_fill_53178_17 (by decide) ?_
    rw [ex2_14, show nI i + Int32.ofInt 1 = nI (i + 1) from nI_1 i]
    rw [nI_clamp (by omega)] at w13
    exact ih (i + 1) M13 _ (by omega) w13 (fun j hj => by unfold upd; by_cases h5 : j = i <;> simp_all <;> exact hv j (by omega)) (fun j hj => (o13 j hj).trans (hm j hj))
set_option maxHeartbeats 4000000 in
set_option maxRecDepth 100000 in
theorem c_fillI {n : Nat} {M : Nat → xE} {a z : Nat} {v : Int32} {h : Nat → Int32} (hn : a < n) (hz : z < 2 ^ 31) (h0 : M a = .inl (0, z, .inl h)) : xMet mJ7_fill_53178 [.ref a, .int v] n M (fun r M' => none = r ∧ M' a = .inl (0, z, .inl (fun _ => v)) ∧ ∀ j, j ≠ a → M' j = M j) := by
  refine xMet.of _ (by decide) rfl (Nat.le_of_ble_eq_true rfl) ?_
  refine x_iconst (v := 0) (q := 1) dJ7_fill_53178_0 rfl (by decide) ?_
  refine x_istore_n (L' := fun x2_1 => [(2, .int x2_1), (0, .ref a), (1, .int v)]) (q := 2) dJ7_fill_53178_1 rfl (by decide) (fun _ => rfl) (fun x2_1 ex2_1 => ?_)
  refine x_aload_n (q := 3) dJ7_fill_53178_2 rfl rfl ?_
  refine x_alenI (q := 4) h0 hn rfl dJ7_fill_53178_3 rfl ?_
  refine x_istore_n (L' := fun x3_4 => [(3, .int x3_4), (2, .int x2_1), (0, .ref a), (1, .int v)]) (q := 5) dJ7_fill_53178_4 rfl (by decide) (fun _ => rfl) (fun x3_4 ex3_4 => ?_)
  rw [ex2_1, ex3_4]
  refine x_loc (L' := [(2, .int (nI 0)), (0, .ref a), (1, .int v), (3, .int (nI z))]) (fun x hx => by simp only [List.mem_cons] at hx ⊢; rcases hx with h | h | h | h | h <;> simp_all [nI]) ?_
  exact l_fillI hn hz (fun M' h1 h2 => ⟨rfl, h1, h2⟩) z 0 M h (by omega) h0 (fun j hj => absurd hj (by omega)) (fun j _ => rfl)

set_option maxHeartbeats 4000000 in
set_option maxRecDepth 100000 in
theorem l_fillJ {n : Nat} {a z : Nat} (hn : a < n) (hz : z < 2 ^ 31) {v : Int64} {Q : Option Value → (Nat → xE) → Prop} {M0 : Nat → xE} (hQ : ∀ M' : Nat → xE, M' a = .inl (1, z, .inr (.inl (fun _ => v))) → (∀ j, j ≠ a → M' j = M0 j) → Q none M') : ∀ (k i : Nat) (M : Nat → xE) (h : Nat → Int64), i + k = z → M a = .inl (1, z, .inr (.inl h)) → (∀ j, j < i → h j = v) → (∀ j, j ≠ a → M j = M0 j) → X mJ7_fill_d0a16 0 0 6 [(3, .int (nI i)), (0, .ref a), (1, .long v), (4, .int (nI z))] [] n M Q := by
  intro k
  induction k with
  | zero =>
    intro i M h hi h0 hv hm
    refine x_iload_n (q := 7) dJ7_fill_d0a16_6 rfl rfl ?_
    refine x_iload (q := 9) dJ7_fill_d0a16_7 rfl rfl ?_
    refine x_icmp_ge (t := 22) (q := 12) dJ7_fill_d0a16_9 (by decide) rfl (fun c9 => ?_) (fun c9 => absurd (by rw [show i = z by omega]; exact nI_le (Nat.le_refl z) hz) c9)
    refine x_fixJ (f' := fun _ => v) h0 hn (fun j hj => hv j (by omega)) (fun M9 w9 o9 => ?_)
    refine x_vret dJ7_fill_d0a16_22 rfl rfl (Nat.le_refl _) ?_
    exact hQ M9 w9 (fun j hj => (o9 j hj).trans (hm j hj))
  | succ k ih =>
    intro i M h hi h0 hv hm
    refine x_iload_n (q := 7) dJ7_fill_d0a16_6 rfl rfl ?_
    refine x_iload (q := 9) dJ7_fill_d0a16_7 rfl rfl ?_
    refine x_icmp_ge (t := 22) (q := 12) dJ7_fill_d0a16_9 (by decide) rfl (fun c9 => absurd c9 (nI_ge (by omega) hz)) (fun c9 => ?_)
    refine x_aload_n (q := 13) dJ7_fill_d0a16_12 rfl rfl ?_
    refine x_iload_n (q := 14) dJ7_fill_d0a16_13 rfl rfl ?_
    refine x_lload_n (q := 15) dJ7_fill_d0a16_14 rfl rfl ?_
    refine x_last (q := 16) h0 hn (vp_in_nI (by omega) hz) dJ7_fill_d0a16_15 rfl (fun M15 w15 o15 => ?_)
    refine x_iinc (L' := fun x3_16 => [(3, .int x3_16), (0, .ref a), (1, .long v), (4, .int (nI z))]) (q := 19) dJ7_fill_d0a16_16 rfl rfl (by decide) (fun _ => rfl) (fun x3_16 ex3_16 => ?_)
    refine x_goto (q := 6) dJ7_fill_d0a16_19 (by decide) ?_
    rw [ex3_16, show nI i + Int32.ofInt 1 = nI (i + 1) from nI_1 i]
    rw [nI_clamp (by omega)] at w15
    exact ih (i + 1) M15 _ (by omega) w15 (fun j hj => by unfold vp_updL; by_cases h5 : j = i <;> simp_all <;> exact hv j (by omega)) (fun j hj => (o15 j hj).trans (hm j hj))
set_option maxHeartbeats 4000000 in
set_option maxRecDepth 100000 in
theorem c_fillJ {n : Nat} {M : Nat → xE} {a z : Nat} {v : Int64} {h : Nat → Int64} (hn : a < n) (hz : z < 2 ^ 31) (h0 : M a = .inl (1, z, .inr (.inl h))) : xMet mJ7_fill_d0a16 [.ref a, .long v] n M (fun r M' => none = r ∧ M' a = .inl (1, z, .inr (.inl (fun _ => v))) ∧ ∀ j, j ≠ a → M' j = M j) := by
  refine xMet.of _ (by decide) rfl (Nat.le_of_ble_eq_true rfl) ?_
  refine x_iconst (v := 0) (q := 1) dJ7_fill_d0a16_0 rfl (by decide) ?_
  refine x_istore_n (L' := fun x3_1 => [(3, .int x3_1), (0, .ref a), (1, .long v)]) (q := 2) dJ7_fill_d0a16_1 rfl (by decide) (fun _ => rfl) (fun x3_1 ex3_1 => ?_)
  refine x_aload_n (q := 3) dJ7_fill_d0a16_2 rfl rfl ?_
  refine x_alenJ (q := 4) h0 hn rfl dJ7_fill_d0a16_3 rfl ?_
  refine x_istore (L' := fun x4_4 => [(4, .int x4_4), (3, .int x3_1), (0, .ref a), (1, .long v)]) (q := 6) dJ7_fill_d0a16_4 rfl (by decide) (fun _ => rfl) (fun x4_4 ex4_4 => ?_)
  rw [ex3_1, ex4_4]
  refine x_loc (L' := [(3, .int (nI 0)), (0, .ref a), (1, .long v), (4, .int (nI z))]) (fun x hx => by simp only [List.mem_cons] at hx ⊢; rcases hx with h | h | h | h | h <;> simp_all [nI]) ?_
  exact l_fillJ hn hz (fun M' h1 h2 => ⟨rfl, h1, h2⟩) z 0 M h (by omega) h0 (fun j hj => absurd hj (by omega)) (fun j _ => rfl)

