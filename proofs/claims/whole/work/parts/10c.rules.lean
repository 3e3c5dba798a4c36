section XR3
variable {f : xM} {k0 s0 pc q n : Nat} {L : List (Nat × Value)} {S : List Value} {M : Nat → xE} {Q : Option Value → (Nat → xE) → Prop}
theorem xWi {g : xG} {a ci : Nat} {fs : List Value} (ha : a < n) (hM : M a = .inr (ci, fs)) : (xW g n M)[a]? = some (g.1 + a, .inr (ci, fs.map (xv g))) := by
  rw [xW_at g n M ha, hM]
  rfl
theorem xWa {g : xG} {a t : Nat} {x : vp_A} (ha : a < n) (hM : M a = .inl (t, x)) : (xW g n M)[a]? = some (g.1 + a, .inl (g.2.2.1 t, xcA g x)) := by
  rw [xW_at g n M ha, hM]
  rfl
theorem x_getf {C : String} {T : u_T} {N ci index k a : Nat} {fs : List Value} {v : Value} (hM : M a = .inr (ci, fs)) (ha : a < n) (hc : vwCl[ci]? = some (C, T, N)) (hin : ∀ w ∈ u_ws C T N, w ∈ f.2.2.2.2.1) (hk : k < N) (hw : Cond.fieldLink f.1.cls index (T k).1 (T k).2.1 (T k).2.2.1 ∈ f.2.2.2.2.1) (hv : fs[k]? = some v) (hd : decode f.2.1 pc = .ok (.getfield index, 3)) (hq : pc + 3 = q)
    (kk : X f k0 s0 q L (v :: S) n M Q) : X f k0 s0 pc L (.ref a :: S) n M Q := by
  subst hq
  exact fun g p l e s m args below meth c H locs ls C hk' hP hS hl => va_get C.1 C.2.1 C.2.2.2.2.2.2.2.1 hin C.2.2.2.2.2.1 C.2.2.2.2.2.2.2.2.1 hP a (xWi ha hM) hc k hk (C.2.2.2.2.2.2.2.1 _ hw) (fun _ h => h) (by rw [List.getElem?_map, hv]; rfl) hd (kk g p l e s m args below meth c H locs ls C hk' hP hS hl)
/-- what a put leaves: the cell, and all others -/
theorem x_put {C : String} {T : u_T} {N ci index k a : Nat} {fs : List Value} {v : Value} {ty0 : Nat → FieldType} {ty : FieldType} (hty : ∀ k, k < N → parseFieldDescriptor (T k).2.2.1 = some (ty0 k)) (hnm : ∀ a, a < N → ∀ b, b < N → a ≠ b → (T a).2.1 ≠ (T b).2.1) (hM : M a = .inr (ci, fs)) (ha : a < n) (hc : vwCl[ci]? = some (C, T, N)) (hin : ∀ w ∈ u_ws C T N, w ∈ f.2.2.2.2.1) (hk : k < N) (hw : Cond.fieldLink f.1.cls index (T k).1 (T k).2.1 (T k).2.2.1 ∈ f.2.2.2.2.1) (hfin : (T k).2.2.2 = false) (hpd : parseFieldDescriptor (T k).2.2.1 = some ty) (hn : ∀ g, narrow ty (xv g v) = xv g v) (hfit : ∀ g, fits ty (xv g v) = true) (hlen : k < fs.length) (hd : decode f.2.1 pc = .ok (.putfield index, 3)) (hq : pc + 3 = q)
    (kk : ∀ M' : Nat → xE, M' a = .inr (ci, fs.set k v) → (∀ j, j ≠ a → M' j = M j) → X f k0 s0 q L S n M' Q) : X f k0 s0 pc L (v :: .ref a :: S) n M Q := by
  subst hq
  exact fun g p l e s m args below meth c H locs ls C hk' hP hS hl => va_put C.1 C.2.1 C.2.2.2.2.2.2.2.1 hin ty0 hty hnm C.2.2.2.2.2.1 C.2.2.2.2.2.2.2.2.1 hP (xW_D g n M) hS a (xWi ha hM) hc k hk (C.2.2.2.2.2.2.2.1 _ hw) (fun _ h => h) hfin hpd (hn g) (hfit g) (by rw [List.length_map]; exact hlen) hd
    (fun H1 locs1 hP1 _ hS1 => kk (xup M a (.inr (ci, fs.set k v))) (xup_s _ _ _) (fun j h => xup_n _ _ _ _ h) g p l e s m args below meth c H1 locs1 ls C hk' (by
      rw [← xW_set g n M ha]
      show va_P _ _ ((xW g n M).set a (g.1 + a, .inr (ci, (fs.set k v).map (xv g)))) H1
      rw [List.map_set]
      exact hP1) hS1 hl)
theorem x_putF {C : String} {T : u_T} {N ci index k a : Nat} {fs : List Value} {v : Value} {ty0 : Nat → FieldType} {ty : FieldType} (hty : ∀ k, k < N → parseFieldDescriptor (T k).2.2.1 = some (ty0 k)) (hnm : ∀ a, a < N → ∀ b, b < N → a ≠ b → (T a).2.1 ≠ (T b).2.1) (hM : M a = .inr (ci, fs)) (ha : a < n) (hc : vwCl[ci]? = some (C, T, N)) (hin : ∀ w ∈ u_ws C T N, w ∈ f.2.2.2.2.1) (hk : k < N) (hw : Cond.fieldLink f.1.cls index (T k).1 (T k).2.1 (T k).2.2.1 ∈ f.2.2.2.2.1) (hfin : (T k).2.2.2 = true) (hini : f.1.name = "<init>") (hdecl : (T k).1 = f.1.cls) (hpd : parseFieldDescriptor (T k).2.2.1 = some ty) (hn : ∀ g, narrow ty (xv g v) = xv g v) (hfit : ∀ g, fits ty (xv g v) = true) (hlen : k < fs.length) (hd : decode f.2.1 pc = .ok (.putfield index, 3)) (hq : pc + 3 = q)
    (kk : ∀ M' : Nat → xE, M' a = .inr (ci, fs.set k v) → (∀ j, j ≠ a → M' j = M j) → X f k0 s0 q L S n M' Q) : X f k0 s0 pc L (v :: .ref a :: S) n M Q := by
  subst hq
  exact fun g p l e s m args below meth c H locs ls C hk' hP hS hl => va_putF C.1 C.2.1 C.2.2.2.2.2.2.2.1 hin ty0 hty hnm C.2.2.2.2.2.1 C.2.2.2.2.2.2.2.2.1 hP (xW_D g n M) hS a (xWi ha hM) hc k hk (C.2.2.2.2.2.2.2.1 _ hw) (fun _ h => h) hfin (C.2.2.2.2.2.2.1.trans hini) hdecl hpd (hn g) (hfit g) (by rw [List.length_map]; exact hlen) hd
    (fun H1 locs1 hP1 _ hS1 => kk (xup M a (.inr (ci, fs.set k v))) (xup_s _ _ _) (fun j h => xup_n _ _ _ _ h) g p l e s m args below meth c H1 locs1 ls C hk' (by
      rw [← xW_set g n M ha]
      show va_P _ _ ((xW g n M).set a (g.1 + a, .inr (ci, (fs.set k v).map (xv g)))) H1
      rw [List.map_set]
      exact hP1) hS1 hl)
theorem x_iald {a z : Nat} {h : Nat → Int32} {i : Int32} (hM : M a = .inl (0, z, .inl h)) (ha : a < n) (hi : vp_in i z) (hd : decode f.2.1 pc = .ok (.iaload, 1)) (hq : pc + 1 = q) (kk : X f k0 s0 q L (.int (h i.toNatClampNeg) :: S) n M Q) : X f k0 s0 pc L (.int i :: .ref a :: S) n M Q := by
  subst hq
  exact fun g p l e s m args below meth c H locs ls C hk hP hS hl => va_iald C.1 C.2.1 C.2.2.2.2.2.2.2.2.1 hP a 0 (xWa ha hM) rfl hi hd (kk g p l e s m args below meth c H locs ls C hk hP hS hl)
theorem x_zald {a z : Nat} {h : Nat → Int32} {i : Int32} (hM : M a = .inl (2, z, .inl h)) (ha : a < n) (hi : vp_in i z) (hd : decode f.2.1 pc = .ok (.baload, 1)) (hq : pc + 1 = q) (kk : X f k0 s0 q L (.int (h i.toNatClampNeg) :: S) n M Q) : X f k0 s0 pc L (.int i :: .ref a :: S) n M Q := by
  subst hq
  exact fun g p l e s m args below meth c H locs ls C hk hP hS hl => va_zald C.1 C.2.1 C.2.2.2.2.2.2.2.2.1 hP a 2 (xWa ha hM) rfl hi hd (kk g p l e s m args below meth c H locs ls C hk hP hS hl)
theorem x_lald {a z : Nat} {h : Nat → Int64} {i : Int32} (hM : M a = .inl (1, z, .inr (.inl h))) (ha : a < n) (hi : vp_in i z) (hd : decode f.2.1 pc = .ok (.laload, 1)) (hq : pc + 1 = q) (kk : X f k0 s0 q L (.long (h i.toNatClampNeg) :: S) n M Q) : X f k0 s0 pc L (.int i :: .ref a :: S) n M Q := by
  subst hq
  exact fun g p l e s m args below meth c H locs ls C hk hP hS hl => va_lald C.1 C.2.1 C.2.2.2.2.2.2.2.2.1 hP a 1 (xWa ha hM) rfl hi hd (kk g p l e s m args below meth c H locs ls C hk hP hS hl)
theorem x_aald {a z k : Nat} {h : Nat → Option Nat} {i : Int32} (hM : M a = .inl (3, z, .inr (.inr (.inr (.inr h))))) (ha : a < n) (hi : vp_in i z) (hk : h i.toNatClampNeg = some k) (hd : decode f.2.1 pc = .ok (.aaload, 1)) (hq : pc + 1 = q) (kk : X f k0 s0 q L (.ref k :: S) n M Q) : X f k0 s0 pc L (.int i :: .ref a :: S) n M Q := by
  subst hq
  exact fun g p l e s m args below meth c H locs ls C hk' hP hS hl => va_aldq C.1 C.2.1 C.2.2.2.2.2.2.2.2.1 hP a 3 (xWa ha hM) rfl hi hd (by
    show W _ _ _ _ _ _ _ _ _ _ _ _ _ _ _ (F0 m (pc + 1) ls (va_rf ((h i.toNatClampNeg).map (fun k => g.1 + k)) :: S.map (xv g)))
    rw [hk]
    exact kk g p l e s m args below meth c H locs ls C hk' hP hS hl)
theorem x_iast {a z : Nat} {h : Nat → Int32} {i x : Int32} (hM : M a = .inl (0, z, .inl h)) (ha : a < n) (hi : vp_in i z) (hd : decode f.2.1 pc = .ok (.iastore, 1)) (hq : pc + 1 = q) (kk : ∀ M' : Nat → xE, M' a = .inl (0, z, .inl (upd h i.toNatClampNeg x)) → (∀ j, j ≠ a → M' j = M j) → X f k0 s0 q L S n M' Q) : X f k0 s0 pc L (.int x :: .int i :: .ref a :: S) n M Q := by
  subst hq
  exact fun g p l e s m args below meth c H locs ls C hk hP hS hl => va_iast C.1 C.2.1 C.2.2.2.2.2.2.2.2.1 hP (xW_D g n M) hS a 0 (xWa ha hM) rfl hi hd (fun H1 locs1 hP1 _ hS1 => kk (xup M a (.inl (0, z, .inl (upd h i.toNatClampNeg x)))) (xup_s _ _ _) (fun j h => xup_n _ _ _ _ h) g p l e s m args below meth c H1 locs1 ls C hk (by rw [← xW_set g n M ha]; exact hP1) hS1 hl)
theorem x_zast {a z : Nat} {h : Nat → Int32} {i x : Int32} (hM : M a = .inl (2, z, .inl h)) (ha : a < n) (hi : vp_in i z) (hd : decode f.2.1 pc = .ok (.bastore, 1)) (hq : pc + 1 = q) (kk : ∀ M' : Nat → xE, M' a = .inl (2, z, .inl (upd h i.toNatClampNeg (vp_nar .boolean x))) → (∀ j, j ≠ a → M' j = M j) → X f k0 s0 q L S n M' Q) : X f k0 s0 pc L (.int x :: .int i :: .ref a :: S) n M Q := by
  subst hq
  exact fun g p l e s m args below meth c H locs ls C hk hP hS hl => va_zast C.1 C.2.1 C.2.2.2.2.2.2.2.2.1 hP (xW_D g n M) hS a 2 (xWa ha hM) rfl hi hd (fun H1 locs1 hP1 _ hS1 => kk (xup M a (.inl (2, z, .inl (upd h i.toNatClampNeg (vp_nar .boolean x))))) (xup_s _ _ _) (fun j h => xup_n _ _ _ _ h) g p l e s m args below meth c H1 locs1 ls C hk (by rw [← xW_set g n M ha]; exact hP1) hS1 hl)
theorem x_last {a z : Nat} {h : Nat → Int64} {i : Int32} {x : Int64} (hM : M a = .inl (1, z, .inr (.inl h))) (ha : a < n) (hi : vp_in i z) (hd : decode f.2.1 pc = .ok (.lastore, 1)) (hq : pc + 1 = q) (kk : ∀ M' : Nat → xE, M' a = .inl (1, z, .inr (.inl (vp_updL h i.toNatClampNeg x))) → (∀ j, j ≠ a → M' j = M j) → X f k0 s0 q L S n M' Q) : X f k0 s0 pc L (.long x :: .int i :: .ref a :: S) n M Q := by
  subst hq
  exact fun g p l e s m args below meth c H locs ls C hk hP hS hl => va_last C.1 C.2.1 C.2.2.2.2.2.2.2.2.1 hP (xW_D g n M) hS a 1 (xWa ha hM) rfl hi hd (fun H1 locs1 hP1 _ hS1 => kk (xup M a (.inl (1, z, .inr (.inl (vp_updL h i.toNatClampNeg x))))) (xup_s _ _ _) (fun j h => xup_n _ _ _ _ h) g p l e s m args below meth c H1 locs1 ls C hk (by rw [← xW_set g n M ha]; exact hP1) hS1 hl)
theorem x_aast {a z v : Nat} {fs : List Value} {h : Nat → Option Nat} {i : Int32} (hM : M a = .inl (3, z, .inr (.inr (.inr (.inr h))))) (ha : a < n) (hv : M v = .inr (3, fs)) (hvn : v < n) (hi : vp_in i z) (hd : decode f.2.1 pc = .ok (.aastore, 1)) (hq : pc + 1 = q) (kk : ∀ M' : Nat → xE, M' a = .inl (3, z, .inr (.inr (.inr (.inr (va_up h i.toNatClampNeg (some v)))))) → (∀ j, j ≠ a → M' j = M j) → X f k0 s0 q L S n M' Q) : X f k0 s0 pc L (.ref v :: .int i :: .ref a :: S) n M Q := by
  subst hq
  exact fun g p l e s m args below meth c H locs ls C hk hP hS hl => va_astq (r := (RX3, TX3, 10)) C.1 C.2.1 C.2.2.2.2.2.2.2.2.1 hP (xW_D g n M) hS a 3 v 3 (xWa ha hM) rfl (xWi hvn hv) rfl hi hd (fun H1 locs1 hP1 _ hS1 => kk (xup M a (.inl (3, z, .inr (.inr (.inr (.inr (va_up h i.toNatClampNeg (some v)))))))) (xup_s _ _ _) (fun j h => xup_n _ _ _ _ h) g p l e s m args below meth c H1 locs1 ls C hk (by
    rw [← xW_set g n M ha]
    have e : (fun j => (va_up h i.toNatClampNeg (some v) j).map (fun k => g.1 + k)) = va_up (fun j => (h j).map (fun k => g.1 + k)) i.toNatClampNeg (some (g.1 + v)) := by
      funext j
      unfold va_up
      split <;> rfl
    show va_P _ _ ((xW g n M).set a (g.1 + a, .inl (g.2.2.1 3, (z, .inr (.inr (.inr (.inr (fun j => (va_up h i.toNatClampNeg (some v) j).map (fun k => g.1 + k)))))))) ) H1
    rw [e]
    exact hP1) hS1 hl)
/-- Object's own constructor -/
theorem x_obj {a idx : Nat} (h1 : Cond.methodLink f.1.cls idx objectInit ∈ f.2.2.2.2.1) (h2 : Cond.instanceMethod objectInit ∈ f.2.2.2.2.1) (h3 : Cond.code objectInit ⟨#[0xb1]⟩ 1 none ∈ f.2.2.2.2.1) (hd : decode f.2.1 pc = .ok (.invokespecial idx, 3)) (hq : pc + 3 = q) (hfr : 1 ≤ f.2.2.2.2.2.frames) (hlo : (S.map fun v => v.category).sum + 12 ≤ f.2.2.2.2.2.locals) (kk : X f k0 s0 q L S n M Q) : X f k0 s0 pc L (.ref a :: S) n M Q := by
  subst hq
  exact fun g p l e s m args below meth c H locs ls C hk hP hS hl => W.objInit C.1 C.2.1 C.2.2.2.2.2.1 (C.2.2.2.2.2.2.2.1 _ h1) (C.2.2.2.2.2.2.2.1 _ h2) (C.2.2.2.2.2.2.2.1 _ h3) rfl (by rw [C.2.2.1]; exact hl.1) rfl hd hfr (by
    have e : ((S.map (xv g)).map fun v => v.category) = S.map fun v => v.category := by
      rw [List.map_map]
      exact List.map_congr_left (fun v _ => xv_cat g v)
    show 2 * 0 + _ + 12 ≤ _
    rw [e]
    omega) (W.eq (g2 := F0 m (pc + 3) ls (S.map (xv g))) rfl (kk g p l e s m args below meth c H locs ls C hk hP hS hl))
end XR3
