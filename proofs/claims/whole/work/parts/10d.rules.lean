section XR4
variable {f : xM} {k0 s0 pc q n : Nat} {L : List (Nat × Value)} {S : List Value} {M : Nat → xE} {Q : Option Value → (Nat → xE) → Prop}
theorem xcats (g : xG) (S : List Value) : ((S.map (xv g)).map fun v => v.category) = S.map fun v => v.category := by
  rw [List.map_map]
  exact List.map_congr_left (fun v _ => xv_cat g v)
/-- an edge of calls: f's entry 'index' is the method h -/
def xEdge (f h : xM) (index na : Nat) : Prop :=
  (h.1.cls ≠ "java/lang/invoke/MethodHandle" ∧ h.1.cls ≠ "java/lang/invoke/VarHandle" ∧ (parseMethodDescriptor h.1.desc).map (fun d => d.parameters.length) = some na) ∧ (h.2.2.2.2.2.frames + 1 ≤ f.2.2.2.2.2.frames ∧ 8 + (h.2.2.1 + 11) + h.2.2.2.2.2.locals ≤ f.2.2.2.2.2.locals) ∧ ∃ ws', h.2.2.2.2.1 = Cond.code h.1 h.2.1 h.2.2.1 h.2.2.2.1 :: ws'
/-- behind a call -/
theorem x_after {g : xG} {p : Program} {l : Launch} {e : Env} {R : Room} {s : State} {m : MethodId} {args : Array Value} {below : List Frame} {meth : Method} {c : Code} {H : Heap} {locs : List Loc} {cells slots mc ms : Nat} {Qz : State → Prop} {ls : Array Slot} {st0 rest : List Value} {a : Array Value} {Q1 : Option Value → (Nat → xE) → Prop}
    (hr : va_Run p l e R s m args below meth c H locs cells slots mc ms (F0 m pc ls st0) rest (xQ g mc Q1 a) (xA g)) (hS : va_S (xA g) s.heap H locs) (hH : H.size = g.1 + n)
    (kk : ∀ (r : Option Value) (M' : Nat → xE) (H1 : Heap) (locs1 : List Loc), Q1 r M' → va_P g.2.2.2 vwCl (xW g (n + mc) M') H1 → va_S (xA g) s.heap H1 locs1 → W p l e R s m args below meth c H1 locs1 (cells + mc) (slots + ms) Qz (F0 m (pc + 3) ls ((r.map (xv g)).toList ++ rest))) : W p l e R s m args below meth c H locs cells slots Qz (F0 m pc ls st0) := by
  intro T hT Z
  obtain ⟨v, st₀, t, T', Lc, h0, X', hL, e1, e2, ⟨⟨r, M', hv, hQ, hP1⟩, hz, hk⟩, st⟩ := hr T hT Z
  cases hv
  rw [h0] at hz hk hP1
  rw [hH, Nat.add_sub_cancel_left] at hP1
  obtain ⟨t2, a1, b1⟩ := kk r M' T'.heap (locs ++ Lc) hQ (by rw [e1]; exact hP1)
    ⟨Nat.le_trans hS.1 (by rw [e1]; exact hz), fun q h1 h2 => by rw [e1, hk q (Nat.lt_of_lt_of_le h1 hS.1) h2]; exact hS.2.1 q h1 h2, fun q hq => by
      rcases List.mem_append.mp hq with h | h
      · exact hS.2.2 q h
      · exact hL q h⟩ T' rfl X'
  exact ⟨t2, st t2 a1, b1⟩
theorem xPre {g : xG} {h : xM} {as : List Value} {Q1 : Option Value → (Nat → xE) → Prop} {l : Launch} : FrameBlind (va_Pc (as.map (xv g)) (fun U => U.heap.size = g.1 + n ∧ va_P g.2.2.2 vwCl (xW g n M) U.heap ∧ va_K g.2.2.2 vwCl (xtys g.2.2.1) U ∧ xX g U)) := by
  intro a U G mk hq
  obtain ⟨q0, q1, qP, qK, qX⟩ := hq
  exact ⟨q0, q1, qP, va_K.moved (u := U) (U := U.calling G mk a) (Vm.Alike.refl U.vm) qK, qX.blind G mk a⟩
theorem xPost {g : xG} {p : Program} {s : State} {m : MethodId} {args : Array Value} {meth : Method} {c : Code} {H : Heap} {locs : List Loc} {as : List Value} (C : xCtx f g p s m args meth c) (hH : H.size = g.1 + n) (hP : va_P g.2.2.2 vwCl (xW g n M) H) (hS : va_S (xA g) s.heap H locs) :
    ∀ U : State, U.heap = H → s.WarmedH U.vm → va_Pc (as.map (xv g)) (fun U => U.heap.size = g.1 + n ∧ va_P g.2.2.2 vwCl (xW g n M) U.heap ∧ va_K g.2.2.2 vwCl (xtys g.2.2.1) U ∧ xX g U) (as.map (xv g)).toArray U :=
  fun U hU hW => ⟨rfl, by rw [hU]; exact hH, by rw [hU]; exact hP, va_K.moved hW.alike C.2.2.2.2.2.2.2.2.1, C.2.2.2.2.2.2.2.2.2.1.warm hW C.2.2.2.2.2.2.2.2.2.2 (by rw [hU]; exact hS)⟩
theorem x_callV {h : xM} {index na b ci : Nat} {As rest fs : List Value} {rC : vw_C} {Q1 : Option Value → (Nat → xE) → Prop} (hM1 : xMet h (.ref b :: As) n M Q1) (hE : xEdge f h index na) (hG : GoodIn f.2.2.2.2.1 (wsV f.1.cls index h.1.cls h.1 h.2.2.2.2.1)) (hb : M b = .inr (ci, fs)) (hbn : b < n) (hc : vwCl[ci]? = some rC) (hrC : rC.1 = h.1.cls) (hAs : As.length = na) (hst : (rest.map fun v => v.category).sum ≤ 8) (hcs : k0 + h.2.2.2.2.2.cells ≤ f.2.2.2.2.2.cells ∧ s0 + h.2.2.2.2.2.slots ≤ f.2.2.2.2.2.slots) (hd : decode f.2.1 pc = .ok (.invokevirtual index, 3)) (hq : pc + 3 = q) (hSt : S = As.reverse ++ .ref b :: rest)
    (kk : ∀ r M', Q1 r M' → X f (k0 + h.2.2.2.2.2.cells) (s0 + h.2.2.2.2.2.slots) q L (r.toList ++ rest) (n + h.2.2.2.2.2.cells) M' Q) : X f k0 s0 pc L S n M Q := by
  subst hq
  subst hSt
  intro g p l e s m args below meth c H locs ls C hk hP hS hl
  obtain ⟨hE1, hE2, ws', hE3⟩ := hE
  refine xsize C.2.2.2.2.2.2.2.2.2.2 hk hP hS fun hH => ?_
  have hr := va_runV (locs := locs) (below := below) (meth := meth) (e := e) (cells := k0) (slots := s0) (g := F0 m pc ls ((As.reverse ++ .ref b :: rest).map (xv g))) (As := As.map (xv g)) (rest := rest.map (xv g)) (b := g.1 + b) (H := H) ⟨C.1, C.2.1, C.2.2.1, C.2.2.2.2.2.1, C.2.2.2.2.2.2.2.1⟩ (hM1 l g) (cwV na C.2.2.2.2.2.2.2.1 hG hE3 rfl rfl ⟨rfl, hE1⟩ hE2) ⟨xPre (h := h) (Q1 := Q1) (l := l), by rw [← hrC]; exact va_recv C.2.2.2.2.2.2.2.2.1 hP hc (xWi hbn hb), xPost C hH hP hS⟩ rfl (by rw [List.length_map]; exact hAs) hl.1 (by simp [xv]) (by rw [xcats]; exact lv_room hst) hd hcs
  refine x_after hr hS hH fun r M' H1 locs1 hQ1 hP1 hS1 => ?_
  have h9 := kk r M' hQ1 g p l e s m args below meth c H1 locs1 ls C (by omega) hP1 hS1 hl
  have e9 : (r.toList ++ rest).map (xv g) = (r.map (xv g)).toList ++ rest.map (xv g) := by
    rw [List.map_append]
    cases r <;> rfl
  rw [e9] at h9
  exact h9
theorem x_callI {h : xM} {index na b : Nat} {As rest : List Value} {Q1 : Option Value → (Nat → xE) → Prop} (hM1 : xMet h (.ref b :: As) n M Q1) (hE : xEdge f h index na) (hret : h.2.2.2.1 = none) (hG : GoodIn f.2.2.2.2.1 h.2.2.2.2.1) (hini : Cond.initialized h.1.cls ∈ f.2.2.2.2.1) (hlk : Cond.methodLink f.1.cls index h.1 ∈ f.2.2.2.2.1) (hinst : Cond.instanceMethod h.1 ∈ f.2.2.2.2.1) (hy : h.1.name = "<init>") (hAs : As.length = na) (hst : (rest.map fun v => v.category).sum ≤ 8) (hcs : k0 + h.2.2.2.2.2.cells ≤ f.2.2.2.2.2.cells ∧ s0 + h.2.2.2.2.2.slots ≤ f.2.2.2.2.2.slots) (hd : decode f.2.1 pc = .ok (.invokespecial index, 3)) (hq : pc + 3 = q) (hSt : S = As.reverse ++ .ref b :: rest)
    (kk : ∀ r M', Q1 r M' → X f (k0 + h.2.2.2.2.2.cells) (s0 + h.2.2.2.2.2.slots) q L (r.toList ++ rest) (n + h.2.2.2.2.2.cells) M' Q) : X f k0 s0 pc L S n M Q := by
  subst hq
  subst hSt
  intro g p l e s m args below meth c H locs ls C hk hP hS hl
  obtain ⟨hE1, hE2, ws', hE3⟩ := hE
  rw [hret] at hE3
  refine xsize C.2.2.2.2.2.2.2.2.2.2 hk hP hS fun hH => ?_
  have hts := C.2.2.2.2.2.2.2.1
  have hr := va_runI (locs := locs) (below := below) (meth := meth) (e := e) (cells := k0) (slots := s0) (g := F0 m pc ls ((As.reverse ++ .ref b :: rest).map (xv g))) (As := As.map (xv g)) (rest := rest.map (xv g)) (b := g.1 + b) (H := H) ⟨C.1, C.2.1, C.2.2.1, C.2.2.2.2.2.1, C.2.2.2.2.2.2.2.1⟩ (hM1 l g) (cwI na hts hG hE3 rfl rfl (hts _ hini) (hts _ hlk) (hts _ hinst) hy hE1 hE2) ⟨xPre (h := h) (Q1 := Q1) (l := l), xPost C hH hP hS⟩ rfl (by rw [List.length_map]; exact hAs) hl.1 (by simp [xv]) (by rw [xcats]; exact lv_room hst) hd hcs
  refine x_after hr hS hH fun r M' H1 locs1 hQ1 hP1 hS1 => ?_
  have h9 := kk r M' hQ1 g p l e s m args below meth c H1 locs1 ls C (by omega) hP1 hS1 hl
  have e9 : (r.toList ++ rest).map (xv g) = (r.map (xv g)).toList ++ rest.map (xv g) := by
    rw [List.map_append]
    cases r <;> rfl
  rw [e9] at h9
  exact h9
theorem x_callS {h : xM} {index na : Nat} {As rest : List Value} {Q1 : Option Value → (Nat → xE) → Prop} (hM1 : xMet h As n M Q1) (hE : xEdge f h index na) (hG : GoodIn f.2.2.2.2.1 (va_wsS f.1.cls index h.1 h.2.2.2.2.1)) (hAs : As.length = na) (hst : (rest.map fun v => v.category).sum ≤ 8) (hcs : k0 + h.2.2.2.2.2.cells ≤ f.2.2.2.2.2.cells ∧ s0 + h.2.2.2.2.2.slots ≤ f.2.2.2.2.2.slots) (hd : decode f.2.1 pc = .ok (.invokestatic index, 3)) (hq : pc + 3 = q) (hSt : S = As.reverse ++ rest)
    (kk : ∀ r M', Q1 r M' → X f (k0 + h.2.2.2.2.2.cells) (s0 + h.2.2.2.2.2.slots) q L (r.toList ++ rest) (n + h.2.2.2.2.2.cells) M' Q) : X f k0 s0 pc L S n M Q := by
  subst hq
  subst hSt
  intro g p l e s m args below meth c H locs ls C hk hP hS hl
  obtain ⟨hE1, hE2, ws', hE3⟩ := hE
  refine xsize C.2.2.2.2.2.2.2.2.2.2 hk hP hS fun hH => ?_
  have hts := C.2.2.2.2.2.2.2.1
  have hr := va_runS (locs := locs) (below := below) (meth := meth) (e := e) (cells := k0) (slots := s0) (g := F0 m pc ls ((As.reverse ++ rest).map (xv g))) (As := As.map (xv g)) (rest := rest.map (xv g)) (H := H) ⟨C.1, C.2.1, C.2.2.1, C.2.2.2.2.2.1, C.2.2.2.2.2.2.2.1⟩ (hM1 l g) (va_cwS na hts hG hE3 rfl rfl hE1 hE2) ⟨xPre (h := h) (Q1 := Q1) (l := l), xPost C hH hP hS⟩ rfl (by rw [List.length_map]; exact hAs) hl.1 (by simp) (by rw [xcats]; exact lv_room hst) hd hcs
  refine x_after hr hS hH fun r M' H1 locs1 hQ1 hP1 hS1 => ?_
  have h9 := kk r M' hQ1 g p l e s m args below meth c H1 locs1 ls C (by omega) hP1 hS1 hl
  have e9 : (r.toList ++ rest).map (xv g) = (r.map (xv g)).toList ++ rest.map (xv g) := by
    rw [List.map_append]
    cases r <;> rfl
  rw [e9] at h9
  exact h9
theorem x_callSN {h : xM} {index na : Nat} {As rest : List Value} {Q1 : Option Value → (Nat → xE) → Prop} (hM1 : xMet h As n M Q1) (hE : xEdge f h index na) (hG : GoodIn f.2.2.2.2.1 h.2.2.2.2.1) (hN : (f.1.cls, index, h.1) ∈ xNest) (hini : Cond.initialized h.1.cls ∈ f.2.2.2.2.1) (hstat : Cond.static h.1 ∈ f.2.2.2.2.1) (hAs : As.length = na) (hst : (rest.map fun v => v.category).sum ≤ 8) (hcs : k0 + h.2.2.2.2.2.cells ≤ f.2.2.2.2.2.cells ∧ s0 + h.2.2.2.2.2.slots ≤ f.2.2.2.2.2.slots) (hd : decode f.2.1 pc = .ok (.invokestatic index, 3)) (hq : pc + 3 = q) (hSt : S = As.reverse ++ rest)
    (kk : ∀ r M', Q1 r M' → X f (k0 + h.2.2.2.2.2.cells) (s0 + h.2.2.2.2.2.slots) q L (r.toList ++ rest) (n + h.2.2.2.2.2.cells) M' Q) : X f k0 s0 pc L S n M Q := by
  subst hq
  subst hSt
  intro g p l e s m args below meth c H locs ls C hk hP hS hl
  obtain ⟨hE1, hE2, ws', hE3⟩ := hE
  refine xsize C.2.2.2.2.2.2.2.2.2.2 hk hP hS fun hH => ?_
  have hts := C.2.2.2.2.2.2.2.1
  have hX := C.2.2.2.2.2.2.2.2.2.1
  have hr := va_runSN (locs := locs) (below := below) (meth := meth) (e := e) (cells := k0) (slots := s0) (g := F0 m pc ls ((As.reverse ++ rest).map (xv g))) (As := As.map (xv g)) (rest := rest.map (xv g)) (H := H) ⟨C.1, C.2.1, C.2.2.1, C.2.2.2.2.2.1, C.2.2.2.2.2.2.2.1⟩ (hM1 l g) ⟨va_cnB na hts hG hE3 rfl rfl (hX.2.2.2.2.2.2.1 _ hN) (hts _ hini) hE1 hE2, hts _ hstat, trivial⟩ ⟨xPre (h := h) (Q1 := Q1) (l := l), xPost C hH hP hS⟩ rfl (by rw [List.length_map]; exact hAs) hl.1 (by simp) (by rw [xcats]; exact lv_room hst) hd hcs
  refine x_after hr hS hH fun r M' H1 locs1 hQ1 hP1 hS1 => ?_
  have h9 := kk r M' hQ1 g p l e s m args below meth c H1 locs1 ls C (by omega) hP1 hS1 hl
  have e9 : (r.toList ++ rest).map (xv g) = (r.map (xv g)).toList ++ rest.map (xv g) := by
    rw [List.map_append]
    cases r <;> rfl
  rw [e9] at h9
  exact h9
/-- Math.max, Math.min -/
theorem x_mmax {x y : Int32} {index : Nat} (h1 : Cond.methodLink f.1.cls index Lib.Math.max.name ∈ f.2.2.2.2.1) (h2 : Cond.static Lib.Math.max.name ∈ f.2.2.2.2.1) (h3 : Cond.initialized "java/lang/Math" ∈ f.2.2.2.2.1) (h4 : Cond.code Lib.Math.max.name Lib.Math.max.code 2 (some .int) ∈ f.2.2.2.2.1) (hfr : 1 ≤ f.2.2.2.2.2.frames) (hlo : (S.map fun v => v.category).sum + 13 ≤ f.2.2.2.2.2.locals) (hcs : k0 ≤ f.2.2.2.2.2.cells ∧ s0 ≤ f.2.2.2.2.2.slots) (hd : decode f.2.1 pc = .ok (.invokestatic index, 3)) (hq : pc + 3 = q) (kk : X f k0 s0 q L (.int (if x < y then y else x) :: S) n M Q) : X f k0 s0 pc L (.int y :: .int x :: S) n M Q := by
  subst hq
  exact fun g p l e s m args below meth c H locs ls C hk hP hS hl => va_mmax C.1 C.2.1 (by rw [C.2.2.1]; exact hl.1.symm) C.2.2.2.2.2.1 (C.2.2.2.2.2.2.2.1 _ h1) (C.2.2.2.2.2.2.2.1 _ h2) (C.2.2.2.2.2.2.2.1 _ h3) (C.2.2.2.2.2.2.2.1 _ h4) hfr (by rw [xcats]; exact hlo) hcs.1 hcs.2 hd (kk g p l e s m args below meth c H locs ls C hk hP hS hl)
theorem x_mmin {x y : Int32} {index : Nat} (h1 : Cond.methodLink f.1.cls index Lib.Math.min.name ∈ f.2.2.2.2.1) (h2 : Cond.static Lib.Math.min.name ∈ f.2.2.2.2.1) (h3 : Cond.initialized "java/lang/Math" ∈ f.2.2.2.2.1) (h4 : Cond.code Lib.Math.min.name Lib.Math.min.code 2 (some .int) ∈ f.2.2.2.2.1) (hfr : 1 ≤ f.2.2.2.2.2.frames) (hlo : (S.map fun v => v.category).sum + 13 ≤ f.2.2.2.2.2.locals) (hcs : k0 ≤ f.2.2.2.2.2.cells ∧ s0 ≤ f.2.2.2.2.2.slots) (hd : decode f.2.1 pc = .ok (.invokestatic index, 3)) (hq : pc + 3 = q) (kk : X f k0 s0 q L (.int (if y < x then y else x) :: S) n M Q) : X f k0 s0 pc L (.int y :: .int x :: S) n M Q := by
  subst hq
  exact fun g p l e s m args below meth c H locs ls C hk hP hS hl => va_mmin C.1 C.2.1 (by rw [C.2.2.1]; exact hl.1.symm) C.2.2.2.2.2.1 (C.2.2.2.2.2.2.2.1 _ h1) (C.2.2.2.2.2.2.2.1 _ h2) (C.2.2.2.2.2.2.2.1 _ h3) (C.2.2.2.2.2.2.2.1 _ h4) hfr (by rw [xcats]; exact hlo) hcs.1 hcs.2 hd (kk g p l e s m args below meth c H locs ls C hk hP hS hl)
/-- System.arraycopy of ints, of longs -/
theorem x_copyi {a b za zb index : Nat} {ha hb : Nat → Int32} {sp dp z : Int32} (w1 : Cond.methodLink f.1.cls index arraycopyName ∈ f.2.2.2.2.1) (w2 : Cond.native arraycopyName ∈ f.2.2.2.2.1) (w3 : Cond.static arraycopyName ∈ f.2.2.2.2.1) (w4 : Cond.initialized "java/lang/System" ∈ f.2.2.2.2.1) (hMa : M a = .inl (0, za, .inl ha)) (han : a < n) (hMb : M b = .inl (0, zb, .inl hb)) (hbn : b < n) (h1 : ¬ sp < 0) (h2 : ¬ dp < 0) (h3 : ¬ z < 0) (h4 : sp.toNatClampNeg + z.toNatClampNeg ≤ za) (h5 : dp.toNatClampNeg + z.toNatClampNeg ≤ zb) (hfr : 1 ≤ f.2.2.2.2.2.frames) (hlo : (S.map fun v => v.category).sum + (nativeFrameWords "java/lang/System" "arraycopy" 5 + 11) ≤ f.2.2.2.2.2.locals) (hd : decode f.2.1 pc = .ok (.invokestatic index, 3)) (hq : pc + 3 = q)
    (kk : ∀ M' : Nat → xE, M' b = .inl (0, zb, .inl (va_cpy ha hb sp.toNatClampNeg dp.toNatClampNeg z.toNatClampNeg)) → (∀ j, j ≠ b → M' j = M j) → X f k0 s0 q L S n M' Q) : X f k0 s0 pc L (.int z :: .int dp :: .ref b :: .int sp :: .ref a :: S) n M Q := by
  subst hq
  exact fun g p l e s m args below meth c H locs ls C hk hP hS hl => va_copyi C.1 C.2.1 (by rw [C.2.2.1]; exact hl.1.symm) C.2.2.2.2.2.1 (C.2.2.2.2.2.2.2.1 _ w1) (C.2.2.2.2.2.2.2.1 _ w2) (C.2.2.2.2.2.2.2.1 _ w3) (C.2.2.2.2.2.2.2.1 _ w4) C.2.2.2.2.2.2.2.2.1 hP (xW_D g n M) hS a b 0 0 (xWa han hMa) (xWa hbn hMb) rfl rfl rfl h1 h2 h3 h4 h5 (fun _ _ => rfl) hfr (by rw [xcats]; exact hlo) hd (fun H1 locs1 hP1 _ hS1 => kk (xup M b (.inl (0, zb, .inl (va_cpy ha hb sp.toNatClampNeg dp.toNatClampNeg z.toNatClampNeg)))) (xup_s _ _ _) (fun j h => xup_n _ _ _ _ h) g p l e s m args below meth c H1 locs1 ls C hk (by rw [← xW_set g n M hbn]; exact hP1) hS1 hl)
theorem x_copyl {a b za zb index : Nat} {ha hb : Nat → Int64} {sp dp z : Int32} (w1 : Cond.methodLink f.1.cls index arraycopyName ∈ f.2.2.2.2.1) (w2 : Cond.native arraycopyName ∈ f.2.2.2.2.1) (w3 : Cond.static arraycopyName ∈ f.2.2.2.2.1) (w4 : Cond.initialized "java/lang/System" ∈ f.2.2.2.2.1) (hMa : M a = .inl (1, za, .inr (.inl ha))) (han : a < n) (hMb : M b = .inl (1, zb, .inr (.inl hb))) (hbn : b < n) (h1 : ¬ sp < 0) (h2 : ¬ dp < 0) (h3 : ¬ z < 0) (h4 : sp.toNatClampNeg + z.toNatClampNeg ≤ za) (h5 : dp.toNatClampNeg + z.toNatClampNeg ≤ zb) (hfr : 1 ≤ f.2.2.2.2.2.frames) (hlo : (S.map fun v => v.category).sum + (nativeFrameWords "java/lang/System" "arraycopy" 5 + 11) ≤ f.2.2.2.2.2.locals) (hd : decode f.2.1 pc = .ok (.invokestatic index, 3)) (hq : pc + 3 = q)
    (kk : ∀ M' : Nat → xE, M' b = .inl (1, zb, .inr (.inl (va_cpy ha hb sp.toNatClampNeg dp.toNatClampNeg z.toNatClampNeg))) → (∀ j, j ≠ b → M' j = M j) → X f k0 s0 q L S n M' Q) : X f k0 s0 pc L (.int z :: .int dp :: .ref b :: .int sp :: .ref a :: S) n M Q := by
  subst hq
  exact fun g p l e s m args below meth c H locs ls C hk hP hS hl => va_copyl C.1 C.2.1 (by rw [C.2.2.1]; exact hl.1.symm) C.2.2.2.2.2.1 (C.2.2.2.2.2.2.2.1 _ w1) (C.2.2.2.2.2.2.2.1 _ w2) (C.2.2.2.2.2.2.2.1 _ w3) (C.2.2.2.2.2.2.2.1 _ w4) C.2.2.2.2.2.2.2.2.1 hP (xW_D g n M) hS a b 1 1 (xWa han hMa) (xWa hbn hMb) rfl rfl rfl h1 h2 h3 h4 h5 (fun _ _ => rfl) hfr (by rw [xcats]; exact hlo) hd (fun H1 locs1 hP1 _ hS1 => kk (xup M b (.inl (1, zb, .inr (.inl (va_cpy ha hb sp.toNatClampNeg dp.toNatClampNeg z.toNatClampNeg))))) (xup_s _ _ _) (fun j h => xup_n _ _ _ _ h) g p l e s m args below meth c H1 locs1 ls C hk (by rw [← xW_set g n M hbn]; exact hP1) hS1 hl)
/-- new -/
theorem x_new {C : String} {T : u_T} {N ci index : Nat} {ty : Nat → FieldType} {fs : List Value} (hty : ∀ k, k < N → parseFieldDescriptor (T k).2.2.1 = some (ty k)) (hc : vwCl[ci]? = some (C, T, N)) (hin : ∀ w ∈ u_ws C T N, w ∈ f.2.2.2.2.1) (w1 : Cond.classLink f.1.cls index C ∈ f.2.2.2.2.1) (w2 : Cond.instantiable C N ∈ f.2.2.2.2.1) (w3 : Cond.initialized C ∈ f.2.2.2.2.1) (hfs : ∀ g, ∀ j, j < N → defaultValue (ty j) = vp_V (fs.map (xv g)) j) (hcs : k0 + 1 ≤ f.2.2.2.2.2.cells ∧ s0 + N ≤ f.2.2.2.2.2.slots) (hd : decode f.2.1 pc = .ok (.new index, 3)) (hq : pc + 3 = q)
    (kk : ∀ M' : Nat → xE, M' n = .inr (ci, fs) → (∀ j, j ≠ n → M' j = M j) → X f (k0 + 1) (s0 + N) q L (.ref n :: S) (n + 1) M' Q) : X f k0 s0 pc L S n M Q := by
  subst hq
  intro g p l e s m args below meth c H locs ls C hk hP hS hl
  have hts := C.2.2.2.2.2.2.2.1
  have hgs := C.2.2.2.2.2.2.2.2.2.2
  refine xsize hgs hk hP hS fun hH => ?_
  have hKn := C.2.2.2.2.2.2.2.2.1.1 ci _ hc
  refine W.newcK (R := f.2.2.2.2.2) C.1 C.2.1 C.2.2.2.2.2.1 (hts _ w1) (hts _ w2) (hts _ w3) rfl hd hcs.1 hcs.2 hKn.2.1 hH fun H1 kC hkC e1 z1 o1 => ?_
  have hk9 : ∀ (k : Nat) (x : Nat × va_E), (xW g n M)[k]? = some x → H1[x.1]? = H[x.1]? := fun k x hx => o1 x.1 (by rw [← hH]; exact (hP k x hx).lt)
  refine kk (xup M n (.inr (ci, fs))) (xup_s _ _ _) (fun j h => xup_n _ _ _ _ h) g p l e s m args below meth c H1 locs ls C (by omega) ?_ ⟨Nat.le_trans hS.1 (by omega), fun x h1 h2 => (o1 x (by have := hS.1; omega)).trans (hS.2.1 x h1 h2), hS.2.2⟩ hl
  rw [← xW_push]
  refine (hP.kept hk9).app (fun k x hx => ?_)
  have hz : k < 1 := (List.getElem?_eq_some_iff.mp hx).1
  rw [show k = 0 by omega] at hx
  cases hx
  exact ⟨_, hc, (u_born ty hts hin hKn hkC e1 hty).to (hfs g)⟩
theorem x_newI {z : Int32} {N : Nat} (w1 : Cond.arrayClass .int ∈ f.2.2.2.2.1) (hz : ¬ z < 0) (hN : z.toNatClampNeg = N) (hb : N * componentBytes .int ≤ 536870912) (hcs : k0 + 1 ≤ f.2.2.2.2.2.cells ∧ s0 + N ≤ f.2.2.2.2.2.slots) (hd : decode f.2.1 pc = .ok (.newarray .int, 2)) (hq : pc + 2 = q)
    (kk : ∀ M' : Nat → xE, M' n = .inl (0, N, .inl (fun _ => 0)) → (∀ j, j ≠ n → M' j = M j) → X f (k0 + 1) (s0 + N) q L (.ref n :: S) (n + 1) M' Q) : X f k0 s0 pc L (.int z :: S) n M Q := by
  subst hq
  intro g p l e s m args below meth c H locs ls C hk hP hS hl
  have hts := C.2.2.2.2.2.2.2.1
  have hgs := C.2.2.2.2.2.2.2.2.2.2
  refine xsize hgs hk hP hS fun hH => ?_
  refine va_newaK (R := f.2.2.2.2.2) (atype := .int) C.1 C.2.1 (hts _ w1) rfl hd rfl hz hN hb hcs.1 hcs.2 hH fun H1 cA e1 z1 o1 hAr hNm => ?_
  have hk9 : ∀ (k : Nat) (x : Nat × va_E), (xW g n M)[k]? = some x → H1[x.1]? = H[x.1]? := fun k x hx => o1 x.1 (by rw [← hH]; exact (hP k x hx).lt)
  have hcA : cA = g.2.2.1 0 := Option.some.inj (hNm.symm.trans (C.2.2.2.2.2.2.2.2.1.2 0 _ rfl).2)
  subst hcA
  refine kk (xup M n (.inl (0, N, .inl (fun _ => 0)))) (xup_s _ _ _) (fun j h => xup_n _ _ _ _ h) g p l e s m args below meth c H1 locs ls C (by omega) ?_ ⟨Nat.le_trans hS.1 (by omega), fun x h1 h2 => (o1 x (by have := hS.1; omega)).trans (hS.2.1 x h1 h2), hS.2.2⟩ hl
  rw [← xW_push]
  refine (hP.kept hk9).app (fun k x hx => ?_)
  have hz : k < 1 := (List.getElem?_eq_some_iff.mp hx).1
  rw [show k = 0 by omega] at hx
  cases hx
  exact e1
theorem x_newJ {z : Int32} {N : Nat} (w1 : Cond.arrayClass .long ∈ f.2.2.2.2.1) (hz : ¬ z < 0) (hN : z.toNatClampNeg = N) (hb : N * componentBytes .long ≤ 536870912) (hcs : k0 + 1 ≤ f.2.2.2.2.2.cells ∧ s0 + N ≤ f.2.2.2.2.2.slots) (hd : decode f.2.1 pc = .ok (.newarray .long, 2)) (hq : pc + 2 = q)
    (kk : ∀ M' : Nat → xE, M' n = .inl (1, N, .inr (.inl (fun _ => 0))) → (∀ j, j ≠ n → M' j = M j) → X f (k0 + 1) (s0 + N) q L (.ref n :: S) (n + 1) M' Q) : X f k0 s0 pc L (.int z :: S) n M Q := by
  subst hq
  intro g p l e s m args below meth c H locs ls C hk hP hS hl
  have hts := C.2.2.2.2.2.2.2.1
  have hgs := C.2.2.2.2.2.2.2.2.2.2
  refine xsize hgs hk hP hS fun hH => ?_
  refine va_newaK (R := f.2.2.2.2.2) (atype := .long) C.1 C.2.1 (hts _ w1) rfl hd rfl hz hN hb hcs.1 hcs.2 hH fun H1 cA e1 z1 o1 hAr hNm => ?_
  have hk9 : ∀ (k : Nat) (x : Nat × va_E), (xW g n M)[k]? = some x → H1[x.1]? = H[x.1]? := fun k x hx => o1 x.1 (by rw [← hH]; exact (hP k x hx).lt)
  have hcA : cA = g.2.2.1 1 := Option.some.inj (hNm.symm.trans (C.2.2.2.2.2.2.2.2.1.2 1 _ rfl).2)
  subst hcA
  refine kk (xup M n (.inl (1, N, .inr (.inl (fun _ => 0))))) (xup_s _ _ _) (fun j h => xup_n _ _ _ _ h) g p l e s m args below meth c H1 locs ls C (by omega) ?_ ⟨Nat.le_trans hS.1 (by omega), fun x h1 h2 => (o1 x (by have := hS.1; omega)).trans (hS.2.1 x h1 h2), hS.2.2⟩ hl
  rw [← xW_push]
  refine (hP.kept hk9).app (fun k x hx => ?_)
  have hz : k < 1 := (List.getElem?_eq_some_iff.mp hx).1
  rw [show k = 0 by omega] at hx
  cases hx
  exact e1
theorem x_newZ {z : Int32} {N : Nat} (w1 : Cond.arrayClass .boolean ∈ f.2.2.2.2.1) (hz : ¬ z < 0) (hN : z.toNatClampNeg = N) (hb : N * componentBytes .boolean ≤ 536870912) (hcs : k0 + 1 ≤ f.2.2.2.2.2.cells ∧ s0 + N ≤ f.2.2.2.2.2.slots) (hd : decode f.2.1 pc = .ok (.newarray .boolean, 2)) (hq : pc + 2 = q)
    (kk : ∀ M' : Nat → xE, M' n = .inl (2, N, .inl (fun _ => 0)) → (∀ j, j ≠ n → M' j = M j) → X f (k0 + 1) (s0 + N) q L (.ref n :: S) (n + 1) M' Q) : X f k0 s0 pc L (.int z :: S) n M Q := by
  subst hq
  intro g p l e s m args below meth c H locs ls C hk hP hS hl
  have hts := C.2.2.2.2.2.2.2.1
  have hgs := C.2.2.2.2.2.2.2.2.2.2
  refine xsize hgs hk hP hS fun hH => ?_
  refine va_newaK (R := f.2.2.2.2.2) (atype := .boolean) C.1 C.2.1 (hts _ w1) rfl hd rfl hz hN hb hcs.1 hcs.2 hH fun H1 cA e1 z1 o1 hAr hNm => ?_
  have hk9 : ∀ (k : Nat) (x : Nat × va_E), (xW g n M)[k]? = some x → H1[x.1]? = H[x.1]? := fun k x hx => o1 x.1 (by rw [← hH]; exact (hP k x hx).lt)
  have hcA : cA = g.2.2.1 2 := Option.some.inj (hNm.symm.trans (C.2.2.2.2.2.2.2.2.1.2 2 _ rfl).2)
  subst hcA
  refine kk (xup M n (.inl (2, N, .inl (fun _ => 0)))) (xup_s _ _ _) (fun j h => xup_n _ _ _ _ h) g p l e s m args below meth c H1 locs ls C (by omega) ?_ ⟨Nat.le_trans hS.1 (by omega), fun x h1 h2 => (o1 x (by have := hS.1; omega)).trans (hS.2.1 x h1 h2), hS.2.2⟩ hl
  rw [← xW_push]
  refine (hP.kept hk9).app (fun k x hx => ?_)
  have hz : k < 1 := (List.getElem?_eq_some_iff.mp hx).1
  rw [show k = 0 by omega] at hx
  cases hx
  exact e1
/-- an array of Days -/
theorem x_newD {z : Int32} {N index : Nat} (w1 : Cond.classLink f.1.cls index RX3 ∈ f.2.2.2.2.1) (hz : ¬ z < 0) (hN : z.toNatClampNeg = N) (hb : N * 4 ≤ 536870912) (hcs : k0 + 1 ≤ f.2.2.2.2.2.cells ∧ s0 + N ≤ f.2.2.2.2.2.slots) (hd : decode f.2.1 pc = .ok (.anewarray index, 3)) (hq : pc + 3 = q)
    (kk : ∀ M' : Nat → xE, M' n = .inl (3, N, .inr (.inr (.inr (.inr (fun _ => none))))) → (∀ j, j ≠ n → M' j = M j) → X f (k0 + 1) (s0 + N) q L (.ref n :: S) (n + 1) M' Q) : X f k0 s0 pc L (.int z :: S) n M Q := by
  subst hq
  subst hN
  intro g p l e s m args below meth c H locs ls C hk hP hS hl
  have hts := C.2.2.2.2.2.2.2.1
  have hgs := C.2.2.2.2.2.2.2.2.2.2
  refine xsize hgs hk hP hS fun hH => ?_
  refine W.anew (R := f.2.2.2.2.2) C.1 C.2.1 C.2.2.2.2.2.1 (hts _ w1) (va_AO.use C.2.2.2.2.2.2.2.2.2.1.2.2.2.2.2.2.2.1) rfl hd rfl hz hb hcs.1 hcs.2 fun cA kA comp f1 f2 f3 f4 => ?_
  generalize hH1 : H.push ({ cls := cA, slots := Array.replicate z.toNatClampNeg .null, vm := .none } : Cell) = H1
  have z1 : H1.size = H.size + 1 := by rw [← hH1, Array.size_push]
  have e1 : H1[H.size]? = some (arrV cA z.toNatClampNeg (fun _ => .null)) := by rw [← hH1, Array.getElem?_push_size, ← arrV_new]
  have o1 : ∀ q : Nat, q < H.size → H1[q]? = H[q]? := fun q hq => by rw [← hH1, Array.getElem?_push, if_neg (Nat.ne_of_lt hq)]
  have hk9 : ∀ (k : Nat) (x : Nat × va_E), (xW g n M)[k]? = some x → H1[x.1]? = H[x.1]? := fun k x hx => o1 x.1 ((hP k x hx).lt)
  have hcA : cA = g.2.2.1 3 := by
    obtain ⟨kA', comp', -, -, -, k4⟩ := (C.2.2.2.2.2.2.2.2.1.2 3 _ rfl).2
    exact Option.some.inj (f1.symm.trans k4)
  subst hcA
  refine W.eq (g2 := F0 m (pc + 3) ls ((Value.ref n :: S).map (xv g))) (by rw [hH]; rfl) ?_
  refine kk (xup M n (.inl (3, z.toNatClampNeg, .inr (.inr (.inr (.inr (fun _ => none))))))) (xup_s _ _ _) (fun j h => xup_n _ _ _ _ h) g p l e s m args below meth c H1 locs ls C (by omega) ?_ ⟨Nat.le_trans hS.1 (by omega), fun x h1 h2 => (o1 x (by have := hS.1; omega)).trans (hS.2.1 x h1 h2), hS.2.2⟩ hl
  rw [← xW_push]
  refine (hP.kept hk9).app (fun k x hx => ?_)
  have hz : k < 1 := (List.getElem?_eq_some_iff.mp hx).1
  rw [show k = 0 by omega] at hx
  cases hx
  show H1[g.1 + n]? = some (vp_cell _ _)
  rw [← hH]
  exact e1
/-- TAKEN_AS, and what it holds; the String constants -/
theorem x_gets {index : Nat} (w : Cond.fieldLink f.1.cls index RX10 "TAKEN_AS" "[I" ∈ f.2.2.2.2.1) (hd : decode f.2.1 pc = .ok (.getstatic index, 3)) (hq : pc + 3 = q) (kk : X f k0 s0 q L (.retAddr 0 :: S) n M Q) : X f k0 s0 pc L S n M Q := by
  subst hq
  exact fun g p l e s m args below meth c H locs ls C hk hP hS hl => va_gets C.1 C.2.1 C.2.2.2.2.2.2.2.2.2.1.2.2.1 hS C.2.2.2.2.2.1 (C.2.2.2.2.2.2.2.1 _ w) (fun _ h => h) hd (kk g p l e s m args below meth c H locs ls C hk hP hS hl)
theorem x_tkld {i : Int32} (hi : vp_in i 4) (hd : decode f.2.1 pc = .ok (.iaload, 1)) (hq : pc + 1 = q) (kk : X f k0 s0 q L (.int (xTk i.toNatClampNeg) :: S) n M Q) : X f k0 s0 pc L (.int i :: .retAddr 0 :: S) n M Q := by
  subst hq
  exact fun g p l e s m args below meth c H locs ls C hk hP hS hl => va_sld C.1 C.2.1 C.2.2.2.2.2.2.2.2.2.1.2.2.2.1 (Nat.lt_of_lt_of_le C.2.2.2.2.2.2.2.2.2.1.2.2.2.2.1 C.2.2.2.2.2.2.2.2.2.2) (Nat.not_le.mpr C.2.2.2.2.2.2.2.2.2.1.2.2.2.2.1) hS hi hd (kk g p l e s m args below meth c H locs ls C hk hP hS hl)
theorem x_ldcS {index i : Nat} {tx : String} (hi : xStr[i]? = some (index, tx)) (hf : f.1.cls = RX7) (hd : decode f.2.1 pc = .ok (.ldc index, 2)) (hq : pc + 2 = q) (kk : X f k0 s0 q L (.retAddr (i + 1) :: S) n M Q) : X f k0 s0 pc L S n M Q := by
  subst hq
  exact fun g p l e s m args below meth c H locs ls C hk hP hS hl => va_ldcS C.1 C.2.1 C.2.2.2.2.2.1 (by rw [hf]; exact C.2.2.2.2.2.2.2.2.2.1.2.1 i _ hi) hd (kk g p l e s m args below meth c H locs ls C hk hP hS hl)
end XR4
