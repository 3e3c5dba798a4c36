/-! String constants and what their own methods ask -/
section XS
variable {f : xM} {k0 s0 pc q n : Nat} {L : List (Nat × Value)} {S : List Value} {M : Nat → xE} {Q : Option Value → (Nat → xE) → Prop}
theorem x_gsC {index : Nat} (w : Cond.fieldLink f.1.cls index "java/lang/String" "COMPACT_STRINGS" "Z" ∈ f.2.2.2.2.1) (hd : decode f.2.1 pc = .ok (.getstatic index, 3)) (hq : pc + 3 = q) (kk : X f k0 s0 q L (.int 1 :: S) n M Q) : X f k0 s0 pc L S n M Q := by
  subst hq
  exact fun g p l e s m args below meth c H locs ls C hk hP hS hl => va_gets C.1 C.2.1 C.2.2.2.2.2.2.2.2.2.1.2.2.2.2.2.1 hS C.2.2.2.2.2.1 (C.2.2.2.2.2.2.2.1 _ w) (fun _ h => h) hd (kk g p l e s m args below meth c H locs ls C hk hP hS hl)
theorem x_gsF {index : Nat} (w : Cond.fieldLink f.1.cls index "jdk/internal/util/Preconditions" "SIOOBE_FORMATTER" "Ljava/util/function/BiFunction;" ∈ f.2.2.2.2.1) (hd : decode f.2.1 pc = .ok (.getstatic index, 3)) (hq : pc + 3 = q) (kk : ∀ v : Value, (v = .retAddr 25 ∨ v = .null) → X f k0 s0 q L (v :: S) n M Q) : X f k0 s0 pc L S n M Q := by
  subst hq
  intro g p l e s m args below meth c H locs ls C hk hP hS hl
  obtain ⟨v, hv, hZ⟩ := C.2.2.2.2.2.2.2.2.2.1.2.2.2.2.2.2.2.2
  exact va_gets C.1 C.2.1 hZ hS C.2.2.2.2.2.1 (C.2.2.2.2.2.2.2.1 _ w) (fun _ h => h) hd (kk v hv g p l e s m args below meth c H locs ls C hk hP hS hl)
theorem x_gfC {i index : Nat} (hi : i < 12) (w : Cond.fieldLink f.1.cls index "java/lang/String" "coder" "B" ∈ f.2.2.2.2.1) (hd : decode f.2.1 pc = .ok (.getfield index, 3)) (hq : pc + 3 = q) (kk : X f k0 s0 q L (.int 0 :: S) n M Q) : X f k0 s0 pc L (.retAddr (i + 1) :: S) n M Q := by
  subst hq
  exact fun g p l e s m args below meth c H locs ls C hk hP hS hl => vk_getf C.1 C.2.1 (C.2.2.2.2.2.2.2.2.2.1.1.1 i hi).2.1 hS C.2.2.2.2.2.1 (C.2.2.2.2.2.2.2.1 _ w) (fun _ h => h) hd (kk g p l e s m args below meth c H locs ls C hk hP hS hl)
theorem x_gfV {i index : Nat} (hi : i < 12) (w : Cond.fieldLink f.1.cls index "java/lang/String" "value" "[B" ∈ f.2.2.2.2.1) (hd : decode f.2.1 pc = .ok (.getfield index, 3)) (hq : pc + 3 = q) (kk : X f k0 s0 q L (.retAddr (i + 13) :: S) n M Q) : X f k0 s0 pc L (.retAddr (i + 1) :: S) n M Q := by
  subst hq
  exact fun g p l e s m args below meth c H locs ls C hk hP hS hl => vk_getf C.1 C.2.1 (C.2.2.2.2.2.2.2.2.2.1.1.1 i hi).2.2.1 hS C.2.2.2.2.2.1 (C.2.2.2.2.2.2.2.1 _ w) (fun _ h => h) hd (kk g p l e s m args below meth c H locs ls C hk hP hS hl)
theorem x_lenB {i : Nat} (hi : i < 12) (hd : decode f.2.1 pc = .ok (.arraylength, 1)) (hq : pc + 1 = q) (kk : X f k0 s0 q L (.int (nI (xLen.getD i 0)) :: S) n M Q) : X f k0 s0 pc L (.retAddr (i + 13) :: S) n M Q := by
  subst hq
  exact fun g p l e s m args below meth c H locs ls C hk hP hS hl => va_tlen C.1 C.2.1 (C.2.2.2.2.2.2.2.2.2.1.1.1 i hi).2.2.2 hS rfl hd (kk g p l e s m args below meth c H locs ls C hk hP hS hl)
theorem x_ldB {i : Nat} {j : Int32} (hi : i < 12) (hj : vp_in j (xLen.getD i 0)) (hd : decode f.2.1 pc = .ok (.baload, 1)) (hq : pc + 1 = q) (kk : X f k0 s0 q L (.int ((xByt.getD i []).getD j.toNatClampNeg 0) :: S) n M Q) : X f k0 s0 pc L (.int j :: .retAddr (i + 13) :: S) n M Q := by
  subst hq
  exact fun g p l e s m args below meth c H locs ls C hk hP hS hl => va_tb C.1 C.2.1 (C.2.2.2.2.2.2.2.2.2.1.1.1 i hi).2.2.2 hS hj rfl hd (kk g p l e s m args below meth c H locs ls C hk hP hS hl)
/-- a call on a String constant -/
theorem x_callVE {h : xM} {index na i : Nat} {As rest : List Value} {Q1 : Option Value → (Nat → xE) → Prop} (hM1 : xMet h (.retAddr (i + 1) :: As) n M Q1) (hE : xEdge f h index na) (hG : GoodIn f.2.2.2.2.1 (wsV f.1.cls index h.1.cls h.1 h.2.2.2.2.1)) (hi : i < 12) (hrC : h.1.cls = "java/lang/String") (hAs : As.length = na) (hst : (rest.map fun v => v.category).sum ≤ 8) (hcs : k0 + h.2.2.2.2.2.cells ≤ f.2.2.2.2.2.cells ∧ s0 + h.2.2.2.2.2.slots ≤ f.2.2.2.2.2.slots) (hd : decode f.2.1 pc = .ok (.invokevirtual index, 3)) (hq : pc + 3 = q) (hSt : S = As.reverse ++ .retAddr (i + 1) :: rest)
    (kk : ∀ r M', Q1 r M' → X f (k0 + h.2.2.2.2.2.cells) (s0 + h.2.2.2.2.2.slots) q L (r.toList ++ rest) (n + h.2.2.2.2.2.cells) M' Q) : X f k0 s0 pc L S n M Q := by
  subst hq
  subst hSt
  intro g p l e s m args below meth c H locs ls C hk hP hS hl
  obtain ⟨hE1, hE2, ws', hE3⟩ := hE
  refine xsize C.2.2.2.2.2.2.2.2.2.2 hk hP hS fun hH => ?_
  have hr := va_runV (locs := locs) (below := below) (meth := meth) (e := e) (cells := k0) (slots := s0) (g := F0 m pc ls ((As.reverse ++ .retAddr (i + 1) :: rest).map (xv g))) (As := As.map (xv g)) (rest := rest.map (xv g)) (b := g.2.1 (i + 1)) (H := H) ⟨C.1, C.2.1, C.2.2.1, C.2.2.2.2.2.1, C.2.2.2.2.2.2.2.1⟩ (hM1 l g) (cwV na C.2.2.2.2.2.2.2.1 hG hE3 rfl rfl ⟨rfl, hE1⟩ hE2) ⟨xPre (h := h) (Q1 := Q1) (l := l), by rw [hrC]; exact vk_recv (adK := fun i => g.2.1 (i + 1)) (i := i) C.2.2.2.2.2.2.2.2.2.1.1 hi hS, xPost C hH hP hS⟩ rfl (by rw [List.length_map]; exact hAs) hl.1 (by simp [xv]) (by rw [xcats]; exact lv_room hst) hd hcs
  refine x_after hr hS hH fun r M' H1 locs1 hQ1 hP1 hS1 => ?_
  have h9 := kk r M' hQ1 g p l e s m args below meth c H1 locs1 ls C (by omega) hP1 hS1 hl
  have e9 : (r.toList ++ rest).map (xv g) = (r.map (xv g)).toList ++ rest.map (xv g) := by
    rw [List.map_append]
    cases r <;> rfl
  rw [e9] at h9
  exact h9
end XS
