/-! ===== the judgement X: a method's walk over an abstract memory: cells by their places (base + k), references are places ===== -/
abbrev xE : Type := (Nat × vp_A) ⊕ (Nat × List Value)
/-- base; addresses of what was there before (0: TAKEN_AS, 1 .. 12 the String constants, 13 .. 24 their bytes); array classes by their kind; classes and slots -/
abbrev xG : Type := Nat × (Nat → Nat) × (Nat → ClassId) × va_G
/-- a method: name, code, maxLocals, return type, words, room -/
abbrev xM : Type := MethodName × ByteArray × Nat × Option FieldType × List Cond × Room
def xv (g : xG) : Value → Value
  | .ref k => .ref (g.1 + k)
  | .retAddr k => .ref (g.2.1 k)
  | v => v
def xcA (g : xG) (a : vp_A) : vp_A := match a with
  | (n, .inr (.inr (.inr (.inr f)))) => (n, .inr (.inr (.inr (.inr (fun j => (f j).map (fun k => g.1 + k))))))
  | a => a
def xc (g : xG) (c : xE) : va_E := match c with
  | .inl (t, a) => .inl (g.2.2.1 t, xcA g a)
  | .inr (ci, fs) => .inr (ci, fs.map (xv g))
def xW (g : xG) (n : Nat) (M : Nat → xE) : va_W := (List.range n).map (fun k => (g.1 + k, xc g (M k)))
def xtys (tC : Nat → ClassId) : List (ClassId × FieldType) := [(tC 0, .int), (tC 1, .long), (tC 2, .boolean), (tC 3, .object RX3)]
def xA (g : xG) : Nat → Prop := fun q => g.1 ≤ q
def xup (M : Nat → xE) (k : Nat) (c : xE) : Nat → xE := fun j => if j = k then c else M j
theorem xup_s (M : Nat → xE) (k : Nat) (c : xE) : xup M k c k = c := if_pos rfl
theorem xup_n (M : Nat → xE) (k : Nat) (c : xE) (j : Nat) (h : j ≠ k) : xup M k c j = M j := if_neg h
theorem xv_cat (g : xG) (v : Value) : (xv g v).category = v.category := by cases v <;> rfl
theorem xW_at (g : xG) (n : Nat) (M : Nat → xE) {k : Nat} (h : k < n) : (xW g n M)[k]? = some (g.1 + k, xc g (M k)) := by
  simp [xW, h]
theorem xW_of {g : xG} {n : Nat} {M : Nat → xE} {k : Nat} {q : Nat × va_E} (h : (xW g n M)[k]? = some q) : k < n ∧ q = (g.1 + k, xc g (M k)) := by
  have hk : k < n := by
    have := (List.getElem?_eq_some_iff.mp h).1
    simpa [xW] using this
  rw [xW_at g n M hk] at h
  exact ⟨hk, (Option.some.inj h).symm⟩
theorem xW_D (g : xG) (n : Nat) (M : Nat → xE) : va_D (xA g) (xW g n M) := by
  refine ⟨fun i j p q hp hq e => ?_, fun k q hq => ?_⟩
  · obtain ⟨-, rfl⟩ := xW_of hp
    obtain ⟨-, rfl⟩ := xW_of hq
    exact Nat.add_left_cancel e
  · obtain ⟨-, rfl⟩ := xW_of hq
    exact Nat.le_add_right _ _
theorem xW_set (g : xG) (n : Nat) (M : Nat → xE) {k : Nat} (h : k < n) (c : xE) : (xW g n M).set k (g.1 + k, xc g c) = xW g n (xup M k c) := by
  apply List.ext_getElem?
  intro j
  by_cases hj : j < n
  · rw [xW_at g n _ hj, List.getElem?_set]
    by_cases e : k = j
    · subst e
      simp [xup, xW, h]
    · rw [if_neg e, xW_at g n M hj]
      rw [xup_n _ _ _ _ (fun h => e h.symm)]
  · rw [List.getElem?_eq_none (by simpa [xW] using hj), List.getElem?_eq_none (by simpa [xW] using hj)]
theorem xW_push (g : xG) (n : Nat) (M : Nat → xE) (c : xE) : xW g n M ++ [(g.1 + n, xc g c)] = xW g (n + 1) (xup M n c) := by
  have e : ∀ k ∈ List.range n, (g.1 + k, xc g (M k)) = (g.1 + k, xc g (xup M n c k)) := fun k hk => by
    rw [xup_n _ _ _ _ (Nat.ne_of_lt (List.mem_range.mp hk))]
  unfold xW
  rw [List.range_succ, List.map_append, List.map_congr_left e, List.map_singleton, xup_s]
/-- the String constants of wordOf, by their entries -/
def xStr : List (Nat × String) := [(96, "town"), (98, "smith"), (100, "mason"), (102, "scribe"), (104, "reeve"), (106, "likes"), (108, "work"), (110, "grow"), (112, "wither"), (114, "length"), (116, "world"), (118, "still")]
def xLen : List Nat := xStr.map (fun q => q.2.length)
def xByt : List (List Int32) := xStr.map (fun q => q.2.toList.map (fun c => Int32.ofNat c.toNat))
def xNest : List (String × Nat × MethodName) := [(RX2, 45, yX10_bitOf), (RX4, 49, yX10_bitOf), (RX6, 56, yX10_bitOf), (RX7, 163, yX10_isOutside), (RX8, 74, yX10_bitOf)]
def xTk : Nat → Int32 := fun j => ([7, 11, 17, 49] : List Int32).getD j 0
/-- what was there before, as it stands at U -/
def xX (g : xG) (U : State) : Prop :=
  vk_S 12 xLen xByt (fun i => g.2.1 (i + 1)) (fun i => g.2.1 (i + 13)) (xA g) U U.heap ∧ (∀ (i : Nat) (q : Nat × String), xStr[i]? = some q → vk_R RX7 q.1 q.2 (g.2.1 (i + 1)) U) ∧
    va_Z RX10 "TAKEN_AS" "[I" (.ref (g.2.1 0)) (xA g) U U.heap ∧ va_X (g.2.1 0) 4 xTk U U.heap ∧ g.2.1 0 < g.1 ∧ va_Z "java/lang/String" "COMPACT_STRINGS" "Z" (.int 1) (xA g) U U.heap ∧ (∀ q ∈ xNest, va_Nw (.methodLinkNest q.1 q.2.1 q.2.2 RX10) U) ∧ va_AO RX3 U ∧ ∃ v : Value, (v = .retAddr 25 ∨ v = .null) ∧ va_Z "jdk/internal/util/Preconditions" "SIOOBE_FORMATTER" "Ljava/util/function/BiFunction;" (xv g v) (xA g) U U.heap
theorem xX.warm {g : xG} {s U : State} (hW : s.WarmedH U.vm) (hg : g.1 ≤ s.heap.size) {locs : List Loc} (hS : va_S (xA g) s.heap U.heap locs) (h : xX g s) : xX g U := by
  obtain ⟨h1, h2, h3, h4, h5, h6, h7, h8, v9, e9, h9⟩ := h
  have hq : ∀ a : Nat, a < s.heap.size → ¬ xA g a → U.heap[a]? = s.heap[a]? := hS.2.1
  exact ⟨(h1.kept hq).moved hW.alike, fun i q hi => (h2 i q hi).warm hW, (h3.kept hq).moved hW.alike, (h4.kept (hq _ (Nat.lt_of_lt_of_le h5 hg) (Nat.not_le.mpr h5))).moved hW.alike, h5, (h6.kept hq).moved hW.alike, fun q hq => (h7 q hq).warmM hW, h8.moved hW.alike, v9, e9, (h9.kept hq).moved hW.alike⟩
theorem xX.blind {g : xG} {U : State} (G : JFrame) (mk : MethodId) (a : Array Value) (h : xX g U) : xX g (U.calling G mk a) := by
  obtain ⟨h1, h2, h3, h4, h5, h6, h7, h8, v9, e9, h9⟩ := h
  have hv : U.vm.Alike (U.calling G mk a).vm := Vm.Alike.refl U.vm
  exact ⟨h1.moved hv, fun i q hi => (h2 i q hi).same rfl, h3.moved hv, h4.moved hv, h5, h6.moved hv, fun q hq => (h7 q hq).same rfl rfl, h8.moved hv, v9, e9, h9.moved hv⟩
/-- a method's end: its answer, the memory behind it -/
def xQ (g : xG) (mc : Nat) (Q : Option Value → (Nat → xE) → Prop) : Array Value → State → Outcome → State → Prop := fun _ st oc t =>
  (∃ (r : Option Value) (M : Nat → xE), oc = .returned (r.map (xv g)) ∧ Q r M ∧ va_P g.2.2.2 vwCl (xW g (st.heap.size - g.1 + mc) M) t.heap) ∧ va_F (xA g) st t
def xCtx (f : xM) (g : xG) (p : Program) (s : State) (m : MethodId) (args : Array Value) (meth : Method) (c : Code) : Prop :=
  p.tables.exec = Jvm.exec ∧ c.code = f.2.1 ∧ c.maxLocals = f.2.2.1 ∧ meth.sig.returnType = f.2.2.2.1 ∧ meth.locks = false ∧ s.vm.findClass f.1.cls = some m.cls ∧ meth.name = f.1.name ∧ (∀ w ∈ f.2.2.2.2.1, w.before args s = true) ∧ va_K g.2.2.2 vwCl (xtys g.2.2.1) s ∧ xX g s ∧ g.1 ≤ s.heap.size
def xL (g : xG) (L : List (Nat × Value)) : List (Nat × Value) := L.map (fun q => (q.1, xv g q.2))
/-- the walk stands at pc, locals L, stack S, n cells with memory M; k0 cells of s0 slots were made here; it comes to an end with Q -/
def X (f : xM) (k0 s0 pc : Nat) (L : List (Nat × Value)) (S : List Value) (n : Nat) (M : Nat → xE) (Q : Option Value → (Nat → xE) → Prop) : Prop :=
  ∀ (g : xG) (p : Program) (l : Launch) (e : Env) (s : State) (m : MethodId) (args : Array Value) (below : List Frame) (meth : Method) (c : Code) (H : Heap) (locs : List Loc) (ls : Array Slot),
    xCtx f g p s m args meth c → s.heap.size + k0 = g.1 + n → va_P g.2.2.2 vwCl (xW g n M) H → va_S (xA g) s.heap H locs → lv_has ls f.2.2.1 (xL g L) →
    W p l e f.2.2.2.2.2 s m args below meth c H locs k0 s0 (MQ below (xQ g f.2.2.2.2.2.cells Q) args s f.2.2.2.2.2.cells f.2.2.2.2.2.slots (xA g)) (F0 m pc ls (S.map (xv g)))
/-- a method's contract: from these arguments and this memory -/
def xMet (f : xM) (as : List Value) (n : Nat) (M : Nat → xE) (Q : Option Value → (Nat → xE) → Prop) : Prop :=
  ∀ (l : Launch) (g : xG), Met l f.1 f.2.2.2.2.1 f.2.2.2.2.2 (va_Pc (as.map (xv g)) (fun U => U.heap.size = g.1 + n ∧ va_P g.2.2.2 vwCl (xW g n M) U.heap ∧ va_K g.2.2.2 vwCl (xtys g.2.2.1) U ∧ xX g U)) (xQ g f.2.2.2.2.2.cells Q) f.2.2.2.2.2.cells f.2.2.2.2.2.slots (xA g)
theorem xv_args (g : xG) : ∀ (vs : List Value) (i : Nat), lv_args i (vs.map (xv g)) = xL g (lv_args i vs)
  | [], _ => rfl
  | v :: vs, i => by
    simp only [List.map_cons, lv_args, xv_cat, xL]
    rw [xv_args g vs]
    rfl
theorem xv_sl (g : xG) : ∀ (vs : List Value), (lg_sl (vs.map (xv g))).length = (lg_sl vs).length
  | [] => rfl
  | v :: vs => by
    have ih := xv_sl g vs
    simp only [lg_sl, List.map_cons, List.flatMap_cons, List.length_append, xv_cat] at ih ⊢
    rw [ih]
    congr 1
    split <;> rfl
theorem xMet.of {f : xM} {as : List Value} {n : Nat} {M : Nat → xE} {Q : Option Value → (Nat → xE) → Prop} (ws' : List Cond) (hy : plainName f.1.cls = true) (hw : f.2.2.2.2.1 = Cond.code f.1 f.2.1 f.2.2.1 f.2.2.2.1 :: ws') (hl : (lg_sl as).length ≤ f.2.2.1)
    (h : X f 0 0 0 (lv_args 0 as) [] n M Q) : xMet f as n M Q := by
  intro l g
  refine Met.ofW (cc := f.2.1) (maxL := f.2.2.1) (ret := f.2.2.2.1) hy hw ?_
  intro p e s m args below meth c s₁ B hml hv
  obtain ⟨rfl, hsz, hP, hK, hX⟩ := hv
  have hts := atoms_spec (ws := f.2.2.2.2.1) B.pre
  have hown : s.vm.findClass f.1.cls = some m.cls := findClass_of_methodNamed B.named
  rw [lg_entry_eq]
  refine h g p l e s m _ below meth c s.heap [] _ ⟨B.exec, B.bytes, hml, B.returns, B.notSynchronized, hown, (name_of_methodNamed B.named B.method).1, hts, hK, hX, by omega⟩ (by omega) hP va_S.rf ?_
  rw [← xv_args]
  exact lv_entry _ (by rw [xv_sl]; exact hl)
section XR
variable {f : xM} {k0 s0 pc q n : Nat} {L : List (Nat × Value)} {S : List Value} {M : Nat → xE} {Q : Option Value → (Nat → xE) → Prop}
/-- how many cells there are -/
theorem xsize {g : xG} {p : Program} {l : Launch} {e : Env} {R : Room} {s : State} {m : MethodId} {args : Array Value} {below : List Frame} {meth : Method} {c : Code} {H : Heap} {locs : List Loc} {cells slots : Nat} {Qz : State → Prop} {G : JFrame} (hg : g.1 ≤ s.heap.size) (hn : s.heap.size + cells = g.1 + n) (hP : va_P g.2.2.2 vwCl (xW g n M) H) (hS : va_S (xA g) s.heap H locs)
    (kk : H.size = g.1 + n → W p l e R s m args below meth c H locs cells slots Qz G) : W p l e R s m args below meth c H locs cells slots Qz G := by
  intro T hT Z
  refine kk ?_ T hT Z
  have h1 : T.heap.size ≤ s.heap.size + cells := Z.same.2.2.1
  rw [hT] at h1
  have h2 := hS.1
  cases n with
  | zero => omega
  | succ k =>
    have h3 := (hP k _ (xW_at g (k + 1) M (Nat.lt_succ_self k))).lt
    have h4 : g.1 + k < H.size := h3
    omega
/-- an instruction that moves pc and stack alone -/
theorem X.lift {S' : List Value} (h : ∀ (g : xG) (p : Program) (l : Launch) (e : Env) (R : Room) (s : State) (m : MethodId) (args : Array Value) (below : List Frame) (meth : Method) (c : Code) (H : Heap) (locs : List Loc) (cells slots : Nat) (Qz : State → Prop) (ls : Array Slot), p.tables.exec = Jvm.exec → c.code = f.2.1 → lv_has ls f.2.2.1 (xL g L) →
      W p l e R s m args below meth c H locs cells slots Qz (F0 m q ls (S'.map (xv g))) → W p l e R s m args below meth c H locs cells slots Qz (F0 m pc ls (S.map (xv g)))) (kk : X f k0 s0 q L S' n M Q) : X f k0 s0 pc L S n M Q :=
  fun g p l e s m args below meth c H locs ls C hk hP hS hl => h g p l e _ s m args below meth c H locs _ _ _ ls C.1 C.2.1 hl (kk g p l e s m args below meth c H locs ls C hk hP hS hl)
theorem x_loc {L' : List (Nat × Value)} (hs : ∀ x ∈ L', x ∈ L) (kk : X f k0 s0 pc L' S n M Q) : X f k0 s0 pc L S n M Q :=
  fun g p l e s m args below meth c H locs ls C hk hP hS hl => kk g p l e s m args below meth c H locs ls C hk hP hS ⟨hl.1, hl.2.1, fun x hx => by
    obtain ⟨y, hy, rfl⟩ := List.mem_map.mp hx
    exact hl.2.2 _ (List.mem_map.mpr ⟨y, hs y hy, rfl⟩)⟩
theorem x_post {Q' : Option Value → (Nat → xE) → Prop} (h : ∀ r M', Q' r M' → Q r M') (kk : X f k0 s0 pc L S n M Q') : X f k0 s0 pc L S n M Q := by
  intro g p l e s m args below meth c H locs ls C hk hP hS hl T hT Z
  obtain ⟨t, a, o, b1, b2, ⟨⟨r, M', c1, c2, c3⟩, c4⟩, b4⟩ := kk g p l e s m args below meth c H locs ls C hk hP hS hl T hT Z
  exact ⟨t, a, o, b1, b2, ⟨⟨r, M', c1, h r M' c2, c3⟩, c4⟩, b4⟩
theorem xat {g : xG} {ls : Array Slot} {nL i : Nat} {v : Value} (hl : lv_has ls nL (xL g L)) (hv : L.lookup i = some v) : ls[i]? = some (.val (xv g v)) := by
  refine hl.2.2 (i, xv g v) (List.mem_map.mpr ⟨(i, v), ?_, rfl⟩)
  revert hv
  clear hl
  induction L with
  | nil => intro hv; cases hv
  | cons a t ih =>
    intro hv
    obtain ⟨a1, a2⟩ := a
    rw [List.lookup_cons] at hv
    split at hv
    · rename_i hb
      rw [Option.some.inj hv, ← eq_of_beq hb]
      exact List.mem_cons_self
    · exact List.mem_cons_of_mem _ (ih hv)
theorem x_iconst {k : Int} {v : Int32} (hd : decode f.2.1 pc = .ok (.iconst k, 1)) (hq : pc + 1 = q) (hv : Int32.ofInt k = v) (kk : X f k0 s0 q L (.int v :: S) n M Q) : X f k0 s0 pc L S n M Q := by
  subst hq
  exact X.lift (fun _ _ _ _ _ _ _ _ _ _ _ _ _ _ _ _ _ hx hb _ k => lv_iconst hx hb hd hv k) kk
theorem x_bipush {k : Int} {v : Int32} (hd : decode f.2.1 pc = .ok (.bipush k, 2)) (hq : pc + 2 = q) (hv : (Int8.ofInt k).toInt32 = v) (kk : X f k0 s0 q L (.int v :: S) n M Q) : X f k0 s0 pc L S n M Q := by
  subst hq
  exact X.lift (fun _ _ _ _ _ _ _ _ _ _ _ _ _ _ _ _ _ hx hb _ k => lv_bipush hx hb hd hv k) kk
theorem x_sipush {k : Int} {v : Int32} (hd : decode f.2.1 pc = .ok (.sipush k, 3)) (hq : pc + 3 = q) (hv : (Int16.ofInt k).toInt32 = v) (kk : X f k0 s0 q L (.int v :: S) n M Q) : X f k0 s0 pc L S n M Q := by
  subst hq
  exact X.lift (fun _ _ _ _ _ _ _ _ _ _ _ _ _ _ _ _ _ hx hb _ k => lv_sipush hx hb hd hv k) kk
theorem x_lconst {k : Fin 2} {v : Int64} (hd : decode f.2.1 pc = .ok (.lconst k, 1)) (hq : pc + 1 = q) (hv : Int64.ofNat (k : Nat) = v) (kk : X f k0 s0 q L (.long v :: S) n M Q) : X f k0 s0 pc L S n M Q := by
  subst hq
  exact X.lift (fun _ _ _ _ _ _ _ _ _ _ _ _ _ _ _ _ _ hx hb _ k => lv_lconst hx hb hd hv k) kk
theorem x_iload_n {k : Fin 4} {v : Int32} (hd : decode f.2.1 pc = .ok (.iload_n k, 1)) (hq : pc + 1 = q) (hv : L.lookup k.val = some (.int v)) (kk : X f k0 s0 q L (.int v :: S) n M Q) : X f k0 s0 pc L S n M Q := by
  subst hq
  exact X.lift (fun _ _ _ _ _ _ _ _ _ _ _ _ _ _ _ _ _ hx hb hl k => lv_iload_n hx hb hd rfl (xat hl hv) k) kk
theorem x_iload {k : Nat} {v : Int32} (hd : decode f.2.1 pc = .ok (.iload k, 2)) (hq : pc + 2 = q) (hv : L.lookup k = some (.int v)) (kk : X f k0 s0 q L (.int v :: S) n M Q) : X f k0 s0 pc L S n M Q := by
  subst hq
  exact X.lift (fun _ _ _ _ _ _ _ _ _ _ _ _ _ _ _ _ _ hx hb hl k => lv_iload hx hb hd (xat hl hv) k) kk
theorem x_lload_n {k : Fin 4} {v : Int64} (hd : decode f.2.1 pc = .ok (.lload_n k, 1)) (hq : pc + 1 = q) (hv : L.lookup k.val = some (.long v)) (kk : X f k0 s0 q L (.long v :: S) n M Q) : X f k0 s0 pc L S n M Q := by
  subst hq
  exact X.lift (fun _ _ _ _ _ _ _ _ _ _ _ _ _ _ _ _ _ hx hb hl k => lv_lload_n hx hb hd rfl (xat hl hv) k) kk
theorem x_lload {k : Nat} {v : Int64} (hd : decode f.2.1 pc = .ok (.lload k, 2)) (hq : pc + 2 = q) (hv : L.lookup k = some (.long v)) (kk : X f k0 s0 q L (.long v :: S) n M Q) : X f k0 s0 pc L S n M Q := by
  subst hq
  exact X.lift (fun _ _ _ _ _ _ _ _ _ _ _ _ _ _ _ _ _ hx hb hl k => lv_lload hx hb hd (xat hl hv) k) kk
theorem x_aload_n {k : Fin 4} {v : Nat} (hd : decode f.2.1 pc = .ok (.aload_n k, 1)) (hq : pc + 1 = q) (hv : L.lookup k.val = some (.ref v)) (kk : X f k0 s0 q L (.ref v :: S) n M Q) : X f k0 s0 pc L S n M Q := by
  subst hq
  exact X.lift (fun _ _ _ _ _ _ _ _ _ _ _ _ _ _ _ _ _ hx hb hl k => lv_aload_n hx hb hd rfl (xat hl hv) k) kk
theorem x_aload_e {k : Fin 4} {v : Nat} (hd : decode f.2.1 pc = .ok (.aload_n k, 1)) (hq : pc + 1 = q) (hv : L.lookup k.val = some (.retAddr v)) (kk : X f k0 s0 q L (.retAddr v :: S) n M Q) : X f k0 s0 pc L S n M Q := by
  subst hq
  exact X.lift (fun _ _ _ _ _ _ _ _ _ _ _ _ _ _ _ _ _ hx hb hl k => lv_aload_n hx hb hd rfl (xat hl hv) k) kk
theorem x_goto {off : Int} (hd : decode f.2.1 pc = .ok (.goto off, 3)) (hq : (pc : Int) + off = (q : Int)) (kk : X f k0 s0 q L S n M Q) : X f k0 s0 pc L S n M Q :=
  X.lift (fun _ _ _ _ _ _ _ _ _ _ _ _ _ _ _ _ _ hx hb _ k => lv_goto hx hb hd hq k) kk
end XR
