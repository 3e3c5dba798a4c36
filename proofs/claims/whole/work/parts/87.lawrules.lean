/-! ===== the law's own walk: as X, but the state stays fixed, and the script lies at the address 26 ===== -/
def yCtx (f : xM) (g : xG) (p : Program) (s : State) (m : MethodId) (args : Array Value) (c : Code) (N : Nat) (xs : Nat → Int32) : Prop :=
  p.tables.exec = Jvm.exec ∧ c.code = f.2.1 ∧ c.maxLocals = f.2.2.1 ∧ s.vm.findClass f.1.cls = some m.cls ∧ (∀ w ∈ f.2.2.2.2.1, w.before args s = true) ∧ va_K g.2.2.2 vwCl (xtys g.2.2.1) s ∧ xX g s ∧ g.1 ≤ s.heap.size ∧ va_X (g.2.1 26) N xs s s.heap ∧ g.2.1 26 < g.1
def LW (f : xM) (g : xG) (p : Program) (l : Launch) (e : Env) (s : State) (m : MethodId) (args : Array Value) (below : List Frame) (meth : Method) (c : Code) (Qz : State → Prop) (k0 s0 pc : Nat) (L : List (Nat × Value)) (S : List Value) (n : Nat) (M : Nat → xE) : Prop :=
  ∀ (H : Heap) (locs : List Loc) (ls : Array Slot), s.heap.size + k0 = g.1 + n → va_P g.2.2.2 vwCl (xW g n M) H → va_S (xA g) s.heap H locs → lv_has ls f.2.2.1 (xL g L) →
    W p l e f.2.2.2.2.2 s m args below meth c H locs k0 s0 Qz (F0 m pc ls (S.map (xv g)))
section YR
variable {f : xM} {g : xG} {p : Program} {l : Launch} {e : Env} {s : State} {m : MethodId} {args : Array Value} {below : List Frame} {meth : Method} {c : Code} {Qz : State → Prop} {N : Nat} {xs : Nat → Int32} {k0 s0 pc q n : Nat} {L : List (Nat × Value)} {S : List Value} {M : Nat → xE}
theorem y_iconst {k : Int} {v : Int32} (C : yCtx f g p s m args c N xs) (hd : decode f.2.1 pc = .ok (.iconst k, 1)) (hv : Int32.ofInt k = v) (hq : pc + 1 = q) (kk : LW f g p l e s m args below meth c Qz k0 s0 q L (.int v :: S) n M) : LW f g p l e s m args below meth c Qz k0 s0 pc L (S) n M := by
  subst hq
  intro H locs ls hk hP hS hl
  exact lv_iconst C.1 C.2.1 hd hv (kk H locs ls hk hP hS hl)
theorem y_bipush {k : Int} {v : Int32} (C : yCtx f g p s m args c N xs) (hd : decode f.2.1 pc = .ok (.bipush k, 2)) (hv : (Int8.ofInt k).toInt32 = v) (hq : pc + 2 = q) (kk : LW f g p l e s m args below meth c Qz k0 s0 q L (.int v :: S) n M) : LW f g p l e s m args below meth c Qz k0 s0 pc L (S) n M := by
  subst hq
  intro H locs ls hk hP hS hl
  exact lv_bipush C.1 C.2.1 hd hv (kk H locs ls hk hP hS hl)
theorem y_iload {k : Fin 4} {v : Int32} (C : yCtx f g p s m args c N xs) (hd : decode f.2.1 pc = .ok (.iload_n k, 1)) (hv : L.lookup k.val = some (.int v)) (hq : pc + 1 = q) (kk : LW f g p l e s m args below meth c Qz k0 s0 q L (.int v :: S) n M) : LW f g p l e s m args below meth c Qz k0 s0 pc L (S) n M := by
  subst hq
  intro H locs ls hk hP hS hl
  exact lv_iload_n C.1 C.2.1 hd rfl (xat hl hv) (kk H locs ls hk hP hS hl)
theorem y_aload {k : Fin 4} {v : Nat} (C : yCtx f g p s m args c N xs) (hd : decode f.2.1 pc = .ok (.aload_n k, 1)) (hv : L.lookup k.val = some (.ref v)) (hq : pc + 1 = q) (kk : LW f g p l e s m args below meth c Qz k0 s0 q L (.ref v :: S) n M) : LW f g p l e s m args below meth c Qz k0 s0 pc L (S) n M := by
  subst hq
  intro H locs ls hk hP hS hl
  exact lv_aload_n C.1 C.2.1 hd rfl (xat hl hv) (kk H locs ls hk hP hS hl)
theorem y_aloade {k : Fin 4} {v : Nat} (C : yCtx f g p s m args c N xs) (hd : decode f.2.1 pc = .ok (.aload_n k, 1)) (hv : L.lookup k.val = some (.retAddr v)) (hq : pc + 1 = q) (kk : LW f g p l e s m args below meth c Qz k0 s0 q L (.retAddr v :: S) n M) : LW f g p l e s m args below meth c Qz k0 s0 pc L (S) n M := by
  subst hq
  intro H locs ls hk hP hS hl
  exact lv_aload_n C.1 C.2.1 hd rfl (xat hl hv) (kk H locs ls hk hP hS hl)
theorem y_iadd {x y : Int32} (C : yCtx f g p s m args c N xs) (hd : decode f.2.1 pc = .ok (.iadd, 1)) (hq : pc + 1 = q) (kk : LW f g p l e s m args below meth c Qz k0 s0 q L (.int (x + y) :: S) n M) : LW f g p l e s m args below meth c Qz k0 s0 pc L (.int y :: .int x :: S) n M := by
  subst hq
  intro H locs ls hk hP hS hl
  exact lv_iadd C.1 C.2.1 hd (kk H locs ls hk hP hS hl)
theorem y_isub {x y : Int32} (C : yCtx f g p s m args c N xs) (hd : decode f.2.1 pc = .ok (.isub, 1)) (hq : pc + 1 = q) (kk : LW f g p l e s m args below meth c Qz k0 s0 q L (.int (x - y) :: S) n M) : LW f g p l e s m args below meth c Qz k0 s0 pc L (.int y :: .int x :: S) n M := by
  subst hq
  intro H locs ls hk hP hS hl
  exact lv_isub C.1 C.2.1 hd (kk H locs ls hk hP hS hl)
theorem y_iand {x y : Int32} (C : yCtx f g p s m args c N xs) (hd : decode f.2.1 pc = .ok (.iand, 1)) (hq : pc + 1 = q) (kk : LW f g p l e s m args below meth c Qz k0 s0 q L (.int (x &&& y) :: S) n M) : LW f g p l e s m args below meth c Qz k0 s0 pc L (.int y :: .int x :: S) n M := by
  subst hq
  intro H locs ls hk hP hS hl
  exact lv_iand C.1 C.2.1 hd (kk H locs ls hk hP hS hl)
theorem y_lcmp {x y : Int64} (C : yCtx f g p s m args c N xs) (hd : decode f.2.1 pc = .ok (.lcmp, 1)) (hq : pc + 1 = q) (kk : LW f g p l e s m args below meth c Qz k0 s0 q L (.int (lg_cmp x y) :: S) n M) : LW f g p l e s m args below meth c Qz k0 s0 pc L (.long y :: .long x :: S) n M := by
  subst hq
  intro H locs ls hk hP hS hl
  exact W.lcmp C.1 C.2.1 hd (kk H locs ls hk hP hS hl)
theorem y_dup {a : Nat} (C : yCtx f g p s m args c N xs) (hd : decode f.2.1 pc = .ok (.dup, 1)) (hq : pc + 1 = q) (kk : LW f g p l e s m args below meth c Qz k0 s0 q L (.ref a :: .ref a :: S) n M) : LW f g p l e s m args below meth c Qz k0 s0 pc L (.ref a :: S) n M := by
  subst hq
  intro H locs ls hk hP hS hl
  exact lv_dup C.1 C.2.1 hd rfl (kk H locs ls hk hP hS hl)
theorem y_len  (C : yCtx f g p s m args c N xs) (hd : decode f.2.1 pc = .ok (.arraylength, 1)) (hq : pc + 1 = q) (kk : LW f g p l e s m args below meth c Qz k0 s0 q L (.int (Int32.ofNat N) :: S) n M) : LW f g p l e s m args below meth c Qz k0 s0 pc L (.retAddr 26 :: S) n M := by
  subst hq
  intro H locs ls hk hP hS hl
  exact va_slen C.1 C.2.1 C.2.2.2.2.2.2.2.2.1 (Nat.lt_of_lt_of_le C.2.2.2.2.2.2.2.2.2 C.2.2.2.2.2.2.2.1) (Nat.not_le.mpr C.2.2.2.2.2.2.2.2.2) hS hd (kk H locs ls hk hP hS hl)
theorem y_sld {i : Int32} (hi : vp_in i N) (C : yCtx f g p s m args c N xs) (hd : decode f.2.1 pc = .ok (.iaload, 1)) (hq : pc + 1 = q) (kk : LW f g p l e s m args below meth c Qz k0 s0 q L (.int (xs i.toNatClampNeg) :: S) n M) : LW f g p l e s m args below meth c Qz k0 s0 pc L (.int i :: .retAddr 26 :: S) n M := by
  subst hq
  intro H locs ls hk hP hS hl
  exact va_sld C.1 C.2.1 C.2.2.2.2.2.2.2.2.1 (Nat.lt_of_lt_of_le C.2.2.2.2.2.2.2.2.2 C.2.2.2.2.2.2.2.1) (Nat.not_le.mpr C.2.2.2.2.2.2.2.2.2) hS hi hd (kk H locs ls hk hP hS hl)
theorem y_goto {off : Int} (C : yCtx f g p s m args c N xs) (hd : decode f.2.1 pc = .ok (.goto off, 3)) (hq : (pc : Int) + off = (q : Int)) (kk : LW f g p l e s m args below meth c Qz k0 s0 q L S n M) : LW f g p l e s m args below meth c Qz k0 s0 pc L S n M := by
  intro H locs ls hk hP hS hl
  exact lv_goto C.1 C.2.1 hd hq (kk H locs ls hk hP hS hl)
theorem y_tableOut {dflt lo hi : Int} {offs : Array Int} {len t : Nat} {x : Int32} (C : yCtx f g p s m args c N xs) (hd : decode f.2.1 pc = .ok (.tableswitch dflt lo hi offs, len)) (h : x.toInt < lo ∨ hi < x.toInt) (ht : (pc : Int) + dflt = (t : Int)) (kk : LW f g p l e s m args below meth c Qz k0 s0 t L S n M) : LW f g p l e s m args below meth c Qz k0 s0 pc L (.int x :: S) n M := by
  intro H locs ls hk hP hS hl
  exact lv_tableOut C.1 C.2.1 hd h ht (kk H locs ls hk hP hS hl)
theorem y_tableIn {dflt lo hi off : Int} {offs : Array Int} {len t : Nat} {x : Int32} (C : yCtx f g p s m args c N xs) (hd : decode f.2.1 pc = .ok (.tableswitch dflt lo hi offs, len)) (h1 : ¬ x.toInt < lo) (h2 : ¬ hi < x.toInt) (ho : offs[(x.toInt - lo).toNat]? = some off) (ht : (pc : Int) + off = (t : Int)) (kk : LW f g p l e s m args below meth c Qz k0 s0 t L S n M) : LW f g p l e s m args below meth c Qz k0 s0 pc L (.int x :: S) n M := by
  intro H locs ls hk hP hS hl
  exact lv_tableIn C.1 C.2.1 hd h1 h2 ho ht (kk H locs ls hk hP hS hl)
theorem y_icmp_eq {x : Int32} {off : Int} {t : Nat} (C : yCtx f g p s m args c N xs) (hd : decode f.2.1 pc = .ok (.if_icmp .eq off, 3)) (ht : (pc : Int) + off = (t : Int)) (kk : LW f g p l e s m args below meth c Qz k0 s0 t L S n M) : LW f g p l e s m args below meth c Qz k0 s0 pc L (.int x :: .int x :: S) n M := by
  intro H locs ls hk hP hS hl
  exact lv_icmp_eq C.1 C.2.1 hd ht (fun _ => kk H locs ls hk hP hS hl) (fun h => absurd rfl h)
theorem y_icmp_gt {x y : Int32} {off : Int} {t : Nat} (C : yCtx f g p s m args c N xs) (hd : decode f.2.1 pc = .ok (.if_icmp .gt off, 3)) (ht : (pc : Int) + off = (t : Int)) (hq : pc + 3 = q) (kt : y < x → LW f g p l e s m args below meth c Qz k0 s0 t L S n M) (kf : ¬ y < x → LW f g p l e s m args below meth c Qz k0 s0 q L S n M) : LW f g p l e s m args below meth c Qz k0 s0 pc L (.int y :: .int x :: S) n M := by
  subst hq
  intro H locs ls hk hP hS hl
  exact lv_icmp_gt C.1 C.2.1 hd ht (fun h => kt h H locs ls hk hP hS hl) (fun h => kf h H locs ls hk hP hS hl)
theorem y_if_eq {off : Int} {t : Nat} (C : yCtx f g p s m args c N xs) (hd : decode f.2.1 pc = .ok (.ifCond .eq off, 3)) (ht : (pc : Int) + off = (t : Int)) (kk : LW f g p l e s m args below meth c Qz k0 s0 t L S n M) : LW f g p l e s m args below meth c Qz k0 s0 pc L (.int 0 :: S) n M := by
  intro H locs ls hk hP hS hl
  exact lv_if_eq C.1 C.2.1 hd ht (fun _ => kk H locs ls hk hP hS hl) (fun h => absurd rfl h)
theorem y_istore {i : Fin 4} {x : Int32} {L' : List (Nat × Value)} (C : yCtx f g p s m args c N xs) (hd : decode f.2.1 pc = .ok (.istore_n i, 1)) (hq : pc + 1 = q) (hn : (i : Nat) < f.2.2.1) (hL : xst i (.int x) L = L') (kk : LW f g p l e s m args below meth c Qz k0 s0 q L' S n M) : LW f g p l e s m args below meth c Qz k0 s0 pc L (.int x :: S) n M := by
  subst hq
  intro H locs ls hk hP hS hl
  exact lv_istore_n C.1 C.2.1 hd rfl hl hn (xst_g g i (.int x) L) (fun ls' hl' => kk H locs ls' hk hP hS (by rw [hL] at hl'; exact hl'))
theorem y_astore {i : Fin 4} {x : Nat} {L' : List (Nat × Value)} (C : yCtx f g p s m args c N xs) (hd : decode f.2.1 pc = .ok (.astore_n i, 1)) (hq : pc + 1 = q) (hn : (i : Nat) < f.2.2.1) (hL : xst i (.ref x) L = L') (kk : LW f g p l e s m args below meth c Qz k0 s0 q L' S n M) : LW f g p l e s m args below meth c Qz k0 s0 pc L (.ref x :: S) n M := by
  subst hq
  intro H locs ls hk hP hS hl
  exact lv_astore_n C.1 C.2.1 hd rfl hl hn (xst_g g i (.ref x) L) (fun ls' hl' => kk H locs ls' hk hP hS (by rw [hL] at hl'; exact hl'))
theorem y_iinc {i : Nat} {k : Int} {x : Int32} {L' : List (Nat × Value)} (C : yCtx f g p s m args c N xs) (hd : decode f.2.1 pc = .ok (.iinc i k, 3)) (hq : pc + 3 = q) (hv : L.lookup i = some (.int x)) (hn : i < f.2.2.1) (hL : xst i (.int (x + Int32.ofInt k)) L = L') (kk : LW f g p l e s m args below meth c Qz k0 s0 q L' S n M) : LW f g p l e s m args below meth c Qz k0 s0 pc L S n M := by
  subst hq
  intro H locs ls hk hP hS hl
  have hin : (i, Value.int x) ∈ xL g L := by
    refine List.mem_map.mpr ⟨(i, .int x), ?_, rfl⟩
    revert hv
    clear hl hL kk
    induction L with
    | nil => intro hv; cases hv
    | cons a t ih =>
      intro hv
      obtain ⟨a1, a2⟩ := a
      rw [List.lookup_cons] at hv
      split at hv
      · rename_i hb
        rw [Option.some.inj hv, ← eq_of_beq hb]
        exact List.mem_cons_self
      · exact List.mem_cons_of_mem _ (ih hv)
  obtain ⟨j, hj⟩ := List.getElem?_of_mem hin
  exact lv_iinc C.1 C.2.1 hd hl hj rfl hn (xst_g g i (.int (x + Int32.ofInt k)) L) (fun ls' hl' => kk H locs ls' hk hP hS (by rw [hL] at hl'; exact hl'))
theorem yPost {H : Heap} {locs : List Loc} {as : List Value} (C : yCtx f g p s m args c N xs) (hH : H.size = g.1 + n) (hP : va_P g.2.2.2 vwCl (xW g n M) H) (hS : va_S (xA g) s.heap H locs) :
    ∀ U : State, U.heap = H → s.WarmedH U.vm → va_Pc (as.map (xv g)) (fun U => U.heap.size = g.1 + n ∧ va_P g.2.2.2 vwCl (xW g n M) U.heap ∧ va_K g.2.2.2 vwCl (xtys g.2.2.1) U ∧ xX g U) (as.map (xv g)).toArray U :=
  fun U hU hW => ⟨rfl, by rw [hU]; exact hH, by rw [hU]; exact hP, va_K.moved hW.alike C.2.2.2.2.2.1, C.2.2.2.2.2.2.1.warm hW C.2.2.2.2.2.2.2.1 (by rw [hU]; exact hS)⟩
theorem y_callV {h : xM} {index na b ci : Nat} {As rest fs : List Value} {rC : vw_C} {Q1 : Option Value → (Nat → xE) → Prop} (C : yCtx f g p s m args c N xs) (hM1 : xMet h (.ref b :: As) n M Q1) (hE : xEdge f h index na) (hG : GoodIn f.2.2.2.2.1 (wsV f.1.cls index h.1.cls h.1 h.2.2.2.2.1)) (hb : M b = .inr (ci, fs)) (hbn : b < n) (hc : vwCl[ci]? = some rC) (hrC : rC.1 = h.1.cls) (hAs : As.length = na) (hst : (rest.map fun v => v.category).sum ≤ 8) (hcs : k0 + h.2.2.2.2.2.cells ≤ f.2.2.2.2.2.cells ∧ s0 + h.2.2.2.2.2.slots ≤ f.2.2.2.2.2.slots) (hd : decode f.2.1 pc = .ok (.invokevirtual index, 3)) (hq : pc + 3 = q) (hSt : S = As.reverse ++ .ref b :: rest)
    (kk : ∀ r M', Q1 r M' → LW f g p l e s m args below meth c Qz (k0 + h.2.2.2.2.2.cells) (s0 + h.2.2.2.2.2.slots) q L (r.toList ++ rest) (n + h.2.2.2.2.2.cells) M') : LW f g p l e s m args below meth c Qz k0 s0 pc L S n M := by
  subst hq
  subst hSt
  intro H locs ls hk hP hS hl
  obtain ⟨hE1, hE2, ws', hE3⟩ := hE
  refine xsize C.2.2.2.2.2.2.2.1 hk hP hS fun hH => ?_
  have hr := va_runV (locs := locs) (below := below) (meth := meth) (e := e) (cells := k0) (slots := s0) (g := F0 m pc ls ((As.reverse ++ .ref b :: rest).map (xv g))) (As := As.map (xv g)) (rest := rest.map (xv g)) (b := g.1 + b) (H := H) ⟨C.1, C.2.1, C.2.2.1, C.2.2.2.1, C.2.2.2.2.1⟩ (hM1 l g) (cwV na C.2.2.2.2.1 hG hE3 rfl rfl ⟨rfl, hE1⟩ hE2) ⟨xPre (h := h) (Q1 := Q1) (l := l), by rw [← hrC]; exact va_recv C.2.2.2.2.2.1 hP hc (xWi hbn hb), yPost C hH hP hS⟩ rfl (by rw [List.length_map]; exact hAs) hl.1 (by simp [xv]) (by rw [xcats]; exact lv_room hst) hd hcs
  refine x_after hr hS hH fun r M' H1 locs1 hQ1 hP1 hS1 => ?_
  have h9 := kk r M' hQ1 H1 locs1 ls (by omega) hP1 hS1 hl
  have e9 : (r.toList ++ rest).map (xv g) = (r.map (xv g)).toList ++ rest.map (xv g) := by
    rw [List.map_append]
    cases r <;> rfl
  rw [e9] at h9
  exact h9
theorem y_callI {h : xM} {index na b : Nat} {As rest : List Value} {Q1 : Option Value → (Nat → xE) → Prop} (C : yCtx f g p s m args c N xs) (hM1 : xMet h (.ref b :: As) n M Q1) (hE : xEdge f h index na) (hret : h.2.2.2.1 = none) (hG : GoodIn f.2.2.2.2.1 h.2.2.2.2.1) (hini : Cond.initialized h.1.cls ∈ f.2.2.2.2.1) (hlk : Cond.methodLink f.1.cls index h.1 ∈ f.2.2.2.2.1) (hinst : Cond.instanceMethod h.1 ∈ f.2.2.2.2.1) (hy : h.1.name = "<init>") (hAs : As.length = na) (hst : (rest.map fun v => v.category).sum ≤ 8) (hcs : k0 + h.2.2.2.2.2.cells ≤ f.2.2.2.2.2.cells ∧ s0 + h.2.2.2.2.2.slots ≤ f.2.2.2.2.2.slots) (hd : decode f.2.1 pc = .ok (.invokespecial index, 3)) (hq : pc + 3 = q) (hSt : S = As.reverse ++ .ref b :: rest)
    (kk : ∀ r M', Q1 r M' → LW f g p l e s m args below meth c Qz (k0 + h.2.2.2.2.2.cells) (s0 + h.2.2.2.2.2.slots) q L (r.toList ++ rest) (n + h.2.2.2.2.2.cells) M') : LW f g p l e s m args below meth c Qz k0 s0 pc L S n M := by
  subst hq
  subst hSt
  intro H locs ls hk hP hS hl
  obtain ⟨hE1, hE2, ws', hE3⟩ := hE
  rw [hret] at hE3
  refine xsize C.2.2.2.2.2.2.2.1 hk hP hS fun hH => ?_
  have hts := C.2.2.2.2.1
  have hr := va_runI (locs := locs) (below := below) (meth := meth) (e := e) (cells := k0) (slots := s0) (g := F0 m pc ls ((As.reverse ++ .ref b :: rest).map (xv g))) (As := As.map (xv g)) (rest := rest.map (xv g)) (b := g.1 + b) (H := H) ⟨C.1, C.2.1, C.2.2.1, C.2.2.2.1, C.2.2.2.2.1⟩ (hM1 l g) (cwI na hts hG hE3 rfl rfl (hts _ hini) (hts _ hlk) (hts _ hinst) hy hE1 hE2) ⟨xPre (h := h) (Q1 := Q1) (l := l), yPost C hH hP hS⟩ rfl (by rw [List.length_map]; exact hAs) hl.1 (by simp [xv]) (by rw [xcats]; exact lv_room hst) hd hcs
  refine x_after hr hS hH fun r M' H1 locs1 hQ1 hP1 hS1 => ?_
  have h9 := kk r M' hQ1 H1 locs1 ls (by omega) hP1 hS1 hl
  have e9 : (r.toList ++ rest).map (xv g) = (r.map (xv g)).toList ++ rest.map (xv g) := by
    rw [List.map_append]
    cases r <;> rfl
  rw [e9] at h9
  exact h9
theorem y_new {Cn : String} {T : u_T} {Nf ci index : Nat} {ty : Nat → FieldType} {fs : List Value} (C : yCtx f g p s m args c N xs) (hty : ∀ k, k < Nf → parseFieldDescriptor (T k).2.2.1 = some (ty k)) (hc : vwCl[ci]? = some (Cn, T, Nf)) (hin : ∀ w ∈ u_ws Cn T Nf, w ∈ f.2.2.2.2.1) (w1 : Cond.classLink f.1.cls index Cn ∈ f.2.2.2.2.1) (w2 : Cond.instantiable Cn Nf ∈ f.2.2.2.2.1) (w3 : Cond.initialized Cn ∈ f.2.2.2.2.1) (hfs : ∀ g, ∀ j, j < Nf → defaultValue (ty j) = vp_V (fs.map (xv g)) j) (hcs : k0 + 1 ≤ f.2.2.2.2.2.cells ∧ s0 + Nf ≤ f.2.2.2.2.2.slots) (hd : decode f.2.1 pc = .ok (.new index, 3)) (hq : pc + 3 = q)
    (kk : ∀ M' : Nat → xE, M' n = .inr (ci, fs) → (∀ j, j ≠ n → M' j = M j) → LW f g p l e s m args below meth c Qz (k0 + 1) (s0 + Nf) q L (.ref n :: S) (n + 1) M') : LW f g p l e s m args below meth c Qz k0 s0 pc L S n M := by
  subst hq
  intro H locs ls hk hP hS hl
  have hts := C.2.2.2.2.1
  have hgs := C.2.2.2.2.2.2.2.1
  refine xsize hgs hk hP hS fun hH => ?_
  have hKn := C.2.2.2.2.2.1.1 ci _ hc
  refine W.newcK (R := f.2.2.2.2.2) C.1 C.2.1 C.2.2.2.1 (hts _ w1) (hts _ w2) (hts _ w3) rfl hd hcs.1 hcs.2 hKn.2.1 hH fun H1 kC hkC e1 z1 o1 => ?_
  have hk9 : ∀ (k : Nat) (x : Nat × va_E), (xW g n M)[k]? = some x → H1[x.1]? = H[x.1]? := fun k x hx => o1 x.1 (by rw [← hH]; exact (hP k x hx).lt)
  refine kk (xup M n (.inr (ci, fs))) (xup_s _ _ _) (fun j h => xup_n _ _ _ _ h) H1 locs ls (by omega) ?_ ⟨Nat.le_trans hS.1 (by omega), fun x h1 h2 => (o1 x (by have := hS.1; omega)).trans (hS.2.1 x h1 h2), hS.2.2⟩ hl
  rw [← xW_push]
  refine (hP.kept hk9).app (fun k x hx => ?_)
  have hz : k < 1 := (List.getElem?_eq_some_iff.mp hx).1
  rw [show k = 0 by omega] at hx
  cases hx
  exact ⟨_, hc, (u_born ty hts hin hKn hkC e1 hty).to (hfs g)⟩
theorem y_arg {i : Nat} {k : Nat} {kz : Int} (C : yCtx f g p s m args c N xs) (hi : i + k < N) (hN : N ≤ 256) (h0 : L.lookup 0 = some (.retAddr 26)) (h3 : L.lookup 3 = some (.int (nI i))) (hkz : Int32.ofInt kz = nI k) (d0 : decode f.2.1 pc = .ok (.aload_n 0, 1)) (d1 : decode f.2.1 (pc + 1) = .ok (.iload_n 3, 1)) (d2 : decode f.2.1 (pc + 2) = .ok (.iconst kz, 1)) (d3 : decode f.2.1 (pc + 3) = .ok (.iadd, 1)) (d4 : decode f.2.1 (pc + 4) = .ok (.iaload, 1)) (hq : pc + 5 = q) (kk : LW f g p l e s m args below meth c Qz k0 s0 q L (.int (xs (i + k)) :: S) n M) : LW f g p l e s m args below meth c Qz k0 s0 pc L S n M := by
  subst hq
  refine y_aloade (k := 0) C d0 h0 rfl ?_
  refine y_iload (k := 3) C d1 h3 rfl ?_
  refine y_iconst C d2 hkz rfl ?_
  refine y_iadd C d3 rfl ?_
  rw [nI_add]
  refine y_sld (vp_in_nI hi (by omega)) C d4 rfl ?_
  rw [nI_clamp (by omega)]
  exact kk
end YR
