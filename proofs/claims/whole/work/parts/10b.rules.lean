section XR2
variable {f : xM} {k0 s0 pc q n : Nat} {L : List (Nat × Value)} {S : List Value} {M : Nat → xE} {Q : Option Value → (Nat → xE) → Prop}
theorem x_iadd {x y : Int32} (hd : decode f.2.1 pc = .ok (.iadd, 1)) (hq : pc + 1 = q) (kk : X f k0 s0 q L (.int (x + y) :: S) n M Q) : X f k0 s0 pc L (.int y :: .int x :: S) n M Q := by
  subst hq
  exact X.lift (fun _ _ _ _ _ _ _ _ _ _ _ _ _ _ _ _ _ hx hb _ k => lv_iadd hx hb hd k) kk
theorem x_isub {x y : Int32} (hd : decode f.2.1 pc = .ok (.isub, 1)) (hq : pc + 1 = q) (kk : X f k0 s0 q L (.int (x - y) :: S) n M Q) : X f k0 s0 pc L (.int y :: .int x :: S) n M Q := by
  subst hq
  exact X.lift (fun _ _ _ _ _ _ _ _ _ _ _ _ _ _ _ _ _ hx hb _ k => lv_isub hx hb hd k) kk
theorem x_imul {x y : Int32} (hd : decode f.2.1 pc = .ok (.imul, 1)) (hq : pc + 1 = q) (kk : X f k0 s0 q L (.int (x * y) :: S) n M Q) : X f k0 s0 pc L (.int y :: .int x :: S) n M Q := by
  subst hq
  exact X.lift (fun _ _ _ _ _ _ _ _ _ _ _ _ _ _ _ _ _ hx hb _ k => lv_imul hx hb hd k) kk
theorem x_iand {x y : Int32} (hd : decode f.2.1 pc = .ok (.iand, 1)) (hq : pc + 1 = q) (kk : X f k0 s0 q L (.int (x &&& y) :: S) n M Q) : X f k0 s0 pc L (.int y :: .int x :: S) n M Q := by
  subst hq
  exact X.lift (fun _ _ _ _ _ _ _ _ _ _ _ _ _ _ _ _ _ hx hb _ k => lv_iand hx hb hd k) kk
theorem x_ior {x y : Int32} (hd : decode f.2.1 pc = .ok (.ior, 1)) (hq : pc + 1 = q) (kk : X f k0 s0 q L (.int (x ||| y) :: S) n M Q) : X f k0 s0 pc L (.int y :: .int x :: S) n M Q := by
  subst hq
  exact X.lift (fun _ _ _ _ _ _ _ _ _ _ _ _ _ _ _ _ _ hx hb _ k => lv_ior hx hb hd k) kk
theorem x_ixor {x y : Int32} (hd : decode f.2.1 pc = .ok (.ixor, 1)) (hq : pc + 1 = q) (kk : X f k0 s0 q L (.int (x ^^^ y) :: S) n M Q) : X f k0 s0 pc L (.int y :: .int x :: S) n M Q := by
  subst hq
  exact X.lift (fun _ _ _ _ _ _ _ _ _ _ _ _ _ _ _ _ _ hx hb _ k => lv_ixor hx hb hd k) kk
theorem x_ishl {x y : Int32} (hd : decode f.2.1 pc = .ok (.ishl, 1)) (hq : pc + 1 = q) (kk : X f k0 s0 q L (.int (x <<< (y &&& 31)) :: S) n M Q) : X f k0 s0 pc L (.int y :: .int x :: S) n M Q := by
  subst hq
  exact X.lift (fun _ _ _ _ _ _ _ _ _ _ _ _ _ _ _ _ _ hx hb _ k => lv_ishl hx hb hd k) kk
theorem x_ishr {x y : Int32} (hd : decode f.2.1 pc = .ok (.ishr, 1)) (hq : pc + 1 = q) (kk : X f k0 s0 q L (.int (x >>> (y &&& 31)) :: S) n M Q) : X f k0 s0 pc L (.int y :: .int x :: S) n M Q := by
  subst hq
  exact X.lift (fun _ _ _ _ _ _ _ _ _ _ _ _ _ _ _ _ _ hx hb _ k => lv_ishr hx hb hd k) kk
theorem x_idiv {x y : Int32} (hd : decode f.2.1 pc = .ok (.idiv, 1)) (hq : pc + 1 = q) (hne : ¬ y = 0) (kk : X f k0 s0 q L (.int (x / y) :: S) n M Q) : X f k0 s0 pc L (.int y :: .int x :: S) n M Q := by
  subst hq
  exact X.lift (fun _ _ _ _ _ _ _ _ _ _ _ _ _ _ _ _ _ hx hb _ k => lv_idiv hx hb hd hne k) kk
theorem x_irem {x y : Int32} (hd : decode f.2.1 pc = .ok (.irem, 1)) (hq : pc + 1 = q) (hne : ¬ y = 0) (kk : X f k0 s0 q L (.int (x - x / y * y) :: S) n M Q) : X f k0 s0 pc L (.int y :: .int x :: S) n M Q := by
  subst hq
  exact X.lift (fun _ _ _ _ _ _ _ _ _ _ _ _ _ _ _ _ _ hx hb _ k => lv_irem hx hb hd hne k) kk
theorem x_ladd {x y : Int64} (hd : decode f.2.1 pc = .ok (.ladd, 1)) (hq : pc + 1 = q) (kk : X f k0 s0 q L (.long (x + y) :: S) n M Q) : X f k0 s0 pc L (.long y :: .long x :: S) n M Q := by
  subst hq
  exact X.lift (fun _ _ _ _ _ _ _ _ _ _ _ _ _ _ _ _ _ hx hb _ k => lv_ladd hx hb hd k) kk
theorem x_lmul {x y : Int64} (hd : decode f.2.1 pc = .ok (.lmul, 1)) (hq : pc + 1 = q) (kk : X f k0 s0 q L (.long (x * y) :: S) n M Q) : X f k0 s0 pc L (.long y :: .long x :: S) n M Q := by
  subst hq
  exact X.lift (fun _ _ _ _ _ _ _ _ _ _ _ _ _ _ _ _ _ hx hb _ k => lv_lmul hx hb hd k) kk
theorem x_lsub {x y : Int64} (hd : decode f.2.1 pc = .ok (.lsub, 1)) (hq : pc + 1 = q) (kk : X f k0 s0 q L (.long (x - y) :: S) n M Q) : X f k0 s0 pc L (.long y :: .long x :: S) n M Q := by
  subst hq
  exact X.lift (fun _ _ _ _ _ _ _ _ _ _ _ _ _ _ _ _ _ hx hb _ k => lv_lsub hx hb hd k) kk
theorem x_ldiv {x y : Int64} (hd : decode f.2.1 pc = .ok (.ldiv, 1)) (hq : pc + 1 = q) (hne : ¬ y = 0) (kk : X f k0 s0 q L (.long (x / y) :: S) n M Q) : X f k0 s0 pc L (.long y :: .long x :: S) n M Q := by
  subst hq
  exact X.lift (fun _ _ _ _ _ _ _ _ _ _ _ _ _ _ _ _ _ hx hb _ k => lv_ldiv hx hb hd hne k) kk
theorem x_lrem {x y : Int64} (hd : decode f.2.1 pc = .ok (.lrem, 1)) (hq : pc + 1 = q) (hne : ¬ y = 0) (kk : X f k0 s0 q L (.long (x - x / y * y) :: S) n M Q) : X f k0 s0 pc L (.long y :: .long x :: S) n M Q := by
  subst hq
  exact X.lift (fun _ _ _ _ _ _ _ _ _ _ _ _ _ _ _ _ _ hx hb _ k => lv_lrem hx hb hd hne k) kk
theorem x_ineg {x : Int32} (hd : decode f.2.1 pc = .ok (.ineg, 1)) (hq : pc + 1 = q) (kk : X f k0 s0 q L (.int (-x) :: S) n M Q) : X f k0 s0 pc L (.int x :: S) n M Q := by
  subst hq
  exact X.lift (fun _ _ _ _ _ _ _ _ _ _ _ _ _ _ _ _ _ hx hb _ k => lv_ineg hx hb hd k) kk
theorem x_iushr {x y v : Int32} (hd : decode f.2.1 pc = .ok (.iushr, 1)) (hq : pc + 1 = q) (hv : (x.toUInt32 >>> (y.toUInt32 &&& Int32.toUInt32 31)).toInt32 = v) (kk : X f k0 s0 q L (.int v :: S) n M Q) : X f k0 s0 pc L (.int y :: .int x :: S) n M Q := by
  subst hq
  exact X.lift (fun _ _ _ _ _ _ _ _ _ _ _ _ _ _ _ _ _ hx hb _ k => lv_iushr hx hb hd hv k) kk
theorem x_i2l {x : Int32} (hd : decode f.2.1 pc = .ok (.i2l, 1)) (hq : pc + 1 = q) (kk : X f k0 s0 q L (.long x.toInt64 :: S) n M Q) : X f k0 s0 pc L (.int x :: S) n M Q := by
  subst hq
  exact X.lift (fun _ _ _ _ _ _ _ _ _ _ _ _ _ _ _ _ _ hx hb _ k => lv_i2l hx hb hd rfl k) kk
theorem x_i2c {x v : Int32} (hd : decode f.2.1 pc = .ok (.i2c, 1)) (hq : pc + 1 = q) (hv : (x.toUInt32 % 65536).toInt32 = v) (kk : X f k0 s0 q L (.int v :: S) n M Q) : X f k0 s0 pc L (.int x :: S) n M Q := by
  subst hq
  exact X.lift (fun _ _ _ _ _ _ _ _ _ _ _ _ _ _ _ _ _ hx hb _ k => lv_i2c hx hb hd hv k) kk
theorem x_lcmp {x y : Int64} (hd : decode f.2.1 pc = .ok (.lcmp, 1)) (hq : pc + 1 = q) (kk : X f k0 s0 q L (.int (lg_cmp x y) :: S) n M Q) : X f k0 s0 pc L (.long y :: .long x :: S) n M Q := by
  subst hq
  exact X.lift (fun _ _ _ _ _ _ _ _ _ _ _ _ _ _ _ _ _ hx hb _ k => W.lcmp hx hb hd k) kk
theorem x_dup {a : Value} (hd : decode f.2.1 pc = .ok (.dup, 1)) (hq : pc + 1 = q) (ha : a.category = 1) (kk : X f k0 s0 q L (a :: a :: S) n M Q) : X f k0 s0 pc L (a :: S) n M Q := by
  subst hq
  exact X.lift (fun _ _ _ _ _ _ _ _ _ _ _ _ _ _ _ _ _ hx hb _ k => lv_dup hx hb hd (by rw [xv_cat]; exact ha) k) kk
theorem x_dup2 {a b : Value} (hd : decode f.2.1 pc = .ok (.dup2, 1)) (hq : pc + 1 = q) (ha : a.category = 1) (hb1 : b.category = 1) (kk : X f k0 s0 q L (a :: b :: a :: b :: S) n M Q) : X f k0 s0 pc L (a :: b :: S) n M Q := by
  subst hq
  exact X.lift (fun _ _ _ _ _ _ _ _ _ _ _ _ _ _ _ _ _ hx hb _ k => lv_dup2_11 hx hb hd (by rw [xv_cat]; exact ha) (by rw [xv_cat]; exact hb1) k) kk
theorem x_if_eq {x : Int32} {off : Int} {t : Nat} (hd : decode f.2.1 pc = .ok (.ifCond .eq off, 3)) (ht : (pc : Int) + off = (t : Int)) (hq : pc + 3 = q) (kt : x = 0 → X f k0 s0 t L S n M Q) (kf : ¬ x = 0 → X f k0 s0 q L S n M Q) : X f k0 s0 pc L (.int x :: S) n M Q := by
  subst hq
  exact fun g p l e s m args below meth c H locs ls C hk hP hS hl => lv_if_eq C.1 C.2.1 hd ht (fun h => kt h g p l e s m args below meth c H locs ls C hk hP hS hl) (fun h => kf h g p l e s m args below meth c H locs ls C hk hP hS hl)
theorem x_if_lt {x : Int32} {off : Int} {t : Nat} (hd : decode f.2.1 pc = .ok (.ifCond .lt off, 3)) (ht : (pc : Int) + off = (t : Int)) (hq : pc + 3 = q) (kt : x < 0 → X f k0 s0 t L S n M Q) (kf : ¬ x < 0 → X f k0 s0 q L S n M Q) : X f k0 s0 pc L (.int x :: S) n M Q := by
  subst hq
  exact fun g p l e s m args below meth c H locs ls C hk hP hS hl => lv_if_lt C.1 C.2.1 hd ht (fun h => kt h g p l e s m args below meth c H locs ls C hk hP hS hl) (fun h => kf h g p l e s m args below meth c H locs ls C hk hP hS hl)
theorem x_if_ge {x : Int32} {off : Int} {t : Nat} (hd : decode f.2.1 pc = .ok (.ifCond .ge off, 3)) (ht : (pc : Int) + off = (t : Int)) (hq : pc + 3 = q) (kt : 0 ≤ x → X f k0 s0 t L S n M Q) (kf : ¬ 0 ≤ x → X f k0 s0 q L S n M Q) : X f k0 s0 pc L (.int x :: S) n M Q := by
  subst hq
  exact fun g p l e s m args below meth c H locs ls C hk hP hS hl => lv_if_ge C.1 C.2.1 hd ht (fun h => kt h g p l e s m args below meth c H locs ls C hk hP hS hl) (fun h => kf h g p l e s m args below meth c H locs ls C hk hP hS hl)
theorem x_if_gt {x : Int32} {off : Int} {t : Nat} (hd : decode f.2.1 pc = .ok (.ifCond .gt off, 3)) (ht : (pc : Int) + off = (t : Int)) (hq : pc + 3 = q) (kt : 0 < x → X f k0 s0 t L S n M Q) (kf : ¬ 0 < x → X f k0 s0 q L S n M Q) : X f k0 s0 pc L (.int x :: S) n M Q := by
  subst hq
  exact fun g p l e s m args below meth c H locs ls C hk hP hS hl => lv_if_gt C.1 C.2.1 hd ht (fun h => kt h g p l e s m args below meth c H locs ls C hk hP hS hl) (fun h => kf h g p l e s m args below meth c H locs ls C hk hP hS hl)
theorem x_if_le {x : Int32} {off : Int} {t : Nat} (hd : decode f.2.1 pc = .ok (.ifCond .le off, 3)) (ht : (pc : Int) + off = (t : Int)) (hq : pc + 3 = q) (kt : x ≤ 0 → X f k0 s0 t L S n M Q) (kf : ¬ x ≤ 0 → X f k0 s0 q L S n M Q) : X f k0 s0 pc L (.int x :: S) n M Q := by
  subst hq
  exact fun g p l e s m args below meth c H locs ls C hk hP hS hl => lv_if_le C.1 C.2.1 hd ht (fun h => kt h g p l e s m args below meth c H locs ls C hk hP hS hl) (fun h => kf h g p l e s m args below meth c H locs ls C hk hP hS hl)
theorem x_if_ne {x : Int32} {off : Int} {t : Nat} (hd : decode f.2.1 pc = .ok (.ifCond .ne off, 3)) (ht : (pc : Int) + off = (t : Int)) (hq : pc + 3 = q) (kt : ¬ x = 0 → X f k0 s0 t L S n M Q) (kf : x = 0 → X f k0 s0 q L S n M Q) : X f k0 s0 pc L (.int x :: S) n M Q := by
  subst hq
  exact fun g p l e s m args below meth c H locs ls C hk hP hS hl => lv_if_ne C.1 C.2.1 hd ht (fun h => kt h g p l e s m args below meth c H locs ls C hk hP hS hl) (fun h => kf h g p l e s m args below meth c H locs ls C hk hP hS hl)
theorem x_icmp_eq {x y : Int32} {off : Int} {t : Nat} (hd : decode f.2.1 pc = .ok (.if_icmp .eq off, 3)) (ht : (pc : Int) + off = (t : Int)) (hq : pc + 3 = q) (kt : x = y → X f k0 s0 t L S n M Q) (kf : ¬ x = y → X f k0 s0 q L S n M Q) : X f k0 s0 pc L (.int y :: .int x :: S) n M Q := by
  subst hq
  exact fun g p l e s m args below meth c H locs ls C hk hP hS hl => lv_icmp_eq C.1 C.2.1 hd ht (fun h => kt h g p l e s m args below meth c H locs ls C hk hP hS hl) (fun h => kf h g p l e s m args below meth c H locs ls C hk hP hS hl)
theorem x_icmp_lt {x y : Int32} {off : Int} {t : Nat} (hd : decode f.2.1 pc = .ok (.if_icmp .lt off, 3)) (ht : (pc : Int) + off = (t : Int)) (hq : pc + 3 = q) (kt : x < y → X f k0 s0 t L S n M Q) (kf : ¬ x < y → X f k0 s0 q L S n M Q) : X f k0 s0 pc L (.int y :: .int x :: S) n M Q := by
  subst hq
  exact fun g p l e s m args below meth c H locs ls C hk hP hS hl => lv_icmp_lt C.1 C.2.1 hd ht (fun h => kt h g p l e s m args below meth c H locs ls C hk hP hS hl) (fun h => kf h g p l e s m args below meth c H locs ls C hk hP hS hl)
theorem x_icmp_ge {x y : Int32} {off : Int} {t : Nat} (hd : decode f.2.1 pc = .ok (.if_icmp .ge off, 3)) (ht : (pc : Int) + off = (t : Int)) (hq : pc + 3 = q) (kt : y ≤ x → X f k0 s0 t L S n M Q) (kf : ¬ y ≤ x → X f k0 s0 q L S n M Q) : X f k0 s0 pc L (.int y :: .int x :: S) n M Q := by
  subst hq
  exact fun g p l e s m args below meth c H locs ls C hk hP hS hl => lv_icmp_ge C.1 C.2.1 hd ht (fun h => kt h g p l e s m args below meth c H locs ls C hk hP hS hl) (fun h => kf h g p l e s m args below meth c H locs ls C hk hP hS hl)
theorem x_icmp_gt {x y : Int32} {off : Int} {t : Nat} (hd : decode f.2.1 pc = .ok (.if_icmp .gt off, 3)) (ht : (pc : Int) + off = (t : Int)) (hq : pc + 3 = q) (kt : y < x → X f k0 s0 t L S n M Q) (kf : ¬ y < x → X f k0 s0 q L S n M Q) : X f k0 s0 pc L (.int y :: .int x :: S) n M Q := by
  subst hq
  exact fun g p l e s m args below meth c H locs ls C hk hP hS hl => lv_icmp_gt C.1 C.2.1 hd ht (fun h => kt h g p l e s m args below meth c H locs ls C hk hP hS hl) (fun h => kf h g p l e s m args below meth c H locs ls C hk hP hS hl)
theorem x_icmp_le {x y : Int32} {off : Int} {t : Nat} (hd : decode f.2.1 pc = .ok (.if_icmp .le off, 3)) (ht : (pc : Int) + off = (t : Int)) (hq : pc + 3 = q) (kt : x ≤ y → X f k0 s0 t L S n M Q) (kf : ¬ x ≤ y → X f k0 s0 q L S n M Q) : X f k0 s0 pc L (.int y :: .int x :: S) n M Q := by
  subst hq
  exact fun g p l e s m args below meth c H locs ls C hk hP hS hl => lv_icmp_le C.1 C.2.1 hd ht (fun h => kt h g p l e s m args below meth c H locs ls C hk hP hS hl) (fun h => kf h g p l e s m args below meth c H locs ls C hk hP hS hl)
theorem x_icmp_ne {x y : Int32} {off : Int} {t : Nat} (hd : decode f.2.1 pc = .ok (.if_icmp .ne off, 3)) (ht : (pc : Int) + off = (t : Int)) (hq : pc + 3 = q) (kt : ¬ x = y → X f k0 s0 t L S n M Q) (kf : x = y → X f k0 s0 q L S n M Q) : X f k0 s0 pc L (.int y :: .int x :: S) n M Q := by
  subst hq
  exact fun g p l e s m args below meth c H locs ls C hk hP hS hl => lv_icmp_ne C.1 C.2.1 hd ht (fun h => kt h g p l e s m args below meth c H locs ls C hk hP hS hl) (fun h => kf h g p l e s m args below meth c H locs ls C hk hP hS hl)
theorem x_tableOut {dflt lo hi : Int} {offs : Array Int} {len t : Nat} {x : Int32} (hd : decode f.2.1 pc = .ok (.tableswitch dflt lo hi offs, len)) (h : x.toInt < lo ∨ hi < x.toInt) (ht : (pc : Int) + dflt = (t : Int)) (kk : X f k0 s0 t L S n M Q) : X f k0 s0 pc L (.int x :: S) n M Q :=
  X.lift (fun _ _ _ _ _ _ _ _ _ _ _ _ _ _ _ _ _ hx hb _ k => lv_tableOut hx hb hd h ht k) kk
theorem x_tableIn {dflt lo hi off : Int} {offs : Array Int} {len t : Nat} {x : Int32} (hd : decode f.2.1 pc = .ok (.tableswitch dflt lo hi offs, len)) (h1 : ¬ x.toInt < lo) (h2 : ¬ hi < x.toInt) (ho : offs[(x.toInt - lo).toNat]? = some off) (ht : (pc : Int) + off = (t : Int)) (kk : X f k0 s0 t L S n M Q) : X f k0 s0 pc L (.int x :: S) n M Q :=
  X.lift (fun _ _ _ _ _ _ _ _ _ _ _ _ _ _ _ _ _ hx hb _ k => lv_tableIn hx hb hd h1 h2 ho ht k) kk
theorem x_lookup {dflt off : Int} {ps : Array (Int × Int)} {len t : Nat} {x : Int32} (hd : decode f.2.1 pc = .ok (.lookupswitch dflt ps, len)) (hp : (ps.toList.zip (ps.toList.drop 1)).all (fun (a, next) => a.1 < next.1) = true) (ho : Op.lookupswitch.offset ps.toList dflt x.toInt = off) (ht : (pc : Int) + off = (t : Int)) (kk : X f k0 s0 t L S n M Q) : X f k0 s0 pc L (.int x :: S) n M Q :=
  X.lift (fun _ _ _ _ _ _ _ _ _ _ _ _ _ _ _ _ _ hx hb _ k => lv_lookup hx hb hd hp ho ht k) kk
def xst (i : Nat) (v : Value) (L : List (Nat × Value)) : List (Nat × Value) := (i, v) :: L.filter (fun q => !(q.1 == i) && !(q.1 + 1 == i && q.2.category == 2))
def xst2 (i : Nat) (v : Value) (L : List (Nat × Value)) : List (Nat × Value) := (i, v) :: L.filter (fun q => !(q.1 == i) && (!(q.1 == i + 1) && !(q.1 + 1 == i && q.2.category == 2)))
theorem xst_g (g : xG) (i : Nat) (v : Value) (L : List (Nat × Value)) : (i, xv g v) :: (xL g L).filter (fun q => !(q.1 == i) && !(q.1 + 1 == i && q.2.category == 2)) = xL g (xst i v L) := by
  unfold xst xL
  rw [List.map_cons, List.filter_map]
  congr 3
  funext x
  simp [xv_cat]
theorem xst2_g (g : xG) (i : Nat) (v : Value) (L : List (Nat × Value)) : (i, xv g v) :: (xL g L).filter (fun q => !(q.1 == i) && (!(q.1 == i + 1) && !(q.1 + 1 == i && q.2.category == 2))) = xL g (xst2 i v L) := by
  unfold xst2 xL
  rw [List.map_cons, List.filter_map]
  congr 3
  funext x
  simp [xv_cat]
theorem x_istore_n {i : Fin 4} {x : Int32} {L' : Int32 → List (Nat × Value)} (hd : decode f.2.1 pc = .ok (.istore_n i, 1)) (hq : pc + 1 = q) (hn : (i : Nat) < f.2.2.1) (hL : ∀ y, xst i (.int y) L = L' y) (kk : ∀ y, y = x → X f k0 s0 q (L' y) S n M Q) : X f k0 s0 pc L (.int x :: S) n M Q := by
  subst hq
  exact fun g p l e s m args below meth c H locs ls C hk hP hS hl => lv_istore_n C.1 C.2.1 hd rfl hl hn (xst_g g i (.int x) L) (fun ls' hl' => kk x rfl g p l e s m args below meth c H locs ls' C hk hP hS (by rw [hL] at hl'; exact hl'))
theorem x_istore {i : Nat} {x : Int32} {L' : Int32 → List (Nat × Value)} (hd : decode f.2.1 pc = .ok (.istore i, 2)) (hq : pc + 2 = q) (hn : (i : Nat) < f.2.2.1) (hL : ∀ y, xst i (.int y) L = L' y) (kk : ∀ y, y = x → X f k0 s0 q (L' y) S n M Q) : X f k0 s0 pc L (.int x :: S) n M Q := by
  subst hq
  exact fun g p l e s m args below meth c H locs ls C hk hP hS hl => lv_istore C.1 C.2.1 hd hl hn (xst_g g i (.int x) L) (fun ls' hl' => kk x rfl g p l e s m args below meth c H locs ls' C hk hP hS (by rw [hL] at hl'; exact hl'))
theorem x_lstore_n {i : Fin 4} {x : Int64} {L' : Int64 → List (Nat × Value)} (hd : decode f.2.1 pc = .ok (.lstore_n i, 1)) (hq : pc + 1 = q) (hn : (i : Nat) + 1 < f.2.2.1) (hL : ∀ y, xst2 i (.long y) L = L' y) (kk : ∀ y, y = x → X f k0 s0 q (L' y) S n M Q) : X f k0 s0 pc L (.long x :: S) n M Q := by
  subst hq
  exact fun g p l e s m args below meth c H locs ls C hk hP hS hl => lv_lstore_n C.1 C.2.1 hd rfl hl hn (xst2_g g i (.long x) L) (fun ls' hl' => kk x rfl g p l e s m args below meth c H locs ls' C hk hP hS (by rw [hL] at hl'; exact hl'))
theorem x_lstore {i : Nat} {x : Int64} {L' : Int64 → List (Nat × Value)} (hd : decode f.2.1 pc = .ok (.lstore i, 2)) (hq : pc + 2 = q) (hn : (i : Nat) + 1 < f.2.2.1) (hL : ∀ y, xst2 i (.long y) L = L' y) (kk : ∀ y, y = x → X f k0 s0 q (L' y) S n M Q) : X f k0 s0 pc L (.long x :: S) n M Q := by
  subst hq
  exact fun g p l e s m args below meth c H locs ls C hk hP hS hl => lv_lstore C.1 C.2.1 hd hl hn (xst2_g g i (.long x) L) (fun ls' hl' => kk x rfl g p l e s m args below meth c H locs ls' C hk hP hS (by rw [hL] at hl'; exact hl'))
theorem x_astore_n {i : Fin 4} {x : Nat} {L' : Nat → List (Nat × Value)} (hd : decode f.2.1 pc = .ok (.astore_n i, 1)) (hq : pc + 1 = q) (hn : (i : Nat) < f.2.2.1) (hL : ∀ y, xst i (.ref y) L = L' y) (kk : ∀ y, y = x → X f k0 s0 q (L' y) S n M Q) : X f k0 s0 pc L (.ref x :: S) n M Q := by
  subst hq
  exact fun g p l e s m args below meth c H locs ls C hk hP hS hl => lv_astore_n C.1 C.2.1 hd rfl hl hn (xst_g g i (.ref x) L) (fun ls' hl' => kk x rfl g p l e s m args below meth c H locs ls' C hk hP hS (by rw [hL] at hl'; exact hl'))
theorem x_iinc {i : Nat} {k : Int} {x : Int32} {L' : Int32 → List (Nat × Value)} (hd : decode f.2.1 pc = .ok (.iinc i k, 3)) (hq : pc + 3 = q) (hv : L.lookup i = some (.int x)) (hn : i < f.2.2.1) (hL : ∀ y, xst i (.int y) L = L' y) (kk : ∀ y, y = x + Int32.ofInt k → X f k0 s0 q (L' y) S n M Q) : X f k0 s0 pc L S n M Q := by
  subst hq
  intro g p l e s m args below meth c H locs ls C hk hP hS hl
  have hin : (i, Value.int x) ∈ xL g L := by
    refine List.mem_map.mpr ⟨(i, .int x), ?_, rfl⟩
    revert hv
    clear hl hL kk
    induction L with
    | nil => intro hv; cases hv
    | cons a t ih =>
      intro hv
      obtain ⟨a1, a2⟩ := a
      rw [List.lookup_cons] at hv
      split at hv
      · rename_i hb
        rw [Option.some.inj hv, ← eq_of_beq hb]
        exact List.mem_cons_self
      · exact List.mem_cons_of_mem _ (ih hv)
  obtain ⟨j, hj⟩ := List.getElem?_of_mem hin
  exact lv_iinc C.1 C.2.1 hd hl hj rfl hn (xst_g g i (.int (x + Int32.ofInt k)) L) (fun ls' hl' => kk _ rfl g p l e s m args below meth c H locs ls' C hk hP hS (by rw [hL] at hl'; exact hl'))
theorem x_ldc {k : Nat} {v : Int32} (hw : Jvm.Cond.constant f.1.cls k v ∈ f.2.2.2.2.1) (hd : decode f.2.1 pc = .ok (.ldc k, 2)) (hq : pc + 2 = q) (kk : X f k0 s0 q L (.int v :: S) n M Q) : X f k0 s0 pc L S n M Q := by
  subst hq
  exact fun g p l e s m args below meth c H locs ls C hk hP hS hl => lv_ldc C.1 C.2.1 C.2.2.2.2.2.1 (C.2.2.2.2.2.2.2.1 _ hw) hd (kk g p l e s m args below meth c H locs ls C hk hP hS hl)
theorem x_ldc2 {k : Nat} {v : Int64} (hw : Jvm.Cond.constantLong f.1.cls k v ∈ f.2.2.2.2.1) (hd : decode f.2.1 pc = .ok (.ldc2_w k, 3)) (hq : pc + 3 = q) (kk : X f k0 s0 q L (.long v :: S) n M Q) : X f k0 s0 pc L S n M Q := by
  subst hq
  exact fun g p l e s m args below meth c H locs ls C hk hP hS hl => lv_ldc2 C.1 C.2.1 C.2.2.2.2.2.1 (C.2.2.2.2.2.2.2.1 _ hw) hd (kk g p l e s m args below meth c H locs ls C hk hP hS hl)
theorem x_iret {v : Int32} (hd : decode f.2.1 pc = .ok (.ireturn, 1)) (hr : f.2.2.2.1 = some .int) (hc : k0 = f.2.2.2.2.2.cells) (hs : s0 ≤ f.2.2.2.2.2.slots) (hQ : Q (some (.int v)) M) : X f k0 s0 pc L (.int v :: []) n M Q := by
  intro g p l e s m args below meth c H locs ls C hk hP hS hl
  refine W.widen (k := f.2.2.2.2.2.cells) (n := f.2.2.2.2.2.slots) (Nat.le_of_eq hc) hs ?_
  have hlocks : meth.locks = false := C.2.2.2.2.1
  have hgs := C.2.2.2.2.2.2.2.2.2.2
  have hnn : s.heap.size - g.1 + f.2.2.2.2.2.cells = n := by omega
  exact W.iret C.1 C.2.1 (C.2.2.2.1.trans hr) (fun t ht hW => ⟨⟨_, M, rfl, hQ, by rw [ht, hnn]; exact hP⟩, hS.F ht⟩) hS.2.2 hd
theorem x_zret {v : Int32} (hd : decode f.2.1 pc = .ok (.ireturn, 1)) {ty : FieldType} (hr : f.2.2.2.1 = some ty) (hn : narrow ty (.int v) = .int v) (hc : k0 = f.2.2.2.2.2.cells) (hs : s0 ≤ f.2.2.2.2.2.slots) (hQ : Q (some (.int v)) M) : X f k0 s0 pc L (.int v :: []) n M Q := by
  intro g p l e s m args below meth c H locs ls C hk hP hS hl
  refine W.widen (k := f.2.2.2.2.2.cells) (n := f.2.2.2.2.2.slots) (Nat.le_of_eq hc) hs ?_
  have hlocks : meth.locks = false := C.2.2.2.2.1
  have hgs := C.2.2.2.2.2.2.2.2.2.2
  have hnn : s.heap.size - g.1 + f.2.2.2.2.2.cells = n := by omega
  exact W.zret C.1 C.2.1 (C.2.2.2.1.trans hr) hn (fun t ht hW => ⟨⟨_, M, rfl, hQ, by rw [ht, hnn]; exact hP⟩, hS.F ht⟩) hS.2.2 hd
theorem x_lret {v : Int64} (hd : decode f.2.1 pc = .ok (.lreturn, 1)) (hr : f.2.2.2.1 = some .long) (hc : k0 = f.2.2.2.2.2.cells) (hs : s0 ≤ f.2.2.2.2.2.slots) (hQ : Q (some (.long v)) M) : X f k0 s0 pc L (.long v :: []) n M Q := by
  intro g p l e s m args below meth c H locs ls C hk hP hS hl
  refine W.widen (k := f.2.2.2.2.2.cells) (n := f.2.2.2.2.2.slots) (Nat.le_of_eq hc) hs ?_
  have hlocks : meth.locks = false := C.2.2.2.2.1
  have hgs := C.2.2.2.2.2.2.2.2.2.2
  have hnn : s.heap.size - g.1 + f.2.2.2.2.2.cells = n := by omega
  exact W.lret C.1 C.2.1 (C.2.2.2.1.trans hr) (fun t ht hW => ⟨⟨_, M, rfl, hQ, by rw [ht, hnn]; exact hP⟩, hS.F ht⟩) hS.2.2 hd
theorem x_vret (hd : decode f.2.1 pc = .ok (.return_, 1)) (hr : f.2.2.2.1 = none) (hc : k0 = f.2.2.2.2.2.cells) (hs : s0 ≤ f.2.2.2.2.2.slots) (hQ : Q (none) M) : X f k0 s0 pc L ([]) n M Q := by
  intro g p l e s m args below meth c H locs ls C hk hP hS hl
  refine W.widen (k := f.2.2.2.2.2.cells) (n := f.2.2.2.2.2.slots) (Nat.le_of_eq hc) hs ?_
  have hlocks : meth.locks = false := C.2.2.2.2.1
  have hgs := C.2.2.2.2.2.2.2.2.2.2
  have hnn : s.heap.size - g.1 + f.2.2.2.2.2.cells = n := by omega
  exact W.vret C.1 C.2.1 (C.2.2.2.1.trans hr) (fun t ht hW => ⟨⟨_, M, rfl, hQ, by rw [ht, hnn]; exact hP⟩, hS.F ht⟩) hS.2.2 hd
end XR2
