theorem x_ldcw {f : xM} {k0 s0 pc q n : Nat} {L : List (Nat × Value)} {S : List Value} {M : Nat → xE} {Q : Option Value → (Nat → xE) → Prop} {k : Nat} {v : Int32} (hw : Jvm.Cond.constant f.1.cls k v ∈ f.2.2.2.2.1) (hd : decode f.2.1 pc = .ok (.ldc_w k, 3)) (hq : pc + 3 = q) (kk : X f k0 s0 q L (.int v :: S) n M Q) : X f k0 s0 pc L S n M Q := by
  subst hq
  exact fun g p l e s m args below meth c H locs ls C hk hP hS hl => lv_ldcw C.1 C.2.1 C.2.2.2.2.2.1 (C.2.2.2.2.2.2.2.1 _ hw) hd (kk g p l e s m args below meth c H locs ls C hk hP hS hl)
def jsh (x y : Int32) : Int32 := (x.toUInt32 >>> (y.toUInt32 &&& Int32.toUInt32 31)).toInt32
/-- Integer.bitCount, as the JDK counts -/
def jBit (x : Int32) : Int32 :=
  let a := x - (jsh x 1 &&& 1431655765)
  let b := (a &&& 858993459) + (jsh a 2 &&& 858993459)
  let c := (b + jsh b 4) &&& 252645135
  let d := c + jsh c 8
  let e := d + jsh d 16
  e &&& 63
set_option maxHeartbeats 4000000 in
set_option maxRecDepth 100000 in
theorem c_bitCount {n : Nat} {M : Nat → xE} {x : Int32} : xMet mJ6_bitCount_0f7a4 [.int x] n M (fun r M' => M = M' ∧ some (.int (jBit x)) = r) := by
  refine xMet.of _ (by decide) rfl (Nat.le_of_ble_eq_true rfl) ?_
  refine x_iload_n (q := 1) dJ6_bitCount_0f7a4_0 rfl rfl ?_
  refine x_iload_n (q := 2) dJ6_bitCount_0f7a4_1 rfl rfl ?_
  refine x_iconst (v := 1) (q := 3) dJ6_bitCount_0f7a4_2 rfl (by decide) ?_
  refine x_iushr (q := 4) dJ6_bitCount_0f7a4_3 rfl rfl ?_
  refine x_ldcw (v := 1431655765) (q := 7) (by decide +kernel) dJ6_bitCount_0f7a4_4 rfl ?_
  refine x_iand (q := 8) dJ6_bitCount_0f7a4_7 rfl ?_
  refine x_isub (q := 9) dJ6_bitCount_0f7a4_8 rfl ?_
  refine x_istore_n (L' := fun x0_9 => [(0, .int x0_9)]) (q := 10) dJ6_bitCount_0f7a4_9 rfl (by decide) (fun _ => rfl) (fun x0_9 ex0_9 => ?_)
  refine x_iload_n (q := 11) dJ6_bitCount_0f7a4_10 rfl rfl ?_
  refine x_ldcw (v := 858993459) (q := 14) (by decide +kernel) dJ6_bitCount_0f7a4_11 rfl ?_
  refine x_iand (q := 15) dJ6_bitCount_0f7a4_14 rfl ?_
  refine x_iload_n (q := 16) dJ6_bitCount_0f7a4_15 rfl rfl ?_
  refine x_iconst (v := 2) (q := 17) dJ6_bitCount_0f7a4_16 rfl (by decide) ?_
  refine x_iushr (q := 18) dJ6_bitCount_0f7a4_17 rfl rfl ?_
  refine x_ldcw (v := 858993459) (q := 21) (by decide +kernel) dJ6_bitCount_0f7a4_18 rfl ?_
  refine x_iand (q := 22) dJ6_bitCount_0f7a4_21 rfl ?_
  refine x_iadd (q := 23) dJ6_bitCount_0f7a4_22 rfl ?_
  refine x_istore_n (L' := fun x0_23 => [(0, .int x0_23)]) (q := 24) dJ6_bitCount_0f7a4_23 rfl (by decide) (fun _ => rfl) (fun x0_23 ex0_23 => ?_)
  refine x_iload_n (q := 25) dJ6_bitCount_0f7a4_24 rfl rfl ?_
  refine x_iload_n (q := 26) dJ6_bitCount_0f7a4_25 rfl rfl ?_
  refine x_iconst (v := 4) (q := 27) dJ6_bitCount_0f7a4_26 rfl (by decide) ?_
  refine x_iushr (q := 28) dJ6_bitCount_0f7a4_27 rfl rfl ?_
  refine x_iadd (q := 29) dJ6_bitCount_0f7a4_28 rfl ?_
  refine x_ldcw (v := 252645135) (q := 32) (by decide +kernel) dJ6_bitCount_0f7a4_29 rfl ?_
  refine x_iand (q := 33) dJ6_bitCount_0f7a4_32 rfl ?_
  refine x_istore_n (L' := fun x0_33 => [(0, .int x0_33)]) (q := 34) dJ6_bitCount_0f7a4_33 rfl (by decide) (fun _ => rfl) (fun x0_33 ex0_33 => ?_)
  refine x_iload_n (q := 35) dJ6_bitCount_0f7a4_34 rfl rfl ?_
  refine x_iload_n (q := 36) dJ6_bitCount_0f7a4_35 rfl rfl ?_
  refine x_bipush (v := 8) (q := 38) dJ6_bitCount_0f7a4_36 rfl (by decide) ?_
  refine x_iushr (q := 39) dJ6_bitCount_0f7a4_38 rfl rfl ?_
  refine x_iadd (q := 40) dJ6_bitCount_0f7a4_39 rfl ?_
  refine x_istore_n (L' := fun x0_40 => [(0, .int x0_40)]) (q := 41) dJ6_bitCount_0f7a4_40 rfl (by decide) (fun _ => rfl) (fun x0_40 ex0_40 => ?_)
  refine x_iload_n (q := 42) dJ6_bitCount_0f7a4_41 rfl rfl ?_
  refine x_iload_n (q := 43) dJ6_bitCount_0f7a4_42 rfl rfl ?_
  refine x_bipush (v := 16) (q := 45) dJ6_bitCount_0f7a4_43 rfl (by decide) ?_
  refine x_iushr (q := 46) dJ6_bitCount_0f7a4_45 rfl rfl ?_
  refine x_iadd (q := 47) dJ6_bitCount_0f7a4_46 rfl ?_
  refine x_istore_n (L' := fun x0_47 => [(0, .int x0_47)]) (q := 48) dJ6_bitCount_0f7a4_47 rfl (by decide) (fun _ => rfl) (fun x0_47 ex0_47 => ?_)
  refine x_iload_n (q := 49) dJ6_bitCount_0f7a4_48 rfl rfl ?_
  refine x_bipush (v := 63) (q := 51) dJ6_bitCount_0f7a4_49 rfl (by decide) ?_
  refine x_iand (q := 52) dJ6_bitCount_0f7a4_51 rfl ?_
  refine x_iret dJ6_bitCount_0f7a4_52 rfl rfl (Nat.le_refl _) ?_
  refine ⟨rfl, ?_⟩
  rw [ex0_47, ex0_40, ex0_33, ex0_23, ex0_9]
  rfl

set_option maxHeartbeats 4000000 in
set_option maxRecDepth 100000 in
theorem c_Word_add {n : Nat} {M : Nat → xE} {p : Nat} {t : Nat → Nat → Int32} (hp : p + 1 < n) (hT : oX9 p t M) {a : Int32} (hs : vp_in (t 0 0) 7) : xMet mX9_add [.ref p, .int a] n M (fun r M' => (vp_in (t 0 0) 6 ∧ some (.int 1) = r ∧ oX9 p (fun i => if i = 0 then (fun _ => t 0 0 + 1) else upd (t 1) (t 0 0).toNatClampNeg a) M' ∧ xfr p (p + 2) M M') ∨ (¬ vp_in (t 0 0) 6 ∧ some (.int 0) = r ∧ M = M')) := by
  obtain ⟨tp0, tp1⟩ := hT
  have hiX9 : ∀ w ∈ wsX90, w ∈ wsX9_add := by decide +kernel
  refine xMet.of _ (by decide) rfl (Nat.le_of_ble_eq_true rfl) ?_
  refine x_aload_n (q := 1) dX9_add_0 rfl rfl ?_
  refine x_getf (C := RX9) (T := TX9) (N := 2) (k := 0) (q := 4) tp0 (by omega) rfl hiX9 (by decide) (by decide +kernel) rfl dX9_add_1 rfl ?_
  refine x_bipush (v := 6) (q := 6) dX9_add_4 rfl (by decide) ?_
  refine x_icmp_lt (t := 11) (q := 9) dX9_add_6 (by decide) rfl (fun c6 => ?_) (fun c6 => ?_)
  · have h6 : vp_in (t 0 0) 6 := (xin (by decide)).mpr ⟨((xin (by decide)).mp hs).1, xlt_nle.mpr c6⟩
    refine x_aload_n (q := 12) dX9_add_11 rfl rfl ?_
    refine x_getf (C := RX9) (T := TX9) (N := 2) (k := 1) (q := 15) tp0 (by omega) rfl hiX9 (by decide) (by decide +kernel) rfl dX9_add_12 rfl ?_
    refine x_aload_n (q := 16) dX9_add_15 rfl rfl ?_
    refine x_getf (C := RX9) (T := TX9) (N := 2) (k := 0) (q := 19) tp0 (by omega) rfl hiX9 (by decide) (by decide +kernel) rfl dX9_add_16 rfl ?_
    refine x_iload_n (q := 20) dX9_add_19 rfl rfl ?_
    refine x_iast (q := 21) tp1 (by omega) h6 dX9_add_20 rfl (fun M20 w20 o20 => ?_)
    refine x_aload_n (q := 22) dX9_add_21 rfl rfl ?_
    refine x_dup (q := 23) dX9_add_22 rfl rfl ?_
    have hv1_1_p := ((o20 (p) (by omega)).trans tp0)
    refine x_getf (C := RX9) (T := TX9) (N := 2) (k := 0) (q := 26) hv1_1_p (by omega) rfl hiX9 (by decide) (by decide +kernel) rfl dX9_add_23 rfl ?_
    refine x_iconst (v := 1) (q := 27) dX9_add_26 rfl (by decide) ?_
    refine x_iadd (q := 28) dX9_add_27 rfl ?_
    refine x_put (C := RX9) (T := TX9) (N := 2) (k := 0) (q := 31) (ty := .int) tyX9_ok nmX9 hv1_1_p (by omega) rfl hiX9 (by decide) (by decide +kernel) rfl (by decide +kernel) (fun _ => rfl) (fun _ => rfl) (Nat.le_of_ble_eq_true rfl) dX9_add_28 rfl (fun M28 w28 o28 => ?_)
    refine x_iconst (v := 1) (q := 32) dX9_add_31 rfl (by decide) ?_
    refine x_zret dX9_add_32 rfl rfl rfl (Nat.le_refl _) ?_
    have hv2_2_p1 := ((o28 (p + 1) (by omega)).trans w20)
    exact Or.inl ⟨h6, rfl, ⟨w28, hv2_2_p1⟩, (fun j hj => ((o28 j (by omega)).trans ((o20 j (by omega)).trans rfl)))⟩
  · refine x_iconst (v := 0) (q := 10) dX9_add_9 rfl (by decide) ?_
    refine x_zret dX9_add_10 rfl rfl rfl (Nat.le_refl _) ?_
    exact Or.inr ⟨fun h => ((xin (by decide)).mp h).2 (xle_nlt.mp c6), rfl, rfl⟩

set_option maxHeartbeats 4000000 in
set_option maxRecDepth 100000 in
theorem l_Word_within {n N p : Nat} {a c : Int32} {t : Nat → Nat → Int32} {Q : Option Value → (Nat → xE) → Prop} (hp : p + 1 < n) (hN : N ≤ 6) (h0 : t 0 0 = nI N) : ∀ (k i : Nat) (M : Nat → xE), i + k = N → (oX9 p t M) → (Q (some (.int (bset (fun k => decide (jBit (t 1 k ^^^ a) ≤ c)) N))) M) → X mX9_within 0 0 5 [(4, .int (nI i)), (3, .int (bset (fun k => decide (jBit (t 1 k ^^^ a) ≤ c)) i)), (0, .ref p), (1, .int a), (2, .int c)] [] n M (Q) := by
  have hiX9 : ∀ w ∈ wsX90, w ∈ wsX9_within := by decide +kernel
  intro k
  induction k with
  | zero =>
    intro i M hik hT hQ
    obtain ⟨tp0, tp1⟩ := hT
    rw [h0] at tp0
    refine x_iload (q := 7) dX9_within_5 rfl rfl ?_
    refine x_aload_n (q := 8) dX9_within_7 rfl rfl ?_
    refine x_getf (C := RX9) (T := TX9) (N := 2) (k := 0) (q := 11) tp0 (by omega) rfl hiX9 (by decide) (by decide +kernel) rfl dX9_within_8 rfl ?_
    refine x_icmp_ge (t := 43) (q := 14) dX9_within_11 (by decide) rfl (fun c11 => ?_) (fun c11 => absurd (by rw [show i = N by omega]; exact nI_le (Nat.le_refl _) (by omega)) c11)
    refine x_iload_n (q := 44) dX9_within_43 rfl rfl ?_
    refine x_iret dX9_within_44 rfl rfl (Nat.le_refl _) ?_
    rw [show i = N by omega]
    exact hQ
  | succ k ih =>
    intro i M hik hT hQ
    obtain ⟨tp0, tp1⟩ := hT
    rw [h0] at tp0
    refine x_iload (q := 7) dX9_within_5 rfl rfl ?_
    refine x_aload_n (q := 8) dX9_within_7 rfl rfl ?_
    refine x_getf (C := RX9) (T := TX9) (N := 2) (k := 0) (q := 11) tp0 (by omega) rfl hiX9 (by decide) (by decide +kernel) rfl dX9_within_8 rfl ?_
    refine x_icmp_ge (t := 43) (q := 14) dX9_within_11 (by decide) rfl (fun c11 => absurd c11 (nI_ge (by omega) (by omega))) (fun c11 => ?_)
    refine x_aload_n (q := 15) dX9_within_14 rfl rfl ?_
    refine x_getf (C := RX9) (T := TX9) (N := 2) (k := 1) (q := 18) tp0 (by omega) rfl hiX9 (by decide) (by decide +kernel) rfl dX9_within_15 rfl ?_
    refine x_iload (q := 20) dX9_within_18 rfl rfl ?_
    refine x_iald (q := 21) tp1 (by omega) (xinN (show i < N by omega) hN (by decide)) dX9_within_20 rfl ?_
    refine x_iload_n (q := 22) dX9_within_21 rfl rfl ?_
    refine x_ixor (q := 23) dX9_within_22 rfl ?_
    refine x_callS (q := 26) c_bitCount eX9_within_19 gX9_within_J6_bitCount_0f7a4 rfl (Nat.le_of_ble_eq_true rfl) ⟨Nat.le_refl _, Nat.le_refl _⟩ dX9_within_23 rfl rfl (fun r23 M23 p23 => ?_)
    obtain ⟨rfl, rfl⟩ := p23
    refine x_iload_n (q := 27) dX9_within_26 rfl rfl ?_
    refine x_icmp_gt (t := 37) (q := 30) dX9_within_27 (by decide) rfl (fun c27 => ?_) (fun c27 => ?_)
    · refine x_iinc (L' := fun x4_37 => [(4, .int x4_37), (3, .int (bset (fun k => decide (jBit (t 1 k ^^^ a) ≤ c)) i)), (0, .ref p), (1, .int a), (2, .int c)]) (q := 40) dX9_within_37 rfl rfl (by decide) (fun _ => rfl) (fun x4_37 ex4_37 => ?_)
      refine x_goto (q := 5) dX9_within_40 (by decide) ?_
      rw [ex4_37, show nI i + Int32.ofInt 1 = nI (i + 1) from nI_1 i]
      have e9 : bset (fun k => decide (jBit (t 1 k ^^^ a) ≤ c)) i = bset (fun k => decide (jBit (t 1 k ^^^ a) ≤ c)) (i + 1) := by
        rw [bset]; rw [nIc (show i < 6 by omega) (by decide)] at c27; simp [xlt_nle.mpr c27]
      refine x_loc (L' := [(4, .int (nI (i + 1))), (3, .int (bset (fun k => decide (jBit (t 1 k ^^^ a) ≤ c)) (i + 1))), (0, .ref p), (1, .int a), (2, .int c)]) (fun x hx => by simp only [List.mem_cons] at hx ⊢; rcases hx with h | h | h | h | h | h <;> simp_all) ?_
      exact ih (i + 1) M (by omega) ⟨by rw [h0]; exact tp0, tp1⟩ hQ
    · refine x_iload_n (q := 31) dX9_within_30 rfl rfl ?_
      refine x_iconst (v := 1) (q := 32) dX9_within_31 rfl (by decide) ?_
      refine x_iload (q := 34) dX9_within_32 rfl rfl ?_
      refine x_ishl (q := 35) dX9_within_34 rfl ?_
      refine x_ior (q := 36) dX9_within_35 rfl ?_
      refine x_istore_n (L' := fun x3_36 => [(3, .int x3_36), (4, .int (nI i)), (0, .ref p), (1, .int a), (2, .int c)]) (q := 37) dX9_within_36 rfl (by decide) (fun _ => rfl) (fun x3_36 ex3_36 => ?_)
      refine x_iinc (L' := fun x4_37 => [(4, .int x4_37), (3, .int x3_36), (0, .ref p), (1, .int a), (2, .int c)]) (q := 40) dX9_within_37 rfl rfl (by decide) (fun _ => rfl) (fun x4_37 ex4_37 => ?_)
      refine x_goto (q := 5) dX9_within_40 (by decide) ?_
      rw [ex4_37, show nI i + Int32.ofInt 1 = nI (i + 1) from nI_1 i]
      have e9 : x3_36 = bset (fun k => decide (jBit (t 1 k ^^^ a) ≤ c)) (i + 1) := by
        rw [bset]; rw [nIc (show i < 6 by omega) (by decide)] at c27; simp [ex3_36, xle_nlt.mp c27]
      refine x_loc (L' := [(4, .int (nI (i + 1))), (3, .int (bset (fun k => decide (jBit (t 1 k ^^^ a) ≤ c)) (i + 1))), (0, .ref p), (1, .int a), (2, .int c)]) (fun x hx => by simp only [List.mem_cons] at hx ⊢; rcases hx with h | h | h | h | h | h <;> simp_all) ?_
      exact ih (i + 1) M (by omega) ⟨by rw [h0]; exact tp0, tp1⟩ hQ

set_option maxHeartbeats 4000000 in
set_option maxRecDepth 100000 in
theorem c_Word_within {n : Nat} {M : Nat → xE} {p : Nat} {t : Nat → Nat → Int32} (hp : p + 1 < n) (hT : oX9 p t M) {a c : Int32} {N : Nat} (hN : N ≤ 6) (h0 : t 0 0 = nI N) : xMet mX9_within [.ref p, .int a, .int c] n M (fun r M' => M = M' ∧ some (.int (bset (fun k => decide (jBit (t 1 k ^^^ a) ≤ c)) N)) = r) := by
  refine xMet.of _ (by decide) rfl (Nat.le_of_ble_eq_true rfl) ?_
  refine x_iconst (v := 0) (q := 1) dX9_within_0 rfl (by decide) ?_
  refine x_istore_n (L' := fun x3_1 => [(3, .int x3_1), (0, .ref p), (1, .int a), (2, .int c)]) (q := 2) dX9_within_1 rfl (by decide) (fun _ => rfl) (fun x3_1 ex3_1 => ?_)
  refine x_iconst (v := 0) (q := 3) dX9_within_2 rfl (by decide) ?_
  refine x_istore (L' := fun x4_3 => [(4, .int x4_3), (3, .int x3_1), (0, .ref p), (1, .int a), (2, .int c)]) (q := 5) dX9_within_3 rfl (by decide) (fun _ => rfl) (fun x4_3 ex4_3 => ?_)
  subst ex3_1
  subst ex4_3
  exact l_Word_within hp hN h0 N 0 M (by omega) hT ⟨rfl, rfl⟩

def wIn (c : Nat → Nat → Int32) (i : Nat) (a : Int32) : Nat → Int32
  | 0 => a
  | j + 1 => if c i j < wIn c i a j then c i j else wIn c i a j
def wOut (c : Nat → Nat → Int32) : Nat → Int32
  | 0 => 6
  | i + 1 => wIn c i (wOut c i) i
set_option maxHeartbeats 4000000 in
set_option maxRecDepth 100000 in
theorem l_Word_inner {n N p : Nat} {t : Nat → Nat → Int32} {Q : Option Value → (Nat → xE) → Prop} (hp : p + 1 < n) (hN : N ≤ 6) (h0 : t 0 0 = nI N) {I : Nat} {a : Int32} (hI : I < N) : ∀ (k i : Nat) (M : Nat → xE), i + k = I → (oX9 p t M) → (X mX9_alterings 0 0 58 [(1, .int (wIn (fun u v => jBit (t 1 u ^^^ t 1 v)) I a I)), (0, .ref p), (2, .int (nI I))] [] n M Q) → X mX9_alterings 0 0 26 [(3, .int (nI i)), (1, .int (wIn (fun u v => jBit (t 1 u ^^^ t 1 v)) I a i)), (0, .ref p), (2, .int (nI I))] [] n M (Q) := by
  have hiX9 : ∀ w ∈ wsX90, w ∈ wsX9_alterings := by decide +kernel
  intro k
  induction k with
  | zero =>
    intro i M hik hT hk
    obtain ⟨tp0, tp1⟩ := hT
    rw [h0] at tp0
    refine x_iload_n (q := 27) dX9_alterings_26 rfl rfl ?_
    refine x_iload_n (q := 28) dX9_alterings_27 rfl rfl ?_
    refine x_icmp_ge (t := 58) (q := 31) dX9_alterings_28 (by decide) rfl (fun c28 => ?_) (fun c28 => absurd (by rw [show i = I by omega]; exact nI_le (Nat.le_refl _) (by omega)) c28)
    have e9 : i = I := by omega
    subst e9
    refine x_loc (L' := [(1, .int (wIn (fun u v => jBit (t 1 u ^^^ t 1 v)) i a i)), (0, .ref p), (2, .int (nI i))]) (fun x hx => by simp only [List.mem_cons] at hx ⊢; rcases hx with h | h | h | h <;> simp_all) hk
  | succ k ih =>
    intro i M hik hT hk
    obtain ⟨tp0, tp1⟩ := hT
    rw [h0] at tp0
    refine x_iload_n (q := 27) dX9_alterings_26 rfl rfl ?_
    refine x_iload_n (q := 28) dX9_alterings_27 rfl rfl ?_
    refine x_icmp_ge (t := 58) (q := 31) dX9_alterings_28 (by decide) rfl (fun c28 => absurd c28 (nI_ge (by omega) (by omega))) (fun c28 => ?_)
    refine x_iload_n (q := 32) dX9_alterings_31 rfl rfl ?_
    refine x_aload_n (q := 33) dX9_alterings_32 rfl rfl ?_
    refine x_getf (C := RX9) (T := TX9) (N := 2) (k := 1) (q := 36) tp0 (by omega) rfl hiX9 (by decide) (by decide +kernel) rfl dX9_alterings_33 rfl ?_
    refine x_iload_n (q := 37) dX9_alterings_36 rfl rfl ?_
    refine x_iald (q := 38) tp1 (by omega) (xinN hI hN (by decide)) dX9_alterings_37 rfl ?_
    refine x_aload_n (q := 39) dX9_alterings_38 rfl rfl ?_
    refine x_getf (C := RX9) (T := TX9) (N := 2) (k := 1) (q := 42) tp0 (by omega) rfl hiX9 (by decide) (by decide +kernel) rfl dX9_alterings_39 rfl ?_
    refine x_iload_n (q := 43) dX9_alterings_42 rfl rfl ?_
    refine x_iald (q := 44) tp1 (by omega) (xinN (show i < N by omega) hN (by decide)) dX9_alterings_43 rfl ?_
    refine x_ixor (q := 45) dX9_alterings_44 rfl ?_
    refine x_callS (q := 48) c_bitCount eX9_alterings_19 gX9_alterings_J6_bitCount_0f7a4 rfl (Nat.le_of_ble_eq_true rfl) ⟨Nat.le_refl _, Nat.le_refl _⟩ dX9_alterings_45 rfl rfl (fun r45 M45 p45 => ?_)
    obtain ⟨rfl, rfl⟩ := p45
    refine x_mmin (q := 51) (by decide +kernel) (by decide +kernel) (by decide +kernel) (by decide +kernel) (by decide) (Nat.le_of_ble_eq_true rfl) ⟨Nat.zero_le _, Nat.zero_le _⟩ dX9_alterings_48 rfl ?_
    refine x_istore_n (L' := fun x1_51 => [(1, .int x1_51), (3, .int (nI i)), (0, .ref p), (2, .int (nI I))]) (q := 52) dX9_alterings_51 rfl (by decide) (fun _ => rfl) (fun x1_51 ex1_51 => ?_)
    refine x_iinc (L' := fun x3_52 => [(3, .int x3_52), (1, .int x1_51), (0, .ref p), (2, .int (nI I))]) (q := 55) dX9_alterings_52 rfl rfl (by decide) (fun _ => rfl) (fun x3_52 ex3_52 => ?_)
    refine x_goto (q := 26) dX9_alterings_55 (by decide) ?_
    rw [ex3_52, show nI i + Int32.ofInt 1 = nI (i + 1) from nI_1 i]
    have e9 : x1_51 = wIn (fun u v => jBit (t 1 u ^^^ t 1 v)) I a (i + 1) := by
      rw [wIn, ex1_51, nIc (show i < 6 by omega) (by decide), nIc (show I < 6 by omega) (by decide)]
    refine x_loc (L' := [(3, .int (nI (i + 1))), (1, .int (wIn (fun u v => jBit (t 1 u ^^^ t 1 v)) I a (i + 1))), (0, .ref p), (2, .int (nI I))]) (fun x hx => by simp only [List.mem_cons] at hx ⊢; rcases hx with h | h | h | h | h <;> simp_all) ?_
    exact ih (i + 1) M (by omega) ⟨by rw [h0]; exact tp0, tp1⟩ hk

set_option maxHeartbeats 4000000 in
set_option maxRecDepth 100000 in
theorem l_Word_outer {n N p : Nat} {t : Nat → Nat → Int32} {Q : Option Value → (Nat → xE) → Prop} (hp : p + 1 < n) (hN : N ≤ 6) (h0 : t 0 0 = nI N) : ∀ (k i : Nat) (M : Nat → xE), i + k = N → (oX9 p t M) → (Q (some (.int ((wOut (fun u v => jBit (t 1 u ^^^ t 1 v)) N - 1) / 2))) M) → X mX9_alterings 0 0 16 [(2, .int (nI i)), (1, .int (wOut (fun u v => jBit (t 1 u ^^^ t 1 v)) i)), (0, .ref p)] [] n M (Q) := by
  have hiX9 : ∀ w ∈ wsX90, w ∈ wsX9_alterings := by decide +kernel
  intro k
  induction k with
  | zero =>
    intro i M hik hT hQ
    have hT0 := hT
    obtain ⟨tp0, tp1⟩ := hT
    rw [h0] at tp0
    refine x_iload_n (q := 17) dX9_alterings_16 rfl rfl ?_
    refine x_aload_n (q := 18) dX9_alterings_17 rfl rfl ?_
    refine x_getf (C := RX9) (T := TX9) (N := 2) (k := 0) (q := 21) tp0 (by omega) rfl hiX9 (by decide) (by decide +kernel) rfl dX9_alterings_18 rfl ?_
    refine x_icmp_ge (t := 64) (q := 24) dX9_alterings_21 (by decide) rfl (fun c21 => ?_) (fun c21 => absurd (by rw [show i = N by omega]; exact nI_le (Nat.le_refl _) (by omega)) c21)
    refine x_iload_n (q := 65) dX9_alterings_64 rfl rfl ?_
    refine x_iconst (v := 1) (q := 66) dX9_alterings_65 rfl (by decide) ?_
    refine x_isub (q := 67) dX9_alterings_66 rfl ?_
    refine x_iconst (v := 2) (q := 68) dX9_alterings_67 rfl (by decide) ?_
    refine x_idiv (q := 69) dX9_alterings_68 rfl (by decide) ?_
    refine x_iret dX9_alterings_69 rfl rfl (Nat.le_refl _) ?_
    rw [show i = N by omega]
    exact hQ
  | succ k ih =>
    intro i M hik hT hQ
    have hT0 := hT
    obtain ⟨tp0, tp1⟩ := hT
    rw [h0] at tp0
    refine x_iload_n (q := 17) dX9_alterings_16 rfl rfl ?_
    refine x_aload_n (q := 18) dX9_alterings_17 rfl rfl ?_
    refine x_getf (C := RX9) (T := TX9) (N := 2) (k := 0) (q := 21) tp0 (by omega) rfl hiX9 (by decide) (by decide +kernel) rfl dX9_alterings_18 rfl ?_
    refine x_icmp_ge (t := 64) (q := 24) dX9_alterings_21 (by decide) rfl (fun c21 => absurd c21 (nI_ge (by omega) (by omega))) (fun c21 => ?_)
    refine x_iconst (v := 0) (q := 25) dX9_alterings_24 rfl (by decide) ?_
    refine x_istore_n (L' := fun x3_25 => [(3, .int x3_25), (2, .int (nI i)), (1, .int (wOut (fun u v => jBit (t 1 u ^^^ t 1 v)) i)), (0, .ref p)]) (q := 26) dX9_alterings_25 rfl (by decide) (fun _ => rfl) (fun x3_25 ex3_25 => ?_)
    subst ex3_25
    refine x_loc (L' := [(3, .int (nI 0)), (1, .int (wIn (fun u v => jBit (t 1 u ^^^ t 1 v)) i (wOut (fun u v => jBit (t 1 u ^^^ t 1 v)) i) 0)), (0, .ref p), (2, .int (nI i))]) (fun x hx => by simp only [List.mem_cons] at hx ⊢; rcases hx with h | h | h | h | h <;> simp_all [nI, wIn]) ?_
    refine l_Word_inner hp hN h0 (show i < N by omega) i 0 M (by omega) hT0 ?_
    refine x_iinc (L' := fun x2_58 => [(2, .int x2_58), (1, .int (wOut (fun u v => jBit (t 1 u ^^^ t 1 v)) (i + 1))), (0, .ref p)]) (q := 61) dX9_alterings_58 rfl rfl (by decide) (fun _ => rfl) (fun x2_58 ex2_58 => ?_)
    refine x_goto (q := 16) dX9_alterings_61 (by decide) ?_
    rw [ex2_58, show nI i + Int32.ofInt 1 = nI (i + 1) from nI_1 i]
    
    refine x_loc (L' := [(2, .int (nI (i + 1))), (1, .int (wOut (fun u v => jBit (t 1 u ^^^ t 1 v)) (i + 1))), (0, .ref p)]) (fun x hx => by simp only [List.mem_cons] at hx ⊢; rcases hx with h | h | h | h <;> simp_all) ?_
    exact ih (i + 1) M (by omega) hT0 hQ
    

set_option maxHeartbeats 4000000 in
set_option maxRecDepth 100000 in
theorem c_Word_alter {n : Nat} {M : Nat → xE} {p : Nat} {t : Nat → Nat → Int32} (hp : p + 1 < n) (hT : oX9 p t M) {N : Nat} (hN : N ≤ 6) (h0 : t 0 0 = nI N) : xMet mX9_alterings [.ref p] n M (fun r M' => M = M' ∧ some (.int (if N = 1 then 6 else (wOut (fun u v => jBit (t 1 u ^^^ t 1 v)) N - 1) / 2)) = r) := by
  have hT0 := hT
  obtain ⟨tp0, tp1⟩ := hT
  rw [h0] at tp0
  have hiX9 : ∀ w ∈ wsX90, w ∈ wsX9_alterings := by decide +kernel
  refine xMet.of _ (by decide) rfl (Nat.le_of_ble_eq_true rfl) ?_
  refine x_aload_n (q := 1) dX9_alterings_0 rfl rfl ?_
  refine x_getf (C := RX9) (T := TX9) (N := 2) (k := 0) (q := 4) tp0 (by omega) rfl hiX9 (by decide) (by decide +kernel) rfl dX9_alterings_1 rfl ?_
  refine x_iconst (v := 1) (q := 5) dX9_alterings_4 rfl (by decide) ?_
  refine x_icmp_ne (t := 11) (q := 8) dX9_alterings_5 (by decide) rfl (fun c5 => ?_) (fun c5 => ?_)
  · refine x_bipush (v := 6) (q := 13) dX9_alterings_11 rfl (by decide) ?_
    refine x_istore_n (L' := fun x1_13 => [(1, .int x1_13), (0, .ref p)]) (q := 14) dX9_alterings_13 rfl (by decide) (fun _ => rfl) (fun x1_13 ex1_13 => ?_)
    refine x_iconst (v := 0) (q := 15) dX9_alterings_14 rfl (by decide) ?_
    refine x_istore_n (L' := fun x2_15 => [(2, .int x2_15), (1, .int x1_13), (0, .ref p)]) (q := 16) dX9_alterings_15 rfl (by decide) (fun _ => rfl) (fun x2_15 ex2_15 => ?_)
    subst ex1_13
    subst ex2_15
    exact l_Word_outer hp hN h0 N 0 M (by omega) hT0 ⟨rfl, by rw [if_neg (fun h => c5 (by rw [h]; rfl))]⟩
  · refine x_bipush (v := 6) (q := 10) dX9_alterings_8 rfl (by decide) ?_
    refine x_iret dX9_alterings_10 rfl rfl (Nat.le_refl _) ?_
    exact ⟨rfl, by rw [if_pos ((nI_eq (by omega) (by decide)).mp c5)]⟩

