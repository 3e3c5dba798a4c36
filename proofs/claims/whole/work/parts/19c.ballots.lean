theorem x_pick {f : xM} {k0 s0 pc n : Nat} {L L' : List (Nat × Value)} {S : List Value} {M : Nat → xE} {Q : Option Value → (Nat → xE) → Prop} (ks : List Nat) (h : ks.map (fun k => L[k]?) = L'.map some) (kk : X f k0 s0 pc L' S n M Q) : X f k0 s0 pc L S n M Q := by
  refine x_loc (L' := L') (fun x hx => ?_) kk
  have h1 : some x ∈ L'.map some := List.mem_map.mpr ⟨x, hx, rfl⟩
  rw [← h] at h1
  obtain ⟨k, -, hk⟩ := List.mem_map.mp h1
  exact List.mem_of_getElem? hk
def vsw (v : Nat → Int32) (f b : Int32) : Nat → Int32 := upd (upd v f.toNatClampNeg (v f.toNatClampNeg - 1)) b.toNatClampNeg (upd v f.toNatClampNeg (v f.toNatClampNeg - 1) b.toNatClampNeg + 1)
theorem xas (x : Int32) : x + 1 - 1 = x := by rw [Int32.sub_eq_add_neg, Int32.add_assoc]; exact Int32.add_zero x
theorem xsa (x : Int32) : x - 1 + 1 = x := by rw [Int32.sub_eq_add_neg, Int32.add_assoc]; exact Int32.add_zero x
theorem vsw_back (v : Nat → Int32) (f b : Int32) : upd (upd (vsw v f b) b.toNatClampNeg (vsw v f b b.toNatClampNeg - 1)) f.toNatClampNeg (upd (vsw v f b) b.toNatClampNeg (vsw v f b b.toNatClampNeg - 1) f.toNatClampNeg + 1) = v := by
  have h1 : upd (vsw v f b) b.toNatClampNeg (vsw v f b b.toNatClampNeg - 1) = upd v f.toNatClampNeg (v f.toNatClampNeg - 1) := by
    unfold vsw
    rw [pk_us, xas, fa_upd_twice]
    exact fa_upd_same rfl
  rw [h1, pk_us, xsa, fa_upd_twice]
  exact fa_upd_same rfl
def csw (s v : Nat → Int32) (f now : Int32) (P : Nat) : Nat → Nat → Bool → Bool
  | 0, _, acc => acc
  | k + 1, i, acc => if s i = now then acc else csw s v f now P k (i + 1) (acc || decide (nI (lom (vsw v f (s i)) P) = s i))
theorem bset_t {p : Nat → Bool} {n : Nat} (h : p n = true) : bset p (n + 1) = bset p n ||| (1 <<< (nI n &&& 31)) := by rw [bset, if_pos h]
theorem bset_f {p : Nat → Bool} {n : Nat} (h : p n = false) : bset p (n + 1) = bset p n := by rw [bset, if_neg (by rw [h]; decide)]
/-- could this ballot swing it: by the class -/
def bsw (s : Nat → Int32) (B P b : Nat) : Bool := csw (fun q => s (5 * b + q)) (vC s B) (s (5 * b)) (nI (lom (vC s B) P)) P P 0 false
def b01 (b : Bool) : Int32 := if b then 1 else 0
theorem b01_t {b : Bool} (h : ¬ b01 b = 0) : b = true := by cases b with | false => exact absurd rfl h | true => rfl
theorem b01_f {b : Bool} (h : b01 b = 0) : b = false := by cases b with | false => rfl | true => exact absurd h (by decide)
theorem b01_or (a b : Bool) : b01 a ||| b01 b = b01 (a || b) := by cases a <;> cases b <;> decide
set_option maxHeartbeats 4000000 in
set_option maxRecDepth 100000 in
theorem l_Bal_could {n p P b : Nat} {now : Int32} {t : Nat → Nat → Int32} {Q : Option Value → (Nat → xE) → Prop} {M0 : Nat → xE} (hp : p + 3 < n) (hP : P ≤ 5) (hb : b < 9) (hs : ∀ j, j < P → vp_in (t 1 (5 * b + j)) 5) : ∀ (k i : Nat) (M : Nat → xE) (acc : Bool), i + k = P → (oX0 p t M) → (xfr p (p + 4) M0 M) → (∀ M' : Nat → xE, oX0 p t M' → xfr p (p + 4) M0 M' → Q (some (.int (b01 (csw (fun q => t 1 (5 * b + q)) (t 3) (t 1 (5 * b)) now P k i acc)))) M') → X mX0_couldSwing 0 0 14 [(6, .int (nI i)), (5, .int (b01 acc)), (4, .int (t 1 (5 * b))), (0, .ref p), (1, .int (nI b)), (2, .int now), (3, .int (nI P))] [] n M (Q) := by
  have hiX0 : ∀ w ∈ wsX00, w ∈ wsX0_couldSwing := by decide +kernel
  intro k
  induction k with
  | zero =>
    intro i M acc hik hT hf hQ
    have hT0 := hT
    obtain ⟨tp0, tp1, tp2, tp3⟩ := hT
    refine x_iload (q := 16) dX0_couldSwing_14 rfl rfl ?_
    refine x_iload_n (q := 17) dX0_couldSwing_16 rfl rfl ?_
    refine x_icmp_ge (t := 110) (q := 20) dX0_couldSwing_17 (by decide) rfl (fun c17 => ?_) (fun c17 => absurd (nI_le (show P ≤ i by omega) (by omega)) c17)
    refine x_iload (q := 112) dX0_couldSwing_110 rfl rfl ?_
    refine x_zret dX0_couldSwing_112 rfl (by cases acc <;> rfl) rfl (Nat.le_refl _) ?_
    exact hQ M hT0 hf
  | succ k ih =>
    intro i M acc hik hT hf hQ
    have hT0 := hT
    obtain ⟨tp0, tp1, tp2, tp3⟩ := hT
    refine x_iload (q := 16) dX0_couldSwing_14 rfl rfl ?_
    refine x_iload_n (q := 17) dX0_couldSwing_16 rfl rfl ?_
    refine x_icmp_ge (t := 110) (q := 20) dX0_couldSwing_17 (by decide) rfl (fun c17 => absurd c17 (nI_ge (by omega) (by omega))) (fun c17 => ?_)
    refine x_aload_n (q := 21) dX0_couldSwing_20 rfl rfl ?_
    refine x_iload_n (q := 22) dX0_couldSwing_21 rfl rfl ?_
    refine x_iload (q := 24) dX0_couldSwing_22 rfl rfl ?_
    refine x_callV (q := 27) (ci := 0) (c_Bal_stand (B := b) (j := i) hp hT0 hb (by omega)) eX0_couldSwing_37 gX0_couldSwing_X0_standing tp0 (by omega) rfl rfl rfl (Nat.le_of_ble_eq_true rfl) ⟨Nat.le_refl _, Nat.le_refl _⟩ dX0_couldSwing_24 rfl rfl (fun r24 M24 p24 => ?_)
    obtain ⟨rfl, rfl⟩ := p24
    refine x_iload_n (q := 28) dX0_couldSwing_27 rfl rfl ?_
    refine x_icmp_eq (t := 110) (q := 31) dX0_couldSwing_28 (by decide) rfl (fun c28 => ?_) (fun c28 => ?_)
    · refine x_iload (q := 112) dX0_couldSwing_110 rfl rfl ?_
      refine x_zret dX0_couldSwing_112 rfl (by cases acc <;> rfl) rfl (Nat.le_refl _) ?_
      have := hQ M hT0 hf
      rw [csw, if_pos c28] at this
      exact this
    · refine x_aload_n (q := 32) dX0_couldSwing_31 rfl rfl ?_
      refine x_iload_n (q := 33) dX0_couldSwing_32 rfl rfl ?_
      refine x_iload (q := 35) dX0_couldSwing_33 rfl rfl ?_
      refine x_callV (q := 38) (ci := 0) (c_Bal_stand (B := b) (j := i) hp hT0 hb (by omega)) eX0_couldSwing_37 gX0_couldSwing_X0_standing tp0 (by omega) rfl rfl rfl (Nat.le_of_ble_eq_true rfl) ⟨Nat.le_refl _, Nat.le_refl _⟩ dX0_couldSwing_35 rfl rfl (fun r35 M35 p35 => ?_)
      obtain ⟨rfl, rfl⟩ := p35
      refine x_istore (L' := fun x7_38 => [(7, .int x7_38), (6, .int (nI i)), (5, .int (b01 acc)), (4, .int (t 1 (5 * b))), (0, .ref p), (1, .int (nI b)), (2, .int now), (3, .int (nI P))]) (q := 40) dX0_couldSwing_38 rfl (by decide) (fun _ => rfl) (fun x7_38 ex7_38 => ?_)
      obtain rfl : x7_38 = t 1 (5 * b + i) := ex7_38
      refine x_aload_n (q := 41) dX0_couldSwing_40 rfl rfl ?_
      refine x_getf (C := RX0) (T := TX0) (N := 4) (k := 3) (q := 44) tp0 (by omega) rfl hiX0 (by decide) (by decide +kernel) rfl dX0_couldSwing_41 rfl ?_
      refine x_iload (q := 46) dX0_couldSwing_44 rfl rfl ?_
      refine x_dup2 (q := 47) dX0_couldSwing_46 rfl rfl rfl ?_
      refine x_iald (q := 48) tp3 (by omega) (hs 0 (by omega)) dX0_couldSwing_47 rfl ?_
      refine x_iconst (v := 1) (q := 49) dX0_couldSwing_48 rfl (by decide) ?_
      refine x_isub (q := 50) dX0_couldSwing_49 rfl ?_
      refine x_iast (q := 51) tp3 (by omega) (hs 0 (by omega)) dX0_couldSwing_50 rfl (fun M50 w50 o50 => ?_)
      refine x_aload_n (q := 52) dX0_couldSwing_51 rfl rfl ?_
      have hv1_1_p := ((o50 (p) (by omega)).trans tp0)
      refine x_getf (C := RX0) (T := TX0) (N := 4) (k := 3) (q := 55) hv1_1_p (by omega) rfl hiX0 (by decide) (by decide +kernel) rfl dX0_couldSwing_52 rfl ?_
      refine x_iload (q := 57) dX0_couldSwing_55 rfl rfl ?_
      refine x_dup2 (q := 58) dX0_couldSwing_57 rfl rfl rfl ?_
      refine x_iald (q := 59) w50 (by omega) (hs i (by omega)) dX0_couldSwing_58 rfl ?_
      refine x_iconst (v := 1) (q := 60) dX0_couldSwing_59 rfl (by decide) ?_
      refine x_iadd (q := 61) dX0_couldSwing_60 rfl ?_
      refine x_iast (q := 62) w50 (by omega) (hs i (by omega)) dX0_couldSwing_61 rfl (fun M61 w61 o61 => ?_)
      refine x_iload (q := 64) dX0_couldSwing_62 rfl rfl ?_
      refine x_aload_n (q := 65) dX0_couldSwing_64 rfl rfl ?_
      refine x_iload_n (q := 66) dX0_couldSwing_65 rfl rfl ?_
      have hv2_2_p := ((o61 (p) (by omega)).trans hv1_1_p)
      have hv2_3_p1 := ((o61 (p + 1) (by omega)).trans ((o50 (p + 1) (by omega)).trans tp1))
      have hv2_4_p2 := ((o61 (p + 2) (by omega)).trans ((o50 (p + 2) (by omega)).trans tp2))
      have hV : oX0 p (fun k => if k = 3 then vsw (t 3) (t 1 (5 * b)) (t 1 (5 * b + i)) else t k) M61 := ⟨hv2_2_p, hv2_3_p1, hv2_4_p2, w61⟩
      refine x_callV (q := 69) (ci := 0) (c_Bal_least (t := (fun k => if k = 3 then vsw (t 3) (t 1 (5 * b)) (t 1 (5 * b + i)) else t k)) hp hV hP) eX0_couldSwing_44 gX0_couldSwing_X0_leastOfMost hv2_2_p (by omega) rfl rfl rfl (Nat.le_of_ble_eq_true rfl) ⟨Nat.le_refl _, Nat.le_refl _⟩ dX0_couldSwing_66 rfl rfl (fun r66 M66 p66 => ?_)
      obtain ⟨rfl, rfl⟩ := p66
      refine x_iload (q := 71) dX0_couldSwing_69 rfl rfl ?_
      refine x_icmp_ne (t := 78) (q := 74) dX0_couldSwing_71 (by decide) rfl (fun c71 => ?_) (fun c71 => ?_)
      · refine x_iconst (v := 0) (q := 79) dX0_couldSwing_78 rfl (by decide) ?_
        refine x_ior (q := 80) dX0_couldSwing_79 rfl ?_
        refine x_istore (L' := fun x5_80 => [(5, .int x5_80), (7, .int (t 1 (5 * b + i))), (6, .int (nI i)), (4, .int (t 1 (5 * b))), (0, .ref p), (1, .int (nI b)), (2, .int now), (3, .int (nI P))]) (q := 82) dX0_couldSwing_80 rfl (by decide) (fun _ => rfl) (fun x5_80 ex5_80 => ?_)
        have c72 : ¬ nI (lom (vsw (t 3) (t 1 (5 * b)) (t 1 (5 * b + i))) P) = t 1 (5 * b + i) := c71
        obtain rfl : x5_80 = b01 (acc || decide (nI (lom (vsw (t 3) (t 1 (5 * b)) (t 1 (5 * b + i))) P) = t 1 (5 * b + i))) := (by rw [ex5_80, ← b01_or, decide_eq_false c72]; rfl)
        refine x_aload_n (q := 83) dX0_couldSwing_82 rfl rfl ?_
        refine x_getf (C := RX0) (T := TX0) (N := 4) (k := 3) (q := 86) hv2_2_p (by omega) rfl hiX0 (by decide) (by decide +kernel) rfl dX0_couldSwing_83 rfl ?_
        refine x_iload (q := 88) dX0_couldSwing_86 rfl rfl ?_
        refine x_dup2 (q := 89) dX0_couldSwing_88 rfl rfl rfl ?_
        refine x_iald (q := 90) w61 (by omega) (hs i (by omega)) dX0_couldSwing_89 rfl ?_
        refine x_iconst (v := 1) (q := 91) dX0_couldSwing_90 rfl (by decide) ?_
        refine x_isub (q := 92) dX0_couldSwing_91 rfl ?_
        refine x_iast (q := 93) w61 (by omega) (hs i (by omega)) dX0_couldSwing_92 rfl (fun M92 w92 o92 => ?_)
        refine x_aload_n (q := 94) dX0_couldSwing_93 rfl rfl ?_
        have hv3_5_p := ((o92 (p) (by omega)).trans hv2_2_p)
        refine x_getf (C := RX0) (T := TX0) (N := 4) (k := 3) (q := 97) hv3_5_p (by omega) rfl hiX0 (by decide) (by decide +kernel) rfl dX0_couldSwing_94 rfl ?_
        refine x_iload (q := 99) dX0_couldSwing_97 rfl rfl ?_
        refine x_dup2 (q := 100) dX0_couldSwing_99 rfl rfl rfl ?_
        refine x_iald (q := 101) w92 (by omega) (hs 0 (by omega)) dX0_couldSwing_100 rfl ?_
        refine x_iconst (v := 1) (q := 102) dX0_couldSwing_101 rfl (by decide) ?_
        refine x_iadd (q := 103) dX0_couldSwing_102 rfl ?_
        refine x_iast (q := 104) w92 (by omega) (hs 0 (by omega)) dX0_couldSwing_103 rfl (fun M103 w103 o103 => ?_)
        refine x_iinc (L' := fun x6_104 => [(6, .int x6_104), (5, .int (b01 (acc || decide (nI (lom (vsw (t 3) (t 1 (5 * b)) (t 1 (5 * b + i))) P) = t 1 (5 * b + i))))), (7, .int (t 1 (5 * b + i))), (4, .int (t 1 (5 * b))), (0, .ref p), (1, .int (nI b)), (2, .int now), (3, .int (nI P))]) (q := 107) dX0_couldSwing_104 rfl rfl (by decide) (fun _ => rfl) (fun x6_104 ex6_104 => ?_)
        obtain rfl : x6_104 = nI (i + 1) := ex6_104.trans (nI_1 i)
        refine x_goto (q := 14) dX0_couldSwing_107 (by decide) ?_
        have hv4_6_p := ((o103 (p) (by omega)).trans hv3_5_p)
        have hv4_7_p1 := ((o103 (p + 1) (by omega)).trans ((o92 (p + 1) (by omega)).trans hv2_3_p1))
        have hv4_8_p2 := ((o103 (p + 2) (by omega)).trans ((o92 (p + 2) (by omega)).trans hv2_4_p2))
        have w104 : M103 (p + 3) = .inl (0, 5, .inl (t 3)) := w103.trans (congrArg (fun h : Nat → Int32 => (Sum.inl (0, 5, Sum.inl h) : xE)) (vsw_back (t 3) (t 1 (5 * b)) (t 1 (5 * b + i))))
        refine x_pick (L' := [(6, .int (nI (i + 1))), (5, .int (b01 (acc || decide (nI (lom (vsw (t 3) (t 1 (5 * b)) (t 1 (5 * b + i))) P) = t 1 (5 * b + i))))), (4, .int (t 1 (5 * b))), (0, .ref p), (1, .int (nI b)), (2, .int now), (3, .int (nI P))]) [0, 1, 3, 4, 5, 6, 7] rfl ?_
        exact ih (i + 1) M103 _ (by omega) ⟨hv4_6_p, hv4_7_p1, hv4_8_p2, w104⟩ (fun j hj => ((o103 j (by omega)).trans ((o92 j (by omega)).trans ((o61 j (by omega)).trans ((o50 j (by omega)).trans (hf j hj)))))) (fun M' h1 h2 => by have := hQ M' h1 h2; rw [csw, if_neg c28] at this; exact this)
      · refine x_iconst (v := 1) (q := 75) dX0_couldSwing_74 rfl (by decide) ?_
        refine x_goto (q := 79) dX0_couldSwing_75 (by decide) ?_
        refine x_ior (q := 80) dX0_couldSwing_79 rfl ?_
        refine x_istore (L' := fun x5_80 => [(5, .int x5_80), (7, .int (t 1 (5 * b + i))), (6, .int (nI i)), (4, .int (t 1 (5 * b))), (0, .ref p), (1, .int (nI b)), (2, .int now), (3, .int (nI P))]) (q := 82) dX0_couldSwing_80 rfl (by decide) (fun _ => rfl) (fun x5_80 ex5_80 => ?_)
        have c72 : nI (lom (vsw (t 3) (t 1 (5 * b)) (t 1 (5 * b + i))) P) = t 1 (5 * b + i) := c71
        obtain rfl : x5_80 = b01 (acc || decide (nI (lom (vsw (t 3) (t 1 (5 * b)) (t 1 (5 * b + i))) P) = t 1 (5 * b + i))) := (by rw [ex5_80, ← b01_or, decide_eq_true c72]; rfl)
        refine x_aload_n (q := 83) dX0_couldSwing_82 rfl rfl ?_
        refine x_getf (C := RX0) (T := TX0) (N := 4) (k := 3) (q := 86) hv2_2_p (by omega) rfl hiX0 (by decide) (by decide +kernel) rfl dX0_couldSwing_83 rfl ?_
        refine x_iload (q := 88) dX0_couldSwing_86 rfl rfl ?_
        refine x_dup2 (q := 89) dX0_couldSwing_88 rfl rfl rfl ?_
        refine x_iald (q := 90) w61 (by omega) (hs i (by omega)) dX0_couldSwing_89 rfl ?_
        refine x_iconst (v := 1) (q := 91) dX0_couldSwing_90 rfl (by decide) ?_
        refine x_isub (q := 92) dX0_couldSwing_91 rfl ?_
        refine x_iast (q := 93) w61 (by omega) (hs i (by omega)) dX0_couldSwing_92 rfl (fun M92 w92 o92 => ?_)
        refine x_aload_n (q := 94) dX0_couldSwing_93 rfl rfl ?_
        have hv3_5_p := ((o92 (p) (by omega)).trans hv2_2_p)
        refine x_getf (C := RX0) (T := TX0) (N := 4) (k := 3) (q := 97) hv3_5_p (by omega) rfl hiX0 (by decide) (by decide +kernel) rfl dX0_couldSwing_94 rfl ?_
        refine x_iload (q := 99) dX0_couldSwing_97 rfl rfl ?_
        refine x_dup2 (q := 100) dX0_couldSwing_99 rfl rfl rfl ?_
        refine x_iald (q := 101) w92 (by omega) (hs 0 (by omega)) dX0_couldSwing_100 rfl ?_
        refine x_iconst (v := 1) (q := 102) dX0_couldSwing_101 rfl (by decide) ?_
        refine x_iadd (q := 103) dX0_couldSwing_102 rfl ?_
        refine x_iast (q := 104) w92 (by omega) (hs 0 (by omega)) dX0_couldSwing_103 rfl (fun M103 w103 o103 => ?_)
        refine x_iinc (L' := fun x6_104 => [(6, .int x6_104), (5, .int (b01 (acc || decide (nI (lom (vsw (t 3) (t 1 (5 * b)) (t 1 (5 * b + i))) P) = t 1 (5 * b + i))))), (7, .int (t 1 (5 * b + i))), (4, .int (t 1 (5 * b))), (0, .ref p), (1, .int (nI b)), (2, .int now), (3, .int (nI P))]) (q := 107) dX0_couldSwing_104 rfl rfl (by decide) (fun _ => rfl) (fun x6_104 ex6_104 => ?_)
        obtain rfl : x6_104 = nI (i + 1) := ex6_104.trans (nI_1 i)
        refine x_goto (q := 14) dX0_couldSwing_107 (by decide) ?_
        have hv4_6_p := ((o103 (p) (by omega)).trans hv3_5_p)
        have hv4_7_p1 := ((o103 (p + 1) (by omega)).trans ((o92 (p + 1) (by omega)).trans hv2_3_p1))
        have hv4_8_p2 := ((o103 (p + 2) (by omega)).trans ((o92 (p + 2) (by omega)).trans hv2_4_p2))
        have w104 : M103 (p + 3) = .inl (0, 5, .inl (t 3)) := w103.trans (congrArg (fun h : Nat → Int32 => (Sum.inl (0, 5, Sum.inl h) : xE)) (vsw_back (t 3) (t 1 (5 * b)) (t 1 (5 * b + i))))
        refine x_pick (L' := [(6, .int (nI (i + 1))), (5, .int (b01 (acc || decide (nI (lom (vsw (t 3) (t 1 (5 * b)) (t 1 (5 * b + i))) P) = t 1 (5 * b + i))))), (4, .int (t 1 (5 * b))), (0, .ref p), (1, .int (nI b)), (2, .int now), (3, .int (nI P))]) [0, 1, 3, 4, 5, 6, 7] rfl ?_
        exact ih (i + 1) M103 _ (by omega) ⟨hv4_6_p, hv4_7_p1, hv4_8_p2, w104⟩ (fun j hj => ((o103 j (by omega)).trans ((o92 j (by omega)).trans ((o61 j (by omega)).trans ((o50 j (by omega)).trans (hf j hj)))))) (fun M' h1 h2 => by have := hQ M' h1 h2; rw [csw, if_neg c28] at this; exact this)

set_option maxHeartbeats 4000000 in
set_option maxRecDepth 100000 in
theorem c_Bal_could {n : Nat} {M : Nat → xE} {p : Nat} {t : Nat → Nat → Int32} (hp : p + 3 < n) (hT : oX0 p t M) {P b : Nat} {now : Int32} (hP : P ≤ 5) (hb : b < 9) (hs : ∀ j, j < P → vp_in (t 1 (5 * b + j)) 5) : xMet mX0_couldSwing [.ref p, .int (nI b), .int now, .int (nI P)] n M (fun r M' => some (.int (b01 (csw (fun q => t 1 (5 * b + q)) (t 3) (t 1 (5 * b)) now P P 0 false))) = r ∧ oX0 p t M' ∧ xfr p (p + 4) M M') := by
  have hT0 := hT
  obtain ⟨tp0, tp1, tp2, tp3⟩ := hT
  refine xMet.of _ (by decide) rfl (Nat.le_of_ble_eq_true rfl) ?_
  refine x_aload_n (q := 1) dX0_couldSwing_0 rfl rfl ?_
  refine x_iload_n (q := 2) dX0_couldSwing_1 rfl rfl ?_
  refine x_iconst (v := 0) (q := 3) dX0_couldSwing_2 rfl (by decide) ?_
  refine x_callV (q := 6) (ci := 0) (c_Bal_stand (B := b) (j := 0) hp hT0 hb (by omega)) eX0_couldSwing_37 gX0_couldSwing_X0_standing tp0 (by omega) rfl rfl rfl (Nat.le_of_ble_eq_true rfl) ⟨Nat.le_refl _, Nat.le_refl _⟩ dX0_couldSwing_3 rfl rfl (fun r3 M3 p3 => ?_)
  obtain ⟨rfl, rfl⟩ := p3
  refine x_istore (L' := fun x4_6 => [(4, .int x4_6), (0, .ref p), (1, .int (nI b)), (2, .int now), (3, .int (nI P))]) (q := 8) dX0_couldSwing_6 rfl (by decide) (fun _ => rfl) (fun x4_6 ex4_6 => ?_)
  refine x_iconst (v := 0) (q := 9) dX0_couldSwing_8 rfl (by decide) ?_
  refine x_istore (L' := fun x5_9 => [(5, .int x5_9), (4, .int x4_6), (0, .ref p), (1, .int (nI b)), (2, .int now), (3, .int (nI P))]) (q := 11) dX0_couldSwing_9 rfl (by decide) (fun _ => rfl) (fun x5_9 ex5_9 => ?_)
  refine x_iconst (v := 0) (q := 12) dX0_couldSwing_11 rfl (by decide) ?_
  refine x_istore (L' := fun x6_12 => [(6, .int x6_12), (5, .int x5_9), (4, .int x4_6), (0, .ref p), (1, .int (nI b)), (2, .int now), (3, .int (nI P))]) (q := 14) dX0_couldSwing_12 rfl (by decide) (fun _ => rfl) (fun x6_12 ex6_12 => ?_)
  subst ex4_6
  subst ex5_9
  subst ex6_12
  exact l_Bal_could hp hP hb hs P 0 M false (by omega) hT0 (fun j _ => rfl) (fun M h1 h2 => ⟨rfl, h1, h2⟩)

set_option maxHeartbeats 4000000 in
set_option maxRecDepth 100000 in
theorem l_Bal_swing {n p P B : Nat} {t : Nat → Nat → Int32} {Q : Option Value → (Nat → xE) → Prop} {M0 : Nat → xE} (hp : p + 3 < n) (hP : P ≤ 5) (hB : B ≤ 9) (h0 : t 0 0 = nI B) (hs : ∀ b, b < B → ∀ j, j < P → vp_in (t 1 (5 * b + j)) 5) (hQ : ∀ M, oX0 p (fun k => if k = 3 then vC (t 1) B else t k) M → xfr p (p + 4) M0 M → Q (some (.int (bset (bsw (t 1) B P) B))) M) : ∀ (k i : Nat) (M : Nat → xE), i + k = B → (oX0 p (fun k => if k = 3 then vC (t 1) B else t k) M) → (xfr p (p + 4) M0 M) → X mX0_swingBits 0 0 11 [(4, .int (nI i)), (3, .int (bset (bsw (t 1) B P) i)), (2, .int (nI (lom (vC (t 1) B) P))), (0, .ref p), (1, .int (nI P))] [] n M (Q) := by
  have hiX0 : ∀ w ∈ wsX00, w ∈ wsX0_swingBits := by decide +kernel
  intro k
  induction k with
  | zero =>
    intro i M hik hT hf
    have hT0 := hT
    obtain ⟨tp0, tp1, tp2, tp3⟩ := hT
    have tp0 : M p = .inr (0, [.int (nI B), .ref (p + 1), .ref (p + 2), .ref (p + 3)]) := by rw [tp0, ← h0]; rfl
    refine x_iload (q := 13) dX0_swingBits_11 rfl rfl ?_
    refine x_aload_n (q := 14) dX0_swingBits_13 rfl rfl ?_
    refine x_getf (C := RX0) (T := TX0) (N := 4) (k := 0) (q := 17) tp0 (by omega) rfl hiX0 (by decide) (by decide +kernel) rfl dX0_swingBits_14 rfl ?_
    refine x_icmp_ge (t := 44) (q := 20) dX0_swingBits_17 (by decide) rfl (fun c17 => ?_) (fun c17 => absurd (by rw [show i = B by omega]; exact nI_le (Nat.le_refl _) (by omega)) c17)
    refine x_iload_n (q := 45) dX0_swingBits_44 rfl rfl ?_
    refine x_iret dX0_swingBits_45 rfl rfl (Nat.le_refl _) ?_
    have e9 : i = B := by omega
    subst e9
    exact hQ M hT0 hf
  | succ k ih =>
    intro i M hik hT hf
    have hT0 := hT
    obtain ⟨tp0, tp1, tp2, tp3⟩ := hT
    have tp0 : M p = .inr (0, [.int (nI B), .ref (p + 1), .ref (p + 2), .ref (p + 3)]) := by rw [tp0, ← h0]; rfl
    refine x_iload (q := 13) dX0_swingBits_11 rfl rfl ?_
    refine x_aload_n (q := 14) dX0_swingBits_13 rfl rfl ?_
    refine x_getf (C := RX0) (T := TX0) (N := 4) (k := 0) (q := 17) tp0 (by omega) rfl hiX0 (by decide) (by decide +kernel) rfl dX0_swingBits_14 rfl ?_
    refine x_icmp_ge (t := 44) (q := 20) dX0_swingBits_17 (by decide) rfl (fun c17 => absurd c17 (nI_ge (by omega) (by omega))) (fun c17 => ?_)
    refine x_aload_n (q := 21) dX0_swingBits_20 rfl rfl ?_
    refine x_iload (q := 23) dX0_swingBits_21 rfl rfl ?_
    refine x_iload_n (q := 24) dX0_swingBits_23 rfl rfl ?_
    refine x_iload_n (q := 25) dX0_swingBits_24 rfl rfl ?_
    refine x_callV (q := 28) (ci := 0) (c_Bal_could (t := (fun k => if k = 3 then vC (t 1) B else t k)) (b := i) hp hT0 hP (by omega) (fun j hj => hs i (by omega) j hj)) eX0_swingBits_54 gX0_swingBits_X0_couldSwing tp0 (by omega) rfl rfl rfl (Nat.le_of_ble_eq_true rfl) ⟨Nat.le_refl _, Nat.le_refl _⟩ dX0_swingBits_25 rfl rfl (fun r25 M25 p25 => ?_)
    obtain ⟨rfl, hT25, fr25⟩ := p25
    have hU25 := hT25
    obtain ⟨y25_0, y25_1, y25_2, y25_3⟩ := hT25
    refine x_if_eq (t := 38) (q := 31) dX0_swingBits_28 (by decide) rfl (fun c28 => ?_) (fun c28 => ?_)
    · refine x_iinc (L' := fun x4_38 => [(4, .int x4_38), (3, .int (bset (bsw (t 1) B P) i)), (2, .int (nI (lom (vC (t 1) B) P))), (0, .ref p), (1, .int (nI P))]) (q := 41) dX0_swingBits_38 rfl rfl (by decide) (fun _ => rfl) (fun x4_38 ex4_38 => ?_)
      obtain rfl : x4_38 = nI (i + 1) := ex4_38.trans (nI_1 i)
      refine x_goto (q := 11) dX0_swingBits_41 (by decide) ?_
      rw [← bset_f (b01_f c28 : (bsw (t 1) B P) i = false)]
      refine x_pick (L' := [(4, .int (nI (i + 1))), (3, .int (bset (bsw (t 1) B P) (i + 1))), (2, .int (nI (lom (vC (t 1) B) P))), (0, .ref p), (1, .int (nI P))]) [0, 1, 2, 3, 4] rfl ?_
      exact ih (i + 1) M25 (by omega) hU25 (fun j hj => (fr25 j hj).trans (hf j hj))
    · refine x_iload_n (q := 32) dX0_swingBits_31 rfl rfl ?_
      refine x_iconst (v := 1) (q := 33) dX0_swingBits_32 rfl (by decide) ?_
      refine x_iload (q := 35) dX0_swingBits_33 rfl rfl ?_
      refine x_ishl (q := 36) dX0_swingBits_35 rfl ?_
      refine x_ior (q := 37) dX0_swingBits_36 rfl ?_
      refine x_istore_n (L' := fun x3_37 => [(3, .int x3_37), (4, .int (nI i)), (2, .int (nI (lom (vC (t 1) B) P))), (0, .ref p), (1, .int (nI P))]) (q := 38) dX0_swingBits_37 rfl (by decide) (fun _ => rfl) (fun x3_37 ex3_37 => ?_)
      obtain rfl : x3_37 = bset (bsw (t 1) B P) (i + 1) := (by rw [ex3_37, bset_t (b01_t c28 : (bsw (t 1) B P) i = true)])
      refine x_iinc (L' := fun x4_38 => [(4, .int x4_38), (3, .int (bset (bsw (t 1) B P) (i + 1))), (2, .int (nI (lom (vC (t 1) B) P))), (0, .ref p), (1, .int (nI P))]) (q := 41) dX0_swingBits_38 rfl rfl (by decide) (fun _ => rfl) (fun x4_38 ex4_38 => ?_)
      obtain rfl : x4_38 = nI (i + 1) := ex4_38.trans (nI_1 i)
      refine x_goto (q := 11) dX0_swingBits_41 (by decide) ?_
      refine x_pick (L' := [(4, .int (nI (i + 1))), (3, .int (bset (bsw (t 1) B P) (i + 1))), (2, .int (nI (lom (vC (t 1) B) P))), (0, .ref p), (1, .int (nI P))]) [0, 1, 2, 3, 4] rfl ?_
      exact ih (i + 1) M25 (by omega) hU25 (fun j hj => (fr25 j hj).trans (hf j hj))

set_option maxHeartbeats 4000000 in
set_option maxRecDepth 100000 in
theorem c_Bal_swing {n : Nat} {M : Nat → xE} {p : Nat} {t : Nat → Nat → Int32} (hp : p + 3 < n) (hT : oX0 p t M) {P B : Nat} (hP : P ≤ 5) (hP0 : 0 < P) (hB : B ≤ 9) (h0 : t 0 0 = nI B) (hs : ∀ b, b < B → ∀ j, j < P → vp_in (t 1 (5 * b + j)) 5) : xMet mX0_swingBits [.ref p, .int (nI P)] n M (fun r M' => some (.int (bset (bsw (t 1) B P) B)) = r ∧ oX0 p (fun k => if k = 3 then vC (t 1) B else t k) M' ∧ xfr p (p + 4) M M') := by
  have hT0 := hT
  obtain ⟨tp0, tp1, tp2, tp3⟩ := hT
  refine xMet.of _ (by decide) rfl (Nat.le_of_ble_eq_true rfl) ?_
  refine x_aload_n (q := 1) dX0_swingBits_0 rfl rfl ?_
  refine x_iload_n (q := 2) dX0_swingBits_1 rfl rfl ?_
  refine x_callV (q := 5) (ci := 0) (c_Bal_mayor0 hp hT0 hP hB h0 (fun b hb => hs b hb 0 hP0)) eX0_swingBits_51 gX0_swingBits_X0_mayorByFirsts tp0 (by omega) rfl rfl rfl (Nat.le_of_ble_eq_true rfl) ⟨Nat.le_refl _, Nat.le_refl _⟩ dX0_swingBits_2 rfl rfl (fun r2 M2 p2 => ?_)
  obtain ⟨rfl, hU2, fr2⟩ := p2
  refine x_istore_n (L' := fun x2_5 => [(2, .int x2_5), (0, .ref p), (1, .int (nI P))]) (q := 6) dX0_swingBits_5 rfl (by decide) (fun _ => rfl) (fun x2_5 ex2_5 => ?_)
  refine x_iconst (v := 0) (q := 7) dX0_swingBits_6 rfl (by decide) ?_
  refine x_istore_n (L' := fun x3_7 => [(3, .int x3_7), (2, .int x2_5), (0, .ref p), (1, .int (nI P))]) (q := 8) dX0_swingBits_7 rfl (by decide) (fun _ => rfl) (fun x3_7 ex3_7 => ?_)
  refine x_iconst (v := 0) (q := 9) dX0_swingBits_8 rfl (by decide) ?_
  refine x_istore (L' := fun x4_9 => [(4, .int x4_9), (3, .int x3_7), (2, .int x2_5), (0, .ref p), (1, .int (nI P))]) (q := 11) dX0_swingBits_9 rfl (by decide) (fun _ => rfl) (fun x4_9 ex4_9 => ?_)
  subst ex2_5
  subst ex3_7
  subst ex4_9
  exact l_Bal_swing hp hP hB h0 hs (fun M h1 h2 => ⟨rfl, h1, h2⟩) B 0 M2 (by omega) hU2 fr2

