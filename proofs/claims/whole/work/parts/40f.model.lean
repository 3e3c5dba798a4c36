def slD (D : Nat → Int32) (i : Nat) : Nat → Int32 := fun j => if 5 ≤ j ∧ j < 5 + i then (if 0 < D j - 1 then D j - 1 else 0) else D j
theorem slD_0 (D : Nat → Int32) : slD D 0 = D := by funext j; unfold slD; rw [if_neg (by omega)]
theorem slD_out {D : Nat → Int32} {i j : Nat} (h : j < 5 ∨ 5 + i ≤ j) : slD D i j = D j := if_neg (by omega)
theorem slD_in {D : Nat → Int32} {i j : Nat} (h : 5 ≤ j ∧ j < 5 + i) : slD D i j = if 0 < D j - 1 then D j - 1 else 0 := if_pos h
theorem slD_s {D : Nat → Int32} {i : Nat} {v : Int32} (hv : v = if 0 < D (5 + i) - 1 then D (5 + i) - 1 else 0) : upd (slD D i) (5 + i) v = slD D (i + 1) := by
  funext j
  by_cases e : j = 5 + i
  · subst e; rw [pk_us, slD_in (by omega), hv]
  · rw [upd_ne e]
    by_cases h : 5 ≤ j ∧ j < 5 + i
    · rw [slD_in h, slD_in (by omega)]
    · rw [slD_out (by omega), slD_out (by omega)]
theorem fall1 {x : Int32} (h : vp_in x 10) : (x ≤ 0 → x - 0 = if 0 < x - 1 then x - 1 else 0) ∧ (¬ x ≤ 0 → x - 1 = if 0 < x - 1 then x - 1 else 0) ∧ ((x = 1) ↔ (0 < x ∧ ¬ 0 < (if 0 < x - 1 then x - 1 else 0))) := by
  obtain ⟨k, hk, e⟩ := vp_in_of h (by decide)
  rw [e]
  rcases (show k = 0 ∨ k = 1 ∨ k = 2 ∨ k = 3 ∨ k = 4 ∨ k = 5 ∨ k = 6 ∨ k = 7 ∨ k = 8 ∨ k = 9 by omega) with f | f | f | f | f | f | f | f | f | f <;> subst f <;> decide
theorem fell_eq {f : Nat → Int32} {n : Nat} (hn : n ≤ 6) (h : ∀ k, k < 6 → vp_in (f k) 10) : bset (fun k => decide (f k = 1)) n = dFell f n := by
  unfold dFell
  apply b_ext
  intro i hi
  rw [b_and, b_xor, b_m1 i hi, bt_bset _ n (by omega) i hi, bt_bset _ n (by omega) i hi, bt_bset _ n (by omega) i hi]
  by_cases c : i < n
  · rw [decide_eq_true c, Bool.true_and, Bool.true_and, Bool.true_and]
    unfold dFall
    rw [if_pos c]
    have h3 := (fall1 (h i (by omega))).2.2
    generalize (if 0 < f i - 1 then f i - 1 else 0) = y at *
    by_cases a1 : 0 < f i
    · by_cases a2 : 0 < y
      · rw [decide_eq_true a1, decide_eq_true a2, decide_eq_false (fun e => (h3.mp e).2 a2)]; rfl
      · rw [decide_eq_true a1, decide_eq_false a2, decide_eq_true (h3.mpr ⟨a1, a2⟩)]; rfl
    · rw [decide_eq_false a1, decide_eq_false (fun e => a1 (h3.mp e).1)]; rfl
  · rw [decide_eq_false c, Bool.false_and, Bool.false_and, Bool.false_and]; try rfl
theorem dv_fall {f : Nat → Int32} {δ : Nat → Nat → Int32} (h : ∀ k, k < 22 → f k = dv δ k) {n : Nat} (hn : n ≤ 6) : ∀ k, k < 22 → slD f n k = dv (dset δ 9 (dFall (δ 9) n)) k := by
  intro k hk
  by_cases h5 : k < 5
  · rw [slD_out (by omega), h k hk]; unfold dv; rw [if_pos h5, if_pos h5]; rfl
  · by_cases h6 : k < 11
    · obtain ⟨j, rfl⟩ : ∃ j, k = 5 + j := ⟨k - 5, by omega⟩
      rw [dv_holds _ (by omega)]
      show _ = dFall (δ 9) n j
      unfold dFall
      by_cases hj : j < n
      · rw [if_pos hj, slD_in (by omega), h _ hk, dv_holds _ (by omega)]
      · rw [if_neg hj, slD_out (by omega), h _ hk, dv_holds _ (by omega)]
    · rw [slD_out (by omega), h k hk]; unfold dv; rw [if_neg h5, if_neg h5, if_neg h6, if_neg h6]; rfl
def lfD (D : Nat → Int32) (x : Int32) (i : Nat) : Nat → Int32 := fun j => if j < i then x else D j
theorem lfD_0 (D : Nat → Int32) (x : Int32) : lfD D x 0 = D := by funext j; unfold lfD; rw [if_neg (by omega)]
theorem lfD_out {D : Nat → Int32} {x : Int32} {i j : Nat} (h : i ≤ j) : lfD D x i j = D j := if_neg (by omega)
theorem lfD_s (D : Nat → Int32) (x : Int32) (i : Nat) : upd (lfD D x i) (0 + i) x = lfD D x (i + 1) := by
  funext j
  rw [Nat.zero_add]
  unfold upd lfD
  by_cases e : j = i
  · rw [if_pos e, if_pos (by omega)]
  · rw [if_neg e]
    by_cases h : j < i
    · rw [if_pos h, if_pos (by omega)]
    · rw [if_neg h, if_neg (by omega)]
theorem dv_fill {f : Nat → Int32} {δ : Nat → Nat → Int32} (h : ∀ k, k < 22 → f k = dv δ k) (x : Int32) : ∀ k, k < 22 → lfD f x 5 k = dv (dset δ 7 (fun _ => x)) k := by
  intro k hk
  unfold lfD dv
  by_cases h5 : k < 5
  · rw [if_pos h5, if_pos h5]; rfl
  · rw [if_neg h5, if_neg h5, h k hk]; unfold dv; rw [if_neg h5]; rfl
theorem wide {m : Nat} (h : m < 2 ^ 31) : (nI m).toInt64 = lN m := by rw [fa_eq64, Int32.toInt_toInt64, nI_toInt h, pk_lT (by omega)]
def drN (z c : Nat) : Nat := (z * z + 31 * z + 17 * c + 5) % 65521 % 10
theorem drB {z c : Nat} (hz : z < 10000) (hc : c < 1000) : z * z + 31 * z + 17 * c + 5 < 2 ^ 30 := by
  have : z * z ≤ 10000 * 10000 := Nat.mul_le_mul (by omega) (by omega)
  omega
theorem draw32 {z c : Nat} (hz : z < 10000) (hc : c < 1000) : dDraw (nI z) (nI c) = nI (drN z c) := by
  unfold dDraw drN
  have h := drB hz hc
  rw [show (31 : Int32) = nI 31 from rfl, show (17 : Int32) = nI 17 from rfl, show (5 : Int32) = nI 5 from rfl, show (65521 : Int32) = nI 65521 from rfl, show (10 : Int32) = nI 10 from rfl, pk_mul, pk_mul, pk_mul, nI_add, nI_add, nI_add, pk_rem (by omega) (by decide) (by decide), pk_rem (by have := Nat.mod_lt (z * z + 31 * z + 17 * c + 5) (show 65521 > 0 by decide); omega) (by decide) (by decide)]
theorem draw64 {z c : Nat} (hz : z < 10000) (hc : c < 1000) {v : Int64} (hv : v = (nI z).toInt64 * (nI z).toInt64 + 31 * (nI z).toInt64 + 17 * (nI c).toInt64 + 5) : v - v / 65521 * 65521 - (v - v / 65521 * 65521) / 10 * 10 = lN (drN z c) := by
  have h := drB hz hc
  rw [wide (by omega), wide (by omega), show (31 : Int64) = lN 31 from rfl, show (17 : Int64) = lN 17 from rfl, show (5 : Int64) = lN 5 from rfl, lN_mul, lN_mul, lN_mul, lN_add, lN_add, lN_add] at hv
  rw [hv, show (65521 : Int64) = lN 65521 from rfl, show (10 : Int64) = lN 10 from rfl, pk_lRem (by omega) (by decide) (by decide), pk_lRem (by have := Nat.mod_lt (z * z + 31 * z + 17 * c + 5) (show 65521 > 0 by decide); omega) (by decide) (by decide)]
  rfl
theorem draw_lt {z c : Nat} (hz : z < 10000) (hc : c < 1000) {x : Int32} : lN (drN z c) < x.toInt64 ↔ dDraw (nI z) (nI c) < x := by
  rw [draw32 hz hc, ← wide (m := drN z c) (by have := Nat.mod_lt ((z * z + 31 * z + 17 * c + 5) % 65521) (show 10 > 0 by decide); unfold drN; omega), fa_wide_lt]
set_option maxHeartbeats 4000000 in
set_option maxRecDepth 100000 in
theorem l_m_sleep1 {n P W G s : Nat} {z : Int32} {D : Nat → Int32} {t τ δ : Nat → Nat → Int32} {u : Nat → Nat → Int64} {Q : Option Value → (Nat → xE) → Prop} {M0 : Nat → xE} (hn : 113 < n) (hw : RT τ P W G (t 0)) (hD : ∀ k, k < 22 → D k = dv δ k) (hF : ∀ k, k < 6 → vp_in (δ 9 k) 10) (hk : ∀ M, oX11 99 (dT t (slD D W) s) u M → xfr 99 114 M0 M → X mX11_sleep 0 0 105 [(3, .int (nI W)), (2, .int (bset (fun k => decide (δ 9 k = 1)) W)), (0, .ref 99), (1, .int z)] [] n M Q) : ∀ (k i : Nat) (M : Nat → xE), i + k = W → (oX11 99 (dT t (slD D i) s) u M) → (xfr 99 114 M0 M) → X mX11_sleep 0 0 39 [(3, .int (nI i)), (2, .int (bset (fun k => decide (δ 9 k = 1)) i)), (0, .ref 99), (1, .int z)] [] n M (Q) := by
  have hiX11 : ∀ w ∈ wsX110, w ∈ wsX11_sleep := by decide +kernel
  intro k
  induction k with
  | zero =>
    intro i M hik hM hf
    have hM0 := hM
    obtain ⟨mp0, mp1, mp2, mp3, mp4, mp5, mp6, mp7, mp8, mp9, mp10, mp11, mp12, mp13, mp14⟩ := hM
    have hP5 := rtP hw
    have hW6 := rtW hw
    have hG5 := rtG hw
    have mp1 : M (99 + 1) = .inl (0, 122, .inl (t 0)) := mp1
    have mp2 : M (99 + 2) = .inl (0, 242, .inl (slD D i)) := mp2
    refine x_iload_n (q := 40) dX11_sleep_39 rfl rfl ?_
    refine x_aload_n (q := 41) dX11_sleep_40 rfl rfl ?_
    refine x_getf (C := RX11) (T := TX11) (N := 29) (k := 0) (q := 44) mp0 (by omega) rfl hiX11 (by decide) (by decide +kernel) rfl dX11_sleep_41 rfl ?_
    refine x_bipush (v := 11) (q := 46) dX11_sleep_44 rfl (by decide) ?_
    refine x_iald (q := 47) mp1 (by omega) (ixI (show (11 : Int32) = nI 11 from rfl) (by omega) (by decide)) dX11_sleep_46 rfl ?_
    rw [ixC (show (11 : Int32) = nI 11 from rfl) (by omega)]
    rw [rtmany hw]
    refine x_icmp_ge (t := 105) (q := 50) dX11_sleep_47 (by decide) rfl (fun c47 => ?_) (fun c47 => absurd (by rw [show i = W by omega]; exact nI_le (Nat.le_refl _) (by omega)) c47)
    have e9 : i = W := by omega
    subst e9
    exact hk M hM0 hf
  | succ k ih =>
    intro i M hik hM hf
    have hM0 := hM
    obtain ⟨mp0, mp1, mp2, mp3, mp4, mp5, mp6, mp7, mp8, mp9, mp10, mp11, mp12, mp13, mp14⟩ := hM
    have hP5 := rtP hw
    have hW6 := rtW hw
    have hG5 := rtG hw
    have mp1 : M (99 + 1) = .inl (0, 122, .inl (t 0)) := mp1
    have mp2 : M (99 + 2) = .inl (0, 242, .inl (slD D i)) := mp2
    refine x_iload_n (q := 40) dX11_sleep_39 rfl rfl ?_
    refine x_aload_n (q := 41) dX11_sleep_40 rfl rfl ?_
    refine x_getf (C := RX11) (T := TX11) (N := 29) (k := 0) (q := 44) mp0 (by omega) rfl hiX11 (by decide) (by decide +kernel) rfl dX11_sleep_41 rfl ?_
    refine x_bipush (v := 11) (q := 46) dX11_sleep_44 rfl (by decide) ?_
    refine x_iald (q := 47) mp1 (by omega) (ixI (show (11 : Int32) = nI 11 from rfl) (by omega) (by decide)) dX11_sleep_46 rfl ?_
    rw [ixC (show (11 : Int32) = nI 11 from rfl) (by omega)]
    rw [rtmany hw]
    refine x_icmp_ge (t := 105) (q := 50) dX11_sleep_47 (by decide) rfl (fun c47 => absurd c47 (nI_ge (a := i) (b := W) (by omega) (by omega))) (fun c47 => ?_)
    refine x_iload_n (q := 51) dX11_sleep_50 rfl rfl ?_
    refine x_aload_n (q := 52) dX11_sleep_51 rfl rfl ?_
    refine x_getf (C := RX11) (T := TX11) (N := 29) (k := 1) (q := 55) mp0 (by omega) rfl hiX11 (by decide) (by decide +kernel) rfl dX11_sleep_52 rfl ?_
    refine x_iconst (v := 5) (q := 56) dX11_sleep_55 rfl (by decide) ?_
    refine x_iload_n (q := 57) dX11_sleep_56 rfl rfl ?_
    refine x_iadd (q := 58) dX11_sleep_57 rfl ?_
    refine x_iald (q := 59) mp2 (by omega) (ixI (show ((5 + nI i) : Int32) = nI (5 + i) from (nIs rfl rfl)) (by omega) (by decide)) dX11_sleep_58 rfl ?_
    rw [ixC (show ((5 + nI i) : Int32) = nI (5 + i) from (nIs rfl rfl)) (by omega)]
    rw [slD_out (by omega), hD _ (show 5 + i < 22 by omega), dv_holds δ (show i < 6 by omega)]
    refine x_iconst (v := 1) (q := 60) dX11_sleep_59 rfl (by decide) ?_
    refine x_icmp_ne (t := 69) (q := 63) dX11_sleep_60 (by decide) rfl (fun c60 => ?_) (fun c60 => ?_)
    · refine x_iconst (v := 0) (q := 70) dX11_sleep_69 rfl (by decide) ?_
      refine x_ior (q := 71) dX11_sleep_70 rfl ?_
      refine x_istore_n (L' := fun x2_71 => [(2, .int x2_71), (3, .int (nI i)), (0, .ref 99), (1, .int z)]) (q := 72) dX11_sleep_71 rfl (by decide) (fun _ => rfl) (fun x2_71 ex2_71 => ?_)
      obtain rfl : x2_71 = bset (fun k => decide (δ 9 k = 1)) (i + 1) := ex2_71.trans (by first | rw [bset_t (p := fun k => decide (δ 9 k = 1)) (decide_eq_true c60)] | rw [bset_f (p := fun k => decide (δ 9 k = 1)) (decide_eq_false c60), Int32.or_zero])
      refine x_aload_n (q := 73) dX11_sleep_72 rfl rfl ?_
      refine x_getf (C := RX11) (T := TX11) (N := 29) (k := 1) (q := 76) mp0 (by omega) rfl hiX11 (by decide) (by decide +kernel) rfl dX11_sleep_73 rfl ?_
      refine x_iconst (v := 5) (q := 77) dX11_sleep_76 rfl (by decide) ?_
      refine x_iload_n (q := 78) dX11_sleep_77 rfl rfl ?_
      refine x_iadd (q := 79) dX11_sleep_78 rfl ?_
      refine x_dup2 (q := 80) dX11_sleep_79 rfl rfl rfl ?_
      refine x_iald (q := 81) mp2 (by omega) (ixI (show ((5 + nI i) : Int32) = nI (5 + i) from (nIs rfl rfl)) (by omega) (by decide)) dX11_sleep_80 rfl ?_
      rw [ixC (show ((5 + nI i) : Int32) = nI (5 + i) from (nIs rfl rfl)) (by omega)]
      rw [slD_out (by omega), hD _ (show 5 + i < 22 by omega), dv_holds δ (show i < 6 by omega)]
      refine x_aload_n (q := 82) dX11_sleep_81 rfl rfl ?_
      refine x_getf (C := RX11) (T := TX11) (N := 29) (k := 1) (q := 85) mp0 (by omega) rfl hiX11 (by decide) (by decide +kernel) rfl dX11_sleep_82 rfl ?_
      refine x_iconst (v := 5) (q := 86) dX11_sleep_85 rfl (by decide) ?_
      refine x_iload_n (q := 87) dX11_sleep_86 rfl rfl ?_
      refine x_iadd (q := 88) dX11_sleep_87 rfl ?_
      refine x_iald (q := 89) mp2 (by omega) (ixI (show ((5 + nI i) : Int32) = nI (5 + i) from (nIs rfl rfl)) (by omega) (by decide)) dX11_sleep_88 rfl ?_
      rw [ixC (show ((5 + nI i) : Int32) = nI (5 + i) from (nIs rfl rfl)) (by omega)]
      rw [slD_out (by omega), hD _ (show 5 + i < 22 by omega), dv_holds δ (show i < 6 by omega)]
      refine x_if_le (t := 96) (q := 92) dX11_sleep_89 (by decide) rfl (fun c89 => ?_) (fun c89 => ?_)
      · refine x_iconst (v := 0) (q := 97) dX11_sleep_96 rfl (by decide) ?_
        refine x_isub (q := 98) dX11_sleep_97 rfl ?_
        refine x_iast (q := 99) mp2 (by omega) (ixI (show ((5 + nI i) : Int32) = nI (5 + i) from (nIs rfl rfl)) (by omega) (by decide)) dX11_sleep_98 rfl (fun M98 w98 o98 => ?_)
        rw [ixC (show ((5 + nI i) : Int32) = nI (5 + i) from (nIs rfl rfl)) (by omega)] at w98
        refine x_iinc (L' := fun x3_99 => [(3, .int x3_99), (2, .int (bset (fun k => decide (δ 9 k = 1)) (i + 1))), (0, .ref 99), (1, .int z)]) (q := 102) dX11_sleep_99 rfl rfl (by decide) (fun _ => rfl) (fun x3_99 ex3_99 => ?_)
        obtain rfl : x3_99 = nI (i + 1) := ex3_99.trans (nI_1 i)
        refine x_goto (q := 39) dX11_sleep_102 (by decide) ?_
        rw [slD_s (D := D) (i := i) (by rw [hD _ (show 5 + i < 22 by omega), dv_holds δ (show i < 6 by omega)]; first | exact (fall1 (hF i (by omega))).1 c89 | exact (fall1 (hF i (by omega))).2.1 c89)] at w98
        have hv1_1_99 := ((o98 (99) (by omega)).trans mp0)
        have hv1_2_100 := ((o98 (100) (by omega)).trans mp1)
        have hv1_3_102 := ((o98 (102) (by omega)).trans mp3)
        have hv1_4_103 := ((o98 (103) (by omega)).trans mp4)
        have hv1_5_104 := ((o98 (104) (by omega)).trans mp5)
        have hv1_6_105 := ((o98 (105) (by omega)).trans mp6)
        have hv1_7_106 := ((o98 (106) (by omega)).trans mp7)
        have hv1_8_107 := ((o98 (107) (by omega)).trans mp8)
        have hv1_9_108 := ((o98 (108) (by omega)).trans mp9)
        have hv1_10_109 := ((o98 (109) (by omega)).trans mp10)
        have hv1_11_110 := ((o98 (110) (by omega)).trans mp11)
        have hv1_12_111 := ((o98 (111) (by omega)).trans mp12)
        have hv1_13_112 := ((o98 (112) (by omega)).trans mp13)
        have hv1_14_113 := ((o98 (113) (by omega)).trans mp14)
        refine x_pick (L' := [(3, .int (nI (i + 1))), (2, .int (bset (fun k => decide (δ 9 k = 1)) (i + 1))), (0, .ref 99), (1, .int z)]) [0, 1, 2, 3] rfl ?_
        exact ih (i + 1) M98 (by omega) ⟨hv1_1_99, hv1_2_100, w98, hv1_3_102, hv1_4_103, hv1_5_104, hv1_6_105, hv1_7_106, hv1_8_107, hv1_9_108, hv1_10_109, hv1_11_110, hv1_12_111, hv1_13_112, hv1_14_113⟩ (fun j hj => ((o98 j (by omega)).trans (hf j hj)))
      · refine x_iconst (v := 1) (q := 93) dX11_sleep_92 rfl (by decide) ?_
        refine x_goto (q := 97) dX11_sleep_93 (by decide) ?_
        refine x_isub (q := 98) dX11_sleep_97 rfl ?_
        refine x_iast (q := 99) mp2 (by omega) (ixI (show ((5 + nI i) : Int32) = nI (5 + i) from (nIs rfl rfl)) (by omega) (by decide)) dX11_sleep_98 rfl (fun M98 w98 o98 => ?_)
        rw [ixC (show ((5 + nI i) : Int32) = nI (5 + i) from (nIs rfl rfl)) (by omega)] at w98
        refine x_iinc (L' := fun x3_99 => [(3, .int x3_99), (2, .int (bset (fun k => decide (δ 9 k = 1)) (i + 1))), (0, .ref 99), (1, .int z)]) (q := 102) dX11_sleep_99 rfl rfl (by decide) (fun _ => rfl) (fun x3_99 ex3_99 => ?_)
        obtain rfl : x3_99 = nI (i + 1) := ex3_99.trans (nI_1 i)
        refine x_goto (q := 39) dX11_sleep_102 (by decide) ?_
        rw [slD_s (D := D) (i := i) (by rw [hD _ (show 5 + i < 22 by omega), dv_holds δ (show i < 6 by omega)]; first | exact (fall1 (hF i (by omega))).1 c89 | exact (fall1 (hF i (by omega))).2.1 c89)] at w98
        have hv1_1_99 := ((o98 (99) (by omega)).trans mp0)
        have hv1_2_100 := ((o98 (100) (by omega)).trans mp1)
        have hv1_3_102 := ((o98 (102) (by omega)).trans mp3)
        have hv1_4_103 := ((o98 (103) (by omega)).trans mp4)
        have hv1_5_104 := ((o98 (104) (by omega)).trans mp5)
        have hv1_6_105 := ((o98 (105) (by omega)).trans mp6)
        have hv1_7_106 := ((o98 (106) (by omega)).trans mp7)
        have hv1_8_107 := ((o98 (107) (by omega)).trans mp8)
        have hv1_9_108 := ((o98 (108) (by omega)).trans mp9)
        have hv1_10_109 := ((o98 (109) (by omega)).trans mp10)
        have hv1_11_110 := ((o98 (110) (by omega)).trans mp11)
        have hv1_12_111 := ((o98 (111) (by omega)).trans mp12)
        have hv1_13_112 := ((o98 (112) (by omega)).trans mp13)
        have hv1_14_113 := ((o98 (113) (by omega)).trans mp14)
        refine x_pick (L' := [(3, .int (nI (i + 1))), (2, .int (bset (fun k => decide (δ 9 k = 1)) (i + 1))), (0, .ref 99), (1, .int z)]) [0, 1, 2, 3] rfl ?_
        exact ih (i + 1) M98 (by omega) ⟨hv1_1_99, hv1_2_100, w98, hv1_3_102, hv1_4_103, hv1_5_104, hv1_6_105, hv1_7_106, hv1_8_107, hv1_9_108, hv1_10_109, hv1_11_110, hv1_12_111, hv1_13_112, hv1_14_113⟩ (fun j hj => ((o98 j (by omega)).trans (hf j hj)))
    · refine x_iconst (v := 1) (q := 64) dX11_sleep_63 rfl (by decide) ?_
      refine x_iload_n (q := 65) dX11_sleep_64 rfl rfl ?_
      refine x_ishl (q := 66) dX11_sleep_65 rfl ?_
      refine x_goto (q := 70) dX11_sleep_66 (by decide) ?_
      refine x_ior (q := 71) dX11_sleep_70 rfl ?_
      refine x_istore_n (L' := fun x2_71 => [(2, .int x2_71), (3, .int (nI i)), (0, .ref 99), (1, .int z)]) (q := 72) dX11_sleep_71 rfl (by decide) (fun _ => rfl) (fun x2_71 ex2_71 => ?_)
      obtain rfl : x2_71 = bset (fun k => decide (δ 9 k = 1)) (i + 1) := ex2_71.trans (by first | rw [bset_t (p := fun k => decide (δ 9 k = 1)) (decide_eq_true c60)] | rw [bset_f (p := fun k => decide (δ 9 k = 1)) (decide_eq_false c60), Int32.or_zero])
      refine x_aload_n (q := 73) dX11_sleep_72 rfl rfl ?_
      refine x_getf (C := RX11) (T := TX11) (N := 29) (k := 1) (q := 76) mp0 (by omega) rfl hiX11 (by decide) (by decide +kernel) rfl dX11_sleep_73 rfl ?_
      refine x_iconst (v := 5) (q := 77) dX11_sleep_76 rfl (by decide) ?_
      refine x_iload_n (q := 78) dX11_sleep_77 rfl rfl ?_
      refine x_iadd (q := 79) dX11_sleep_78 rfl ?_
      refine x_dup2 (q := 80) dX11_sleep_79 rfl rfl rfl ?_
      refine x_iald (q := 81) mp2 (by omega) (ixI (show ((5 + nI i) : Int32) = nI (5 + i) from (nIs rfl rfl)) (by omega) (by decide)) dX11_sleep_80 rfl ?_
      rw [ixC (show ((5 + nI i) : Int32) = nI (5 + i) from (nIs rfl rfl)) (by omega)]
      rw [slD_out (by omega), hD _ (show 5 + i < 22 by omega), dv_holds δ (show i < 6 by omega)]
      refine x_aload_n (q := 82) dX11_sleep_81 rfl rfl ?_
      refine x_getf (C := RX11) (T := TX11) (N := 29) (k := 1) (q := 85) mp0 (by omega) rfl hiX11 (by decide) (by decide +kernel) rfl dX11_sleep_82 rfl ?_
      refine x_iconst (v := 5) (q := 86) dX11_sleep_85 rfl (by decide) ?_
      refine x_iload_n (q := 87) dX11_sleep_86 rfl rfl ?_
      refine x_iadd (q := 88) dX11_sleep_87 rfl ?_
      refine x_iald (q := 89) mp2 (by omega) (ixI (show ((5 + nI i) : Int32) = nI (5 + i) from (nIs rfl rfl)) (by omega) (by decide)) dX11_sleep_88 rfl ?_
      rw [ixC (show ((5 + nI i) : Int32) = nI (5 + i) from (nIs rfl rfl)) (by omega)]
      rw [slD_out (by omega), hD _ (show 5 + i < 22 by omega), dv_holds δ (show i < 6 by omega)]
      refine x_if_le (t := 96) (q := 92) dX11_sleep_89 (by decide) rfl (fun c89 => ?_) (fun c89 => ?_)
      · refine x_iconst (v := 0) (q := 97) dX11_sleep_96 rfl (by decide) ?_
        refine x_isub (q := 98) dX11_sleep_97 rfl ?_
        refine x_iast (q := 99) mp2 (by omega) (ixI (show ((5 + nI i) : Int32) = nI (5 + i) from (nIs rfl rfl)) (by omega) (by decide)) dX11_sleep_98 rfl (fun M98 w98 o98 => ?_)
        rw [ixC (show ((5 + nI i) : Int32) = nI (5 + i) from (nIs rfl rfl)) (by omega)] at w98
        refine x_iinc (L' := fun x3_99 => [(3, .int x3_99), (2, .int (bset (fun k => decide (δ 9 k = 1)) (i + 1))), (0, .ref 99), (1, .int z)]) (q := 102) dX11_sleep_99 rfl rfl (by decide) (fun _ => rfl) (fun x3_99 ex3_99 => ?_)
        obtain rfl : x3_99 = nI (i + 1) := ex3_99.trans (nI_1 i)
        refine x_goto (q := 39) dX11_sleep_102 (by decide) ?_
        rw [slD_s (D := D) (i := i) (by rw [hD _ (show 5 + i < 22 by omega), dv_holds δ (show i < 6 by omega)]; first | exact (fall1 (hF i (by omega))).1 c89 | exact (fall1 (hF i (by omega))).2.1 c89)] at w98
        have hv1_1_99 := ((o98 (99) (by omega)).trans mp0)
        have hv1_2_100 := ((o98 (100) (by omega)).trans mp1)
        have hv1_3_102 := ((o98 (102) (by omega)).trans mp3)
        have hv1_4_103 := ((o98 (103) (by omega)).trans mp4)
        have hv1_5_104 := ((o98 (104) (by omega)).trans mp5)
        have hv1_6_105 := ((o98 (105) (by omega)).trans mp6)
        have hv1_7_106 := ((o98 (106) (by omega)).trans mp7)
        have hv1_8_107 := ((o98 (107) (by omega)).trans mp8)
        have hv1_9_108 := ((o98 (108) (by omega)).trans mp9)
        have hv1_10_109 := ((o98 (109) (by omega)).trans mp10)
        have hv1_11_110 := ((o98 (110) (by omega)).trans mp11)
        have hv1_12_111 := ((o98 (111) (by omega)).trans mp12)
        have hv1_13_112 := ((o98 (112) (by omega)).trans mp13)
        have hv1_14_113 := ((o98 (113) (by omega)).trans mp14)
        refine x_pick (L' := [(3, .int (nI (i + 1))), (2, .int (bset (fun k => decide (δ 9 k = 1)) (i + 1))), (0, .ref 99), (1, .int z)]) [0, 1, 2, 3] rfl ?_
        exact ih (i + 1) M98 (by omega) ⟨hv1_1_99, hv1_2_100, w98, hv1_3_102, hv1_4_103, hv1_5_104, hv1_6_105, hv1_7_106, hv1_8_107, hv1_9_108, hv1_10_109, hv1_11_110, hv1_12_111, hv1_13_112, hv1_14_113⟩ (fun j hj => ((o98 j (by omega)).trans (hf j hj)))
      · refine x_iconst (v := 1) (q := 93) dX11_sleep_92 rfl (by decide) ?_
        refine x_goto (q := 97) dX11_sleep_93 (by decide) ?_
        refine x_isub (q := 98) dX11_sleep_97 rfl ?_
        refine x_iast (q := 99) mp2 (by omega) (ixI (show ((5 + nI i) : Int32) = nI (5 + i) from (nIs rfl rfl)) (by omega) (by decide)) dX11_sleep_98 rfl (fun M98 w98 o98 => ?_)
        rw [ixC (show ((5 + nI i) : Int32) = nI (5 + i) from (nIs rfl rfl)) (by omega)] at w98
        refine x_iinc (L' := fun x3_99 => [(3, .int x3_99), (2, .int (bset (fun k => decide (δ 9 k = 1)) (i + 1))), (0, .ref 99), (1, .int z)]) (q := 102) dX11_sleep_99 rfl rfl (by decide) (fun _ => rfl) (fun x3_99 ex3_99 => ?_)
        obtain rfl : x3_99 = nI (i + 1) := ex3_99.trans (nI_1 i)
        refine x_goto (q := 39) dX11_sleep_102 (by decide) ?_
        rw [slD_s (D := D) (i := i) (by rw [hD _ (show 5 + i < 22 by omega), dv_holds δ (show i < 6 by omega)]; first | exact (fall1 (hF i (by omega))).1 c89 | exact (fall1 (hF i (by omega))).2.1 c89)] at w98
        have hv1_1_99 := ((o98 (99) (by omega)).trans mp0)
        have hv1_2_100 := ((o98 (100) (by omega)).trans mp1)
        have hv1_3_102 := ((o98 (102) (by omega)).trans mp3)
        have hv1_4_103 := ((o98 (103) (by omega)).trans mp4)
        have hv1_5_104 := ((o98 (104) (by omega)).trans mp5)
        have hv1_6_105 := ((o98 (105) (by omega)).trans mp6)
        have hv1_7_106 := ((o98 (106) (by omega)).trans mp7)
        have hv1_8_107 := ((o98 (107) (by omega)).trans mp8)
        have hv1_9_108 := ((o98 (108) (by omega)).trans mp9)
        have hv1_10_109 := ((o98 (109) (by omega)).trans mp10)
        have hv1_11_110 := ((o98 (110) (by omega)).trans mp11)
        have hv1_12_111 := ((o98 (111) (by omega)).trans mp12)
        have hv1_13_112 := ((o98 (112) (by omega)).trans mp13)
        have hv1_14_113 := ((o98 (113) (by omega)).trans mp14)
        refine x_pick (L' := [(3, .int (nI (i + 1))), (2, .int (bset (fun k => decide (δ 9 k = 1)) (i + 1))), (0, .ref 99), (1, .int z)]) [0, 1, 2, 3] rfl ?_
        exact ih (i + 1) M98 (by omega) ⟨hv1_1_99, hv1_2_100, w98, hv1_3_102, hv1_4_103, hv1_5_104, hv1_6_105, hv1_7_106, hv1_8_107, hv1_9_108, hv1_10_109, hv1_11_110, hv1_12_111, hv1_13_112, hv1_14_113⟩ (fun j hj => ((o98 j (by omega)).trans (hf j hj)))

set_option maxHeartbeats 4000000 in
set_option maxRecDepth 100000 in
theorem l_m_sleep2 {n P W G s : Nat} {fell : Int32} {D : Nat → Int32} {t τ : Nat → Nat → Int32} {u : Nat → Nat → Int64} {Q : Option Value → (Nat → xE) → Prop} {M0 : Nat → xE} (hn : 113 < n) (hw : RT τ P W G (t 0)) (hQ : ∀ M, oX11 99 (dT t (upd (upd (upd (lfD D (τ 12 0) 5) 16 (D 17)) 17 0) 20 (D 20 + 1)) s) u M → xfr 99 114 M0 M → Q (some (.int fell)) M) : ∀ (k i : Nat) (M : Nat → xE), i + k = 5 → (oX11 99 (dT t (lfD D (τ 12 0) i) s) u M) → (xfr 99 114 M0 M) → X mX11_sleep 0 0 193 [(6, .int (nI i)), (2, .int fell), (0, .ref 99)] [] n M (Q) := by
  have hiX11 : ∀ w ∈ wsX110, w ∈ wsX11_sleep := by decide +kernel
  intro k
  induction k with
  | zero =>
    intro i M hik hM hf
    have hM0 := hM
    obtain ⟨mp0, mp1, mp2, mp3, mp4, mp5, mp6, mp7, mp8, mp9, mp10, mp11, mp12, mp13, mp14⟩ := hM
    have hP5 := rtP hw
    have hW6 := rtW hw
    have hG5 := rtG hw
    have mp1 : M (99 + 1) = .inl (0, 122, .inl (t 0)) := mp1
    have mp2 : M (99 + 2) = .inl (0, 242, .inl (lfD D (τ 12 0) i)) := mp2
    refine x_iload (q := 195) dX11_sleep_193 rfl rfl ?_
    refine x_iconst (v := 5) (q := 196) dX11_sleep_195 rfl (by decide) ?_
    refine x_icmp_ge (t := 221) (q := 199) dX11_sleep_196 (by decide) rfl (fun c196 => ?_) (fun c196 => absurd (by rw [show i = 5 by omega]; exact nI_le (Nat.le_refl _) (by omega)) c196)
    refine x_aload_n (q := 222) dX11_sleep_221 rfl rfl ?_
    refine x_getf (C := RX11) (T := TX11) (N := 29) (k := 1) (q := 225) mp0 (by omega) rfl hiX11 (by decide) (by decide +kernel) rfl dX11_sleep_222 rfl ?_
    refine x_bipush (v := 16) (q := 227) dX11_sleep_225 rfl (by decide) ?_
    refine x_aload_n (q := 228) dX11_sleep_227 rfl rfl ?_
    refine x_getf (C := RX11) (T := TX11) (N := 29) (k := 1) (q := 231) mp0 (by omega) rfl hiX11 (by decide) (by decide +kernel) rfl dX11_sleep_228 rfl ?_
    refine x_bipush (v := 17) (q := 233) dX11_sleep_231 rfl (by decide) ?_
    refine x_iald (q := 234) mp2 (by omega) (ixI (show (17 : Int32) = nI 17 from rfl) (by omega) (by decide)) dX11_sleep_233 rfl ?_
    rw [ixC (show (17 : Int32) = nI 17 from rfl) (by omega)]
    rw [lfD_out (show i ≤ 17 by omega)]
    refine x_iast (q := 235) mp2 (by omega) (ixI (show (16 : Int32) = nI 16 from rfl) (by omega) (by decide)) dX11_sleep_234 rfl (fun M234 w234 o234 => ?_)
    rw [ixC (show (16 : Int32) = nI 16 from rfl) (by omega)] at w234
    refine x_aload_n (q := 236) dX11_sleep_235 rfl rfl ?_
    have hv1_1_99 := ((o234 (99) (by omega)).trans mp0)
    refine x_getf (C := RX11) (T := TX11) (N := 29) (k := 1) (q := 239) hv1_1_99 (by omega) rfl hiX11 (by decide) (by decide +kernel) rfl dX11_sleep_236 rfl ?_
    refine x_bipush (v := 17) (q := 241) dX11_sleep_239 rfl (by decide) ?_
    refine x_iconst (v := 0) (q := 242) dX11_sleep_241 rfl (by decide) ?_
    refine x_iast (q := 243) w234 (by omega) (ixI (show (17 : Int32) = nI 17 from rfl) (by omega) (by decide)) dX11_sleep_242 rfl (fun M242 w242 o242 => ?_)
    rw [ixC (show (17 : Int32) = nI 17 from rfl) (by omega)] at w242
    refine x_aload_n (q := 244) dX11_sleep_243 rfl rfl ?_
    have hv2_2_99 := ((o242 (99) (by omega)).trans hv1_1_99)
    refine x_getf (C := RX11) (T := TX11) (N := 29) (k := 1) (q := 247) hv2_2_99 (by omega) rfl hiX11 (by decide) (by decide +kernel) rfl dX11_sleep_244 rfl ?_
    refine x_bipush (v := 20) (q := 249) dX11_sleep_247 rfl (by decide) ?_
    refine x_dup2 (q := 250) dX11_sleep_249 rfl rfl rfl ?_
    refine x_iald (q := 251) w242 (by omega) (ixI (show (20 : Int32) = nI 20 from rfl) (by omega) (by decide)) dX11_sleep_250 rfl ?_
    rw [ixC (show (20 : Int32) = nI 20 from rfl) (by omega)]
    rw [upd_ne (show ¬ (20 : Nat) = 17 by decide), upd_ne (show ¬ (20 : Nat) = 16 by decide), lfD_out (show i ≤ 20 by omega)]
    refine x_iconst (v := 1) (q := 252) dX11_sleep_251 rfl (by decide) ?_
    refine x_iadd (q := 253) dX11_sleep_252 rfl ?_
    refine x_iast (q := 254) w242 (by omega) (ixI (show (20 : Int32) = nI 20 from rfl) (by omega) (by decide)) dX11_sleep_253 rfl (fun M253 w253 o253 => ?_)
    rw [ixC (show (20 : Int32) = nI 20 from rfl) (by omega)] at w253
    refine x_iload_n (q := 255) dX11_sleep_254 rfl rfl ?_
    refine x_iret dX11_sleep_255 rfl rfl (Nat.le_refl _) ?_
    have e9 : i = 5 := by omega
    subst e9
    have hv3_3_99 := ((o253 (99) (by omega)).trans hv2_2_99)
    have hv3_4_100 := ((o253 (100) (by omega)).trans ((o242 (100) (by omega)).trans ((o234 (100) (by omega)).trans mp1)))
    have hv3_5_102 := ((o253 (102) (by omega)).trans ((o242 (102) (by omega)).trans ((o234 (102) (by omega)).trans mp3)))
    have hv3_6_103 := ((o253 (103) (by omega)).trans ((o242 (103) (by omega)).trans ((o234 (103) (by omega)).trans mp4)))
    have hv3_7_104 := ((o253 (104) (by omega)).trans ((o242 (104) (by omega)).trans ((o234 (104) (by omega)).trans mp5)))
    have hv3_8_105 := ((o253 (105) (by omega)).trans ((o242 (105) (by omega)).trans ((o234 (105) (by omega)).trans mp6)))
    have hv3_9_106 := ((o253 (106) (by omega)).trans ((o242 (106) (by omega)).trans ((o234 (106) (by omega)).trans mp7)))
    have hv3_10_107 := ((o253 (107) (by omega)).trans ((o242 (107) (by omega)).trans ((o234 (107) (by omega)).trans mp8)))
    have hv3_11_108 := ((o253 (108) (by omega)).trans ((o242 (108) (by omega)).trans ((o234 (108) (by omega)).trans mp9)))
    have hv3_12_109 := ((o253 (109) (by omega)).trans ((o242 (109) (by omega)).trans ((o234 (109) (by omega)).trans mp10)))
    have hv3_13_110 := ((o253 (110) (by omega)).trans ((o242 (110) (by omega)).trans ((o234 (110) (by omega)).trans mp11)))
    have hv3_14_111 := ((o253 (111) (by omega)).trans ((o242 (111) (by omega)).trans ((o234 (111) (by omega)).trans mp12)))
    have hv3_15_112 := ((o253 (112) (by omega)).trans ((o242 (112) (by omega)).trans ((o234 (112) (by omega)).trans mp13)))
    have hv3_16_113 := ((o253 (113) (by omega)).trans ((o242 (113) (by omega)).trans ((o234 (113) (by omega)).trans mp14)))
    exact hQ _ ⟨hv3_3_99, hv3_4_100, w253, hv3_5_102, hv3_6_103, hv3_7_104, hv3_8_105, hv3_9_106, hv3_10_107, hv3_11_108, hv3_12_109, hv3_13_110, hv3_14_111, hv3_15_112, hv3_16_113⟩ (fun j hj => ((o253 j (by omega)).trans ((o242 j (by omega)).trans ((o234 j (by omega)).trans (hf j hj)))))
  | succ k ih =>
    intro i M hik hM hf
    have hM0 := hM
    obtain ⟨mp0, mp1, mp2, mp3, mp4, mp5, mp6, mp7, mp8, mp9, mp10, mp11, mp12, mp13, mp14⟩ := hM
    have hP5 := rtP hw
    have hW6 := rtW hw
    have hG5 := rtG hw
    have mp1 : M (99 + 1) = .inl (0, 122, .inl (t 0)) := mp1
    have mp2 : M (99 + 2) = .inl (0, 242, .inl (lfD D (τ 12 0) i)) := mp2
    refine x_iload (q := 195) dX11_sleep_193 rfl rfl ?_
    refine x_iconst (v := 5) (q := 196) dX11_sleep_195 rfl (by decide) ?_
    refine x_icmp_ge (t := 221) (q := 199) dX11_sleep_196 (by decide) rfl (fun c196 => absurd c196 (nI_ge (a := i) (b := 5) (by omega) (by omega))) (fun c196 => ?_)
    refine x_aload_n (q := 200) dX11_sleep_199 rfl rfl ?_
    refine x_getf (C := RX11) (T := TX11) (N := 29) (k := 1) (q := 203) mp0 (by omega) rfl hiX11 (by decide) (by decide +kernel) rfl dX11_sleep_200 rfl ?_
    refine x_iconst (v := 0) (q := 204) dX11_sleep_203 rfl (by decide) ?_
    refine x_iload (q := 206) dX11_sleep_204 rfl rfl ?_
    refine x_iadd (q := 207) dX11_sleep_206 rfl ?_
    refine x_aload_n (q := 208) dX11_sleep_207 rfl rfl ?_
    refine x_getf (C := RX11) (T := TX11) (N := 29) (k := 0) (q := 211) mp0 (by omega) rfl hiX11 (by decide) (by decide +kernel) rfl dX11_sleep_208 rfl ?_
    refine x_bipush (v := 36) (q := 213) dX11_sleep_211 rfl (by decide) ?_
    refine x_iald (q := 214) mp1 (by omega) (ixI (show (36 : Int32) = nI 36 from rfl) (by omega) (by decide)) dX11_sleep_213 rfl ?_
    rw [ixC (show (36 : Int32) = nI 36 from rfl) (by omega)]
    rw [rtlen hw]
    refine x_iast (q := 215) mp2 (by omega) (ixI (show ((0 + nI i) : Int32) = nI (0 + i) from (nIs rfl rfl)) (by omega) (by decide)) dX11_sleep_214 rfl (fun M214 w214 o214 => ?_)
    rw [ixC (show ((0 + nI i) : Int32) = nI (0 + i) from (nIs rfl rfl)) (by omega)] at w214
    refine x_iinc (L' := fun x6_215 => [(6, .int x6_215), (2, .int fell), (0, .ref 99)]) (q := 218) dX11_sleep_215 rfl rfl (by decide) (fun _ => rfl) (fun x6_215 ex6_215 => ?_)
    obtain rfl : x6_215 = nI (i + 1) := ex6_215.trans (nI_1 i)
    refine x_goto (q := 193) dX11_sleep_218 (by decide) ?_
    rw [lfD_s] at w214
    have hv1_1_99 := ((o214 (99) (by omega)).trans mp0)
    have hv1_2_100 := ((o214 (100) (by omega)).trans mp1)
    have hv1_3_102 := ((o214 (102) (by omega)).trans mp3)
    have hv1_4_103 := ((o214 (103) (by omega)).trans mp4)
    have hv1_5_104 := ((o214 (104) (by omega)).trans mp5)
    have hv1_6_105 := ((o214 (105) (by omega)).trans mp6)
    have hv1_7_106 := ((o214 (106) (by omega)).trans mp7)
    have hv1_8_107 := ((o214 (107) (by omega)).trans mp8)
    have hv1_9_108 := ((o214 (108) (by omega)).trans mp9)
    have hv1_10_109 := ((o214 (109) (by omega)).trans mp10)
    have hv1_11_110 := ((o214 (110) (by omega)).trans mp11)
    have hv1_12_111 := ((o214 (111) (by omega)).trans mp12)
    have hv1_13_112 := ((o214 (112) (by omega)).trans mp13)
    have hv1_14_113 := ((o214 (113) (by omega)).trans mp14)
    refine x_pick (L' := [(6, .int (nI (i + 1))), (2, .int fell), (0, .ref 99)]) [0, 1, 2] rfl ?_
    exact ih (i + 1) M214 (by omega) ⟨hv1_1_99, hv1_2_100, w214, hv1_3_102, hv1_4_103, hv1_5_104, hv1_6_105, hv1_7_106, hv1_8_107, hv1_9_108, hv1_10_109, hv1_11_110, hv1_12_111, hv1_13_112, hv1_14_113⟩ (fun j hj => ((o214 j (by omega)).trans (hf j hj)))

set_option maxHeartbeats 4000000 in
set_option maxRecDepth 100000 in
theorem c_m_sleep {n : Nat} {M : Nat → xE} {t : Nat → Nat → Int32} {u : Nat → Nat → Int64} (hn : 113 < n) (hM : oX11 99 t u M) {τ : Nat → Nat → Int32} {P W G : Nat} (hw : RT τ P W G (t 0)) {δ : Nat → Nat → Int32} (hd : ∀ k, k < 22 → t 1 k = dv δ k) {c : Nat} (hc : c < 1000) (hc0 : δ 0 0 = nI c) {sz : Nat} (hsz : sz ≤ 8) (h2 : t 2 0 = nI sz) (hF : ∀ k, k < 6 → vp_in (δ 9 k) 10) {wd : Nat} (hwd : wd < 4) (hwd0 : δ 1 0 = nI wd) {z : Int32} : xMet mX11_sleep [.ref 99, .int z] n M (fun r M' => (if inB z 10000 = true then (if δ 0 0 < 999 then (some (.int (dFell (δ 9) W)) = r ∧ mDeed t u sz (dCent δ τ z W) M M') else (M = M' ∧ some (.int (-5)) = r)) else (M = M' ∧ some (.int (-3)) = r))) := by
  have hM0 := hM
  obtain ⟨mp0, mp1, mp2, mp3, mp4, mp5, mp6, mp7, mp8, mp9, mp10, mp11, mp12, mp13, mp14⟩ := hM
  have hP5 := rtP hw
  have hW6 := rtW hw
  have hG5 := rtG hw
  have hiX11 : ∀ w ∈ wsX110, w ∈ wsX11_sleep := by decide +kernel
  refine xMet.of _ (by decide) rfl (Nat.le_of_ble_eq_true rfl) ?_
  refine x_iload_n (q := 1) dX11_sleep_0 rfl rfl ?_
  refine x_i2l (q := 2) dX11_sleep_1 rfl ?_
  refine x_lconst (v := 0) (q := 3) dX11_sleep_2 rfl (by decide) ?_
  refine x_ldc2 (v := 9999) (q := 6) (by decide +kernel) dX11_sleep_3 rfl ?_
  refine x_callS (q := 9) c_m_in eX11_sleep_65 gX11_sleep_X11_in rfl (Nat.le_of_ble_eq_true rfl) ⟨Nat.le_refl _, Nat.le_refl _⟩ dX11_sleep_6 rfl rfl (fun r6 M6 p6 => ?_)
  obtain ⟨rfl, p6⟩ := p6
  rcases p6 with ⟨b6, rfl⟩ | ⟨b6, rfl⟩
  · obtain ⟨z1, hz1, rfl⟩ := vp_in_of (inB_t.mp ((mIn2 (k := 9999) (by decide) rfl).mp b6)) (by decide)
    refine x_if_ne (t := 15) (q := 12) dX11_sleep_9 (by decide) rfl (fun c9 => ?_) (fun c9 => absurd c9 (by decide))
    refine x_aload_n (q := 16) dX11_sleep_15 rfl rfl ?_
    refine x_getf (C := RX11) (T := TX11) (N := 29) (k := 1) (q := 19) mp0 (by omega) rfl hiX11 (by decide) (by decide +kernel) rfl dX11_sleep_16 rfl ?_
    refine x_bipush (v := 20) (q := 21) dX11_sleep_19 rfl (by decide) ?_
    refine x_iald (q := 22) mp2 (by omega) (ixI (show (20 : Int32) = nI 20 from rfl) (by omega) (by decide)) dX11_sleep_21 rfl ?_
    rw [ixC (show (20 : Int32) = nI 20 from rfl) (by omega)]
    rw [show t 1 20 = nI c from (rdcent hd).trans hc0]
    refine x_sipush (v := 999) (q := 25) dX11_sleep_22 rfl (by decide) ?_
    refine x_icmp_ne (t := 31) (q := 28) dX11_sleep_25 (by decide) rfl (fun c25 => ?_) (fun c25 => ?_)
    · refine x_aload_n (q := 32) dX11_sleep_31 rfl rfl ?_
      refine x_callV (q := 35) (ci := 11) (c_m_minds hn hM0 hsz h2) eX11_sleep_202 gX11_sleep_X11_minds mp0 (by omega) rfl rfl rfl (Nat.le_of_ble_eq_true rfl) ⟨Nat.le_refl _, Nat.le_refl _⟩ dX11_sleep_32 rfl rfl (fun r32 M32 p32 => ?_)
      obtain ⟨rfl, hV32, fr32⟩ := p32
      have hU32 := hV32
      obtain ⟨y32_0, y32_1, y32_2, y32_3, y32_4, y32_5, y32_6, y32_7, y32_8, y32_9, y32_10, y32_11, y32_12, y32_13, y32_14⟩ := hV32
      have y32_1 : M32 (99 + 1) = .inl (0, 122, .inl (t 0)) := y32_1
      have y32_2 : M32 (99 + 2) = .inl (0, 242, .inl (mindD (t 1) sz)) := y32_2
      have hdm : ∀ k, k < 22 → mindD (t 1) sz k = dv δ k := fun k hk => (mindD_lo (t 1) (by omega)).trans (hd k hk)
      refine x_iconst (v := 0) (q := 36) dX11_sleep_35 rfl (by decide) ?_
      refine x_istore_n (L' := fun x2_36 => [(2, .int x2_36), (0, .ref 99), (1, .int (nI z1))]) (q := 37) dX11_sleep_36 rfl (by decide) (fun _ => rfl) (fun x2_36 ex2_36 => ?_)
      refine x_iconst (v := 0) (q := 38) dX11_sleep_37 rfl (by decide) ?_
      refine x_istore_n (L' := fun x3_38 => [(3, .int x3_38), (2, .int x2_36), (0, .ref 99), (1, .int (nI z1))]) (q := 39) dX11_sleep_38 rfl (by decide) (fun _ => rfl) (fun x3_38 ex3_38 => ?_)
      subst ex2_36
      subst ex3_38
      refine l_m_sleep1 (t := t) (u := u) (s := pSz sz) (D := mindD (t 1) sz) (M0 := M32) hn hw hdm hF (fun M105 k1 k2 => ?_) W 0 M32 (by omega) ⟨y32_0, y32_1, by rw [y32_2]; show _ = Sum.inl (0, 242, Sum.inl (slD (mindD (t 1) sz) 0)); rw [slD_0], y32_3, y32_4, y32_5, y32_6, y32_7, y32_8, y32_9, y32_10, y32_11, y32_12, y32_13, y32_14⟩ (fun j _ => rfl)
      obtain ⟨kp0, kp1, kp2, kp3, kp4, kp5, kp6, kp7, kp8, kp9, kp10, kp11, kp12, kp13, kp14⟩ := k1
      have kp1 : M105 (99 + 1) = .inl (0, 122, .inl (t 0)) := kp1
      have kp2 : M105 (99 + 2) = .inl (0, 242, .inl (slD (mindD (t 1) sz) W)) := kp2
      have hd2 := dv_fall hdm (n := W) (by omega)
      refine x_iload_n (q := 106) dX11_sleep_105 rfl rfl ?_
      refine x_i2l (q := 107) dX11_sleep_106 rfl ?_
      refine x_iload_n (q := 108) dX11_sleep_107 rfl rfl ?_
      refine x_i2l (q := 109) dX11_sleep_108 rfl ?_
      refine x_lmul (q := 110) dX11_sleep_109 rfl ?_
      refine x_ldc2 (v := 31) (q := 113) (by decide +kernel) dX11_sleep_110 rfl ?_
      refine x_iload_n (q := 114) dX11_sleep_113 rfl rfl ?_
      refine x_i2l (q := 115) dX11_sleep_114 rfl ?_
      refine x_lmul (q := 116) dX11_sleep_115 rfl ?_
      refine x_ladd (q := 117) dX11_sleep_116 rfl ?_
      refine x_ldc2 (v := 17) (q := 120) (by decide +kernel) dX11_sleep_117 rfl ?_
      refine x_aload_n (q := 121) dX11_sleep_120 rfl rfl ?_
      refine x_getf (C := RX11) (T := TX11) (N := 29) (k := 1) (q := 124) kp0 (by omega) rfl hiX11 (by decide) (by decide +kernel) rfl dX11_sleep_121 rfl ?_
      refine x_bipush (v := 20) (q := 126) dX11_sleep_124 rfl (by decide) ?_
      refine x_iald (q := 127) kp2 (by omega) (ixI (show (20 : Int32) = nI 20 from rfl) (by omega) (by decide)) dX11_sleep_126 rfl ?_
      rw [ixC (show (20 : Int32) = nI 20 from rfl) (by omega)]
      rw [show slD (mindD (t 1) sz) W 20 = nI c from (hd2 20 (by decide)).trans hc0]
      refine x_i2l (q := 128) dX11_sleep_127 rfl ?_
      refine x_lmul (q := 129) dX11_sleep_128 rfl ?_
      refine x_ladd (q := 130) dX11_sleep_129 rfl ?_
      refine x_ldc2 (v := 5) (q := 133) (by decide +kernel) dX11_sleep_130 rfl ?_
      refine x_ladd (q := 134) dX11_sleep_133 rfl ?_
      refine x_ldc2 (v := 65521) (q := 137) (by decide +kernel) dX11_sleep_134 rfl ?_
      refine x_lrem (q := 138) dX11_sleep_137 rfl (by decide) ?_
      refine x_ldc2 (v := 10) (q := 141) (by decide +kernel) dX11_sleep_138 rfl ?_
      refine x_lrem (q := 142) dX11_sleep_141 rfl (by decide) ?_
      refine x_lstore_n (L' := fun x3_142 => [(3, .long x3_142), (2, .int (bset (fun k => decide (δ 9 k = 1)) W)), (0, .ref 99), (1, .int (nI z1))]) (q := 143) dX11_sleep_142 rfl (by decide) (fun _ => rfl) (fun x3_142 ex3_142 => ?_)
      obtain rfl : x3_142 = lN (drN z1 c) := ex3_142.trans (draw64 hz1 hc rfl)
      refine x_aload_n (q := 144) dX11_sleep_143 rfl rfl ?_
      refine x_getf (C := RX11) (T := TX11) (N := 29) (k := 1) (q := 147) kp0 (by omega) rfl hiX11 (by decide) (by decide +kernel) rfl dX11_sleep_144 rfl ?_
      refine x_bipush (v := 21) (q := 149) dX11_sleep_147 rfl (by decide) ?_
      refine x_iald (q := 150) kp2 (by omega) (ixI (show (21 : Int32) = nI 21 from rfl) (by omega) (by decide)) dX11_sleep_149 rfl ?_
      rw [ixC (show (21 : Int32) = nI 21 from rfl) (by omega)]
      rw [show slD (mindD (t 1) sz) W 21 = nI wd from (hd2 21 (by decide)).trans hwd0]
      refine x_istore (L' := fun x5_150 => [(5, .int x5_150), (3, .long (lN (drN z1 c))), (2, .int (bset (fun k => decide (δ 9 k = 1)) W)), (0, .ref 99), (1, .int (nI z1))]) (q := 152) dX11_sleep_150 rfl (by decide) (fun _ => rfl) (fun x5_150 ex5_150 => ?_)
      obtain rfl : x5_150 = nI wd := ex5_150
      refine x_aload_n (q := 153) dX11_sleep_152 rfl rfl ?_
      refine x_getf (C := RX11) (T := TX11) (N := 29) (k := 1) (q := 156) kp0 (by omega) rfl hiX11 (by decide) (by decide +kernel) rfl dX11_sleep_153 rfl ?_
      refine x_bipush (v := 21) (q := 158) dX11_sleep_156 rfl (by decide) ?_
      refine x_lload_n (q := 159) dX11_sleep_158 rfl rfl ?_
      refine x_aload_n (q := 160) dX11_sleep_159 rfl rfl ?_
      refine x_getf (C := RX11) (T := TX11) (N := 29) (k := 0) (q := 163) kp0 (by omega) rfl hiX11 (by decide) (by decide +kernel) rfl dX11_sleep_160 rfl ?_
      refine x_bipush (v := 57) (q := 165) dX11_sleep_163 rfl (by decide) ?_
      refine x_iload (q := 167) dX11_sleep_165 rfl rfl ?_
      refine x_iadd (q := 168) dX11_sleep_167 rfl ?_
      refine x_iald (q := 169) kp1 (by omega) (ixI (show ((57 + nI wd) : Int32) = nI (57 + wd) from (nIs rfl rfl)) (by omega) (by decide)) dX11_sleep_168 rfl ?_
      rw [ixC (show ((57 + nI wd) : Int32) = nI (57 + wd) from (nIs rfl rfl)) (by omega)]
      rw [rtch hw hwd]
      refine x_i2l (q := 170) dX11_sleep_169 rfl ?_
      refine x_lcmp (q := 171) dX11_sleep_170 rfl ?_
      refine x_if_ge (t := 187) (q := 174) dX11_sleep_171 (by decide) rfl (fun c171 => ?_) (fun c171 => ?_)
      · refine x_iload (q := 189) dX11_sleep_187 rfl rfl ?_
        refine x_iast (q := 190) kp2 (by omega) (ixI (show (21 : Int32) = nI 21 from rfl) (by omega) (by decide)) dX11_sleep_189 rfl (fun M189 w189 o189 => ?_)
        rw [ixC (show (21 : Int32) = nI 21 from rfl) (by omega)] at w189
        refine x_iconst (v := 0) (q := 191) dX11_sleep_190 rfl (by decide) ?_
        refine x_istore (L' := fun x6_191 => [(6, .int x6_191), (5, .int (nI wd)), (3, .long (lN (drN z1 c))), (2, .int (bset (fun k => decide (δ 9 k = 1)) W)), (0, .ref 99), (1, .int (nI z1))]) (q := 193) dX11_sleep_191 rfl (by decide) (fun _ => rfl) (fun x6_191 ex6_191 => ?_)
        subst ex6_191
        refine x_pick (L' := [(6, .int (nI 0)), (2, .int (bset (fun k => decide (δ 9 k = 1)) W)), (0, .ref 99)]) [0, 3, 4] rfl ?_
        have hv1_1_99 := ((o189 (99) (by omega)).trans kp0)
        have hv1_2_100 := ((o189 (100) (by omega)).trans kp1)
        have hv1_3_102 := ((o189 (102) (by omega)).trans kp3)
        have hv1_4_103 := ((o189 (103) (by omega)).trans kp4)
        have hv1_5_104 := ((o189 (104) (by omega)).trans kp5)
        have hv1_6_105 := ((o189 (105) (by omega)).trans kp6)
        have hv1_7_106 := ((o189 (106) (by omega)).trans kp7)
        have hv1_8_107 := ((o189 (107) (by omega)).trans kp8)
        have hv1_9_108 := ((o189 (108) (by omega)).trans kp9)
        have hv1_10_109 := ((o189 (109) (by omega)).trans kp10)
        have hv1_11_110 := ((o189 (110) (by omega)).trans kp11)
        have hv1_12_111 := ((o189 (111) (by omega)).trans kp12)
        have hv1_13_112 := ((o189 (112) (by omega)).trans kp13)
        have hv1_14_113 := ((o189 (113) (by omega)).trans kp14)
        refine l_m_sleep2 (t := t) (u := u) (s := pSz sz) (D := upd (slD (mindD (t 1) sz) W) 21 (nI wd)) (M0 := M105) hn hw (fun M255 q1 q2 => ?_) 5 0 M189 (by omega) ⟨hv1_1_99, hv1_2_100, by rw [w189]; show _ = Sum.inl (0, 242, Sum.inl (lfD (upd (slD (mindD (t 1) sz) W) 21 (nI wd)) (τ 12 0) 0)); rw [lfD_0], hv1_3_102, hv1_4_103, hv1_5_104, hv1_6_105, hv1_7_106, hv1_8_107, hv1_9_108, hv1_10_109, hv1_11_110, hv1_12_111, hv1_13_112, hv1_14_113⟩ (fun j hj => ((o189 j (by omega)).trans rfl))
        rw [if_pos ((mIn2 (k := 9999) (by decide) rfl).mp b6), if_pos (show δ 0 0 < 999 by rw [hc0]; exact nI_lt (a := c) (b := 999) (Nat.lt_of_le_of_ne (Nat.le_of_lt_succ hc) (fun h => c25 (by rw [h]; rfl))) (by decide))]
        refine ⟨by rw [fell_eq (by omega) hF], _, q1, fun j hj => (q2 j hj).trans ((k2 j hj).trans (fr32 j hj)), fun k hk => ?_, fun k hk => ?_⟩
        · have e17 : upd (slD (mindD (t 1) sz) W) 21 (nI wd) 17 = δ 5 0 := by rw [upd_ne (by decide)]; exact hd2 17 (by decide)
          have e20 : upd (slD (mindD (t 1) sz) W) 21 (nI wd) 20 = δ 0 0 := by rw [upd_ne (by decide)]; exact hd2 20 (by decide)
          rw [e17, e20]
          refine (dv_c20 (dv_c17 (dv_c16 (dv_fill (dv_c21 hd2 (nI wd)) (τ 12 0)) (δ 5 0)) 0) (δ 0 0 + 1) k hk).trans ?_
          unfold dCent
          rw [hc0, hwd0, nI_clamp (show wd < 2 ^ 31 by omega), if_neg (fun h => absurd (lcmp_lt.mpr ((draw_lt hz1 hc).mpr h)) (xle_nlt.mpr c171)), ← hc0]
          rfl
        · rw [upd_ne (by omega), upd_ne (by omega), upd_ne (by omega), lfD_out (by omega), upd_ne (by omega), slD_out (by omega)]
      · refine x_aload_n (q := 175) dX11_sleep_174 rfl rfl ?_
        refine x_getf (C := RX11) (T := TX11) (N := 29) (k := 0) (q := 178) kp0 (by omega) rfl hiX11 (by decide) (by decide +kernel) rfl dX11_sleep_175 rfl ?_
        refine x_bipush (v := 53) (q := 180) dX11_sleep_178 rfl (by decide) ?_
        refine x_iload (q := 182) dX11_sleep_180 rfl rfl ?_
        refine x_iadd (q := 183) dX11_sleep_182 rfl ?_
        refine x_iald (q := 184) kp1 (by omega) (ixI (show ((53 + nI wd) : Int32) = nI (53 + wd) from (nIs rfl rfl)) (by omega) (by decide)) dX11_sleep_183 rfl ?_
        rw [ixC (show ((53 + nI wd) : Int32) = nI (53 + wd) from (nIs rfl rfl)) (by omega)]
        rw [rtto hw hwd]
        refine x_goto (q := 189) dX11_sleep_184 (by decide) ?_
        refine x_iast (q := 190) kp2 (by omega) (ixI (show (21 : Int32) = nI 21 from rfl) (by omega) (by decide)) dX11_sleep_189 rfl (fun M189 w189 o189 => ?_)
        rw [ixC (show (21 : Int32) = nI 21 from rfl) (by omega)] at w189
        refine x_iconst (v := 0) (q := 191) dX11_sleep_190 rfl (by decide) ?_
        refine x_istore (L' := fun x6_191 => [(6, .int x6_191), (5, .int (nI wd)), (3, .long (lN (drN z1 c))), (2, .int (bset (fun k => decide (δ 9 k = 1)) W)), (0, .ref 99), (1, .int (nI z1))]) (q := 193) dX11_sleep_191 rfl (by decide) (fun _ => rfl) (fun x6_191 ex6_191 => ?_)
        subst ex6_191
        refine x_pick (L' := [(6, .int (nI 0)), (2, .int (bset (fun k => decide (δ 9 k = 1)) W)), (0, .ref 99)]) [0, 3, 4] rfl ?_
        have hv1_1_99 := ((o189 (99) (by omega)).trans kp0)
        have hv1_2_100 := ((o189 (100) (by omega)).trans kp1)
        have hv1_3_102 := ((o189 (102) (by omega)).trans kp3)
        have hv1_4_103 := ((o189 (103) (by omega)).trans kp4)
        have hv1_5_104 := ((o189 (104) (by omega)).trans kp5)
        have hv1_6_105 := ((o189 (105) (by omega)).trans kp6)
        have hv1_7_106 := ((o189 (106) (by omega)).trans kp7)
        have hv1_8_107 := ((o189 (107) (by omega)).trans kp8)
        have hv1_9_108 := ((o189 (108) (by omega)).trans kp9)
        have hv1_10_109 := ((o189 (109) (by omega)).trans kp10)
        have hv1_11_110 := ((o189 (110) (by omega)).trans kp11)
        have hv1_12_111 := ((o189 (111) (by omega)).trans kp12)
        have hv1_13_112 := ((o189 (112) (by omega)).trans kp13)
        have hv1_14_113 := ((o189 (113) (by omega)).trans kp14)
        refine l_m_sleep2 (t := t) (u := u) (s := pSz sz) (D := upd (slD (mindD (t 1) sz) W) 21 (τ 13 wd)) (M0 := M105) hn hw (fun M255 q1 q2 => ?_) 5 0 M189 (by omega) ⟨hv1_1_99, hv1_2_100, by rw [w189]; show _ = Sum.inl (0, 242, Sum.inl (lfD (upd (slD (mindD (t 1) sz) W) 21 (τ 13 wd)) (τ 12 0) 0)); rw [lfD_0], hv1_3_102, hv1_4_103, hv1_5_104, hv1_6_105, hv1_7_106, hv1_8_107, hv1_9_108, hv1_10_109, hv1_11_110, hv1_12_111, hv1_13_112, hv1_14_113⟩ (fun j hj => ((o189 j (by omega)).trans rfl))
        rw [if_pos ((mIn2 (k := 9999) (by decide) rfl).mp b6), if_pos (show δ 0 0 < 999 by rw [hc0]; exact nI_lt (a := c) (b := 999) (Nat.lt_of_le_of_ne (Nat.le_of_lt_succ hc) (fun h => c25 (by rw [h]; rfl))) (by decide))]
        refine ⟨by rw [fell_eq (by omega) hF], _, q1, fun j hj => (q2 j hj).trans ((k2 j hj).trans (fr32 j hj)), fun k hk => ?_, fun k hk => ?_⟩
        · have e17 : upd (slD (mindD (t 1) sz) W) 21 (τ 13 wd) 17 = δ 5 0 := by rw [upd_ne (by decide)]; exact hd2 17 (by decide)
          have e20 : upd (slD (mindD (t 1) sz) W) 21 (τ 13 wd) 20 = δ 0 0 := by rw [upd_ne (by decide)]; exact hd2 20 (by decide)
          rw [e17, e20]
          refine (dv_c20 (dv_c17 (dv_c16 (dv_fill (dv_c21 hd2 (τ 13 wd)) (τ 12 0)) (δ 5 0)) 0) (δ 0 0 + 1) k hk).trans ?_
          unfold dCent
          rw [hc0, hwd0, nI_clamp (show wd < 2 ^ 31 by omega), if_pos ((draw_lt hz1 hc).mp (lcmp_lt.mp (xlt_nle.mp c171))), ← hc0]
          rfl
        · rw [upd_ne (by omega), upd_ne (by omega), upd_ne (by omega), lfD_out (by omega), upd_ne (by omega), slD_out (by omega)]
      
    · refine x_bipush (v := -5) (q := 30) dX11_sleep_28 rfl (by decide) ?_
      refine x_iret dX11_sleep_30 rfl rfl (Nat.le_refl _) ?_
      rw [if_pos ((mIn2 (k := 9999) (by decide) rfl).mp b6), if_neg (show ¬ δ 0 0 < 999 by rw [hc0, c25]; decide)]
      exact ⟨rfl, rfl⟩
  · refine x_if_ne (t := 15) (q := 12) dX11_sleep_9 (by decide) rfl (fun c9 => absurd c9 (by decide)) (fun c9 => ?_)
    refine x_bipush (v := -3) (q := 14) dX11_sleep_12 rfl (by decide) ?_
    refine x_iret dX11_sleep_14 rfl rfl (Nat.le_refl _) ?_
    rw [if_neg (fun h => b6 ((mIn2 (k := 9999) (by decide) rfl).mpr h))]
    exact ⟨rfl, rfl⟩

