/-- a century goes over weights, as the class has it -/
def gF (τ : Nat → Nat → Int32) (w : Nat → Int64) : Nat → Nat → Int64
  | 0 => fun _ => 0
  | k + 1 => vp_updL (vp_updL (gF τ w k) k (gF τ w k k + w k * (10 - τ 14 k).toInt64)) (τ 13 k).toNatClampNeg (vp_updL (gF τ w k) k (gF τ w k k + w k * (10 - τ 14 k).toInt64) (τ 13 k).toNatClampNeg + w k * (τ 14 k).toInt64)
def gB (τ : Nat → Nat → Int32) (l s : Nat → Int64) (k : Nat) : Nat → Int64 := fun j => if j < k then l j * (10 - τ 14 j).toInt64 + l (τ 13 j).toNatClampNeg * (τ 14 j).toInt64 else s j
theorem gB_s (τ : Nat → Nat → Int32) (l s : Nat → Int64) (k : Nat) : vp_updL (gB τ l s k) k (l k * (10 - τ 14 k).toInt64 + l (τ 13 k).toNatClampNeg * (τ 14 k).toInt64) = gB τ l s (k + 1) := by
  funext j
  unfold vp_updL gB
  by_cases e : j = k
  · subst e; simp
  · rw [if_neg e]
    by_cases h : j < k
    · rw [if_pos h, if_pos (by omega)]
    · rw [if_neg h, if_neg (by omega)]
/-- does the sign i rule the world j out, so long ago -/
def rOf (t : Nat → Nat → Int32) (ago : Int32) (i j : Nat) : Prop := t 2 i = ago ∧ ¬ (if nI j = t 1 i then (1 : Int32) else 0) = t 3 i
def rOfB (t : Nat → Nat → Int32) (ago : Int32) (i j : Nat) : Bool := decide (t 2 i = ago) && decide (¬ (if nI j = t 1 i then (1 : Int32) else 0) = t 3 i)
def rIn (t : Nat → Nat → Int32) (ago : Int32) (i : Nat) (h : Nat → Int64) : Nat → Nat → Int64
  | 0 => h
  | j + 1 => if rOfB t ago i j then vp_updL (rIn t ago i h j) j 0 else rIn t ago i h j
def rOut (t : Nat → Nat → Int32) (ago : Int32) (h : Nat → Int64) : Nat → Nat → Int64
  | 0 => h
  | i + 1 => rIn t ago i (rOut t ago h i) 4
def sum4 (w : Nat → Int64) : Nat → Int64
  | 0 => 0
  | k + 1 => sum4 w k + w k
def cdR : Nat → Int64 → Int64 → Int64
  | 0, g, _ => g
  | k + 1, g, l => if l = 0 then g else cdR k l (g - g / l * l)
def mulW (w l : Nat → Int64) (k : Nat) : Nat → Int64 := fun j => if j < k then w j * l j else w j
theorem mulW_s (w l : Nat → Int64) (k : Nat) : vp_updL (mulW w l k) k (mulW w l k k * l k) = mulW w l (k + 1) := by
  funext j
  unfold vp_updL mulW
  by_cases e : j = k
  · subst e; simp
  · rw [if_neg e]
    by_cases h : j < k
    · rw [if_pos h, if_pos (by omega)]
    · rw [if_neg h, if_neg (by omega)]
theorem lcmp0 {x : Int64} : lg_cmp x 0 = 0 ↔ x = 0 := by
  unfold lg_cmp
  constructor
  · intro h
    split at h
    · exact absurd h (by decide)
    · split at h
      · assumption
      · exact absurd h (by decide)
  · intro h
    subst h
    decide
set_option maxHeartbeats 4000000 in
set_option maxRecDepth 100000 in
theorem c_Ch_add {n : Nat} {M : Nat → xE} {p : Nat} {t : Nat → Nat → Int32} {u : Nat → Nat → Int64} (hp : p + 6 < n) (hT : oX1 p t u M) {a b c : Int32} {B : Nat} (hB : B ≤ 6) (h0 : t 0 0 = nI B) : xMet mX1_addSign [.ref p, .int a, .int b, .int c] n M (fun r M' => (B < 6 ∧ some (.int 1) = r ∧ oX1 p (fun i => if i = 0 then (fun _ => nI (B + 1)) else if i = 1 then upd (t 1) B a else if i = 2 then upd (t 2) B b else if i = 3 then upd (t 3) B c else t i) u M' ∧ xfr p (p + 7) M M') ∨ (B = 6 ∧ some (.int 0) = r ∧ M = M')) := by
  obtain ⟨tp0, tp1, tp2, tp3, tp4, tp5, tp6⟩ := hT
  rw [h0] at tp0
  have hc : (nI B).toNatClampNeg = B := nI_clamp (by omega)
  have hiX1 : ∀ w ∈ wsX10, w ∈ wsX1_addSign := by decide +kernel
  refine xMet.of _ (by decide) rfl (Nat.le_of_ble_eq_true rfl) ?_
  refine x_aload_n (q := 1) dX1_addSign_0 rfl rfl ?_
  refine x_getf (C := RX1) (T := TX1) (N := 7) (k := 0) (q := 4) tp0 (by omega) rfl hiX1 (by decide) (by decide +kernel) rfl dX1_addSign_1 rfl ?_
  refine x_bipush (v := 6) (q := 6) dX1_addSign_4 rfl (by decide) ?_
  refine x_icmp_lt (t := 11) (q := 9) dX1_addSign_6 (by decide) rfl (fun c6 => ?_) (fun c6 => ?_)
  · have hB9 : B < 6 := (nI_ltI (b := 6) (by omega) (by decide)).mp c6
    refine x_aload_n (q := 12) dX1_addSign_11 rfl rfl ?_
    refine x_getf (C := RX1) (T := TX1) (N := 7) (k := 1) (q := 15) tp0 (by omega) rfl hiX1 (by decide) (by decide +kernel) rfl dX1_addSign_12 rfl ?_
    refine x_aload_n (q := 16) dX1_addSign_15 rfl rfl ?_
    refine x_getf (C := RX1) (T := TX1) (N := 7) (k := 0) (q := 19) tp0 (by omega) rfl hiX1 (by decide) (by decide +kernel) rfl dX1_addSign_16 rfl ?_
    refine x_iload_n (q := 20) dX1_addSign_19 rfl rfl ?_
    refine x_iast (q := 21) tp1 (by omega) (vp_in_nI hB9 (by decide)) dX1_addSign_20 rfl (fun M20 w20 o20 => ?_)
    rw [hc] at w20
    refine x_aload_n (q := 22) dX1_addSign_21 rfl rfl ?_
    have hv1_1_p := ((o20 (p) (by omega)).trans tp0)
    refine x_getf (C := RX1) (T := TX1) (N := 7) (k := 2) (q := 25) hv1_1_p (by omega) rfl hiX1 (by decide) (by decide +kernel) rfl dX1_addSign_22 rfl ?_
    refine x_aload_n (q := 26) dX1_addSign_25 rfl rfl ?_
    refine x_getf (C := RX1) (T := TX1) (N := 7) (k := 0) (q := 29) hv1_1_p (by omega) rfl hiX1 (by decide) (by decide +kernel) rfl dX1_addSign_26 rfl ?_
    refine x_iload_n (q := 30) dX1_addSign_29 rfl rfl ?_
    have hv1_2_p2 := ((o20 (p + 2) (by omega)).trans tp2)
    refine x_iast (q := 31) hv1_2_p2 (by omega) (vp_in_nI hB9 (by decide)) dX1_addSign_30 rfl (fun M30 w30 o30 => ?_)
    rw [hc] at w30
    refine x_aload_n (q := 32) dX1_addSign_31 rfl rfl ?_
    have hv2_3_p := ((o30 (p) (by omega)).trans hv1_1_p)
    refine x_getf (C := RX1) (T := TX1) (N := 7) (k := 3) (q := 35) hv2_3_p (by omega) rfl hiX1 (by decide) (by decide +kernel) rfl dX1_addSign_32 rfl ?_
    refine x_aload_n (q := 36) dX1_addSign_35 rfl rfl ?_
    refine x_getf (C := RX1) (T := TX1) (N := 7) (k := 0) (q := 39) hv2_3_p (by omega) rfl hiX1 (by decide) (by decide +kernel) rfl dX1_addSign_36 rfl ?_
    refine x_iload_n (q := 40) dX1_addSign_39 rfl rfl ?_
    have hv2_4_p3 := ((o30 (p + 3) (by omega)).trans ((o20 (p + 3) (by omega)).trans tp3))
    refine x_iast (q := 41) hv2_4_p3 (by omega) (vp_in_nI hB9 (by decide)) dX1_addSign_40 rfl (fun M40 w40 o40 => ?_)
    rw [hc] at w40
    refine x_aload_n (q := 42) dX1_addSign_41 rfl rfl ?_
    refine x_dup (q := 43) dX1_addSign_42 rfl rfl ?_
    have hv3_5_p := ((o40 (p) (by omega)).trans hv2_3_p)
    refine x_getf (C := RX1) (T := TX1) (N := 7) (k := 0) (q := 46) hv3_5_p (by omega) rfl hiX1 (by decide) (by decide +kernel) rfl dX1_addSign_43 rfl ?_
    refine x_iconst (v := 1) (q := 47) dX1_addSign_46 rfl (by decide) ?_
    refine x_iadd (q := 48) dX1_addSign_47 rfl ?_
    refine x_put (C := RX1) (T := TX1) (N := 7) (k := 0) (q := 51) (ty := .int) tyX1_ok nmX1 hv3_5_p (by omega) rfl hiX1 (by decide) (by decide +kernel) rfl (by decide +kernel) (fun _ => rfl) (fun _ => rfl) (Nat.le_of_ble_eq_true rfl) dX1_addSign_48 rfl (fun M48 w48 o48 => ?_)
    refine x_iconst (v := 1) (q := 52) dX1_addSign_51 rfl (by decide) ?_
    refine x_zret dX1_addSign_52 rfl rfl rfl (Nat.le_refl _) ?_
    have hv4_6_p1 := ((o48 (p + 1) (by omega)).trans ((o40 (p + 1) (by omega)).trans ((o30 (p + 1) (by omega)).trans w20)))
    have hv4_7_p2 := ((o48 (p + 2) (by omega)).trans ((o40 (p + 2) (by omega)).trans w30))
    have hv4_8_p3 := ((o48 (p + 3) (by omega)).trans w40)
    have hv4_9_p4 := ((o48 (p + 4) (by omega)).trans ((o40 (p + 4) (by omega)).trans ((o30 (p + 4) (by omega)).trans ((o20 (p + 4) (by omega)).trans tp4))))
    have hv4_10_p5 := ((o48 (p + 5) (by omega)).trans ((o40 (p + 5) (by omega)).trans ((o30 (p + 5) (by omega)).trans ((o20 (p + 5) (by omega)).trans tp5))))
    have hv4_11_p6 := ((o48 (p + 6) (by omega)).trans ((o40 (p + 6) (by omega)).trans ((o30 (p + 6) (by omega)).trans ((o20 (p + 6) (by omega)).trans tp6))))
    exact Or.inl ⟨hB9, rfl, ⟨w48.trans (by rw [show nI B + 1 = nI (B + 1) from nI_1 B]; rfl), hv4_6_p1, hv4_7_p2, hv4_8_p3, hv4_9_p4, hv4_10_p5, hv4_11_p6⟩, (fun j hj => ((o48 j (by omega)).trans ((o40 j (by omega)).trans ((o30 j (by omega)).trans ((o20 j (by omega)).trans rfl)))))⟩
  · refine x_iconst (v := 0) (q := 10) dX1_addSign_9 rfl (by decide) ?_
    refine x_zret dX1_addSign_10 rfl rfl rfl (Nat.le_refl _) ?_
    exact Or.inr ⟨by have : ¬ B < 6 := fun h => c6 ((nI_ltI (a := B) (b := 6) (by omega) (by decide)).mpr h); omega, rfl, rfl⟩

set_option maxHeartbeats 4000000 in
set_option maxRecDepth 100000 in
theorem l_Ch_goOn {n p q : Nat} {t τ : Nat → Nat → Int32} {u : Nat → Nat → Int64} {Q : Option Value → (Nat → xE) → Prop} {M0 : Nat → xE} (hpq : p + 7 ≤ q ∨ q + 11 ≤ p) (hp : p + 6 < n) (hq : q + 10 < n) (hw : ∀ k, k < 4 → vp_in (τ 13 k) 4) (hQ : ∀ M, oX1 p t (fun k => if k = 6 ∨ k = 4 then gF τ (u 4) 4 else u k) M → xfr p (p + 7) M0 M → Q none M) : ∀ (k i : Nat) (M : Nat → xE), i + k = 4 → (oX1 p t (fun k => if k = 6 then gF τ (u 4) i else u k) M) → (oX8 q τ M) → (xfr p (p + 7) M0 M) → X mX1_goOn 0 0 10 [(2, .int (nI i)), (0, .ref p), (1, .ref q)] [] n M (Q) := by
  have hiX1 : ∀ w ∈ wsX10, w ∈ wsX1_goOn := by decide +kernel
  have hiX8 : ∀ w ∈ wsX80, w ∈ wsX1_goOn := by decide +kernel
  intro k
  induction k with
  | zero =>
    intro i M hik hT hS hf
    obtain ⟨tp0, tp1, tp2, tp3, tp4, tp5, tp6⟩ := hT
    obtain ⟨sp0, sp1, sp2, sp3, sp4, sp5, sp6, sp7, sp8, sp9, sp10⟩ := hS
    refine x_iload_n (q := 11) dX1_goOn_10 rfl rfl ?_
    refine x_iconst (v := 4) (q := 12) dX1_goOn_11 rfl (by decide) ?_
    refine x_icmp_ge (t := 72) (q := 15) dX1_goOn_12 (by decide) rfl (fun c12 => ?_) (fun c12 => absurd (by rw [show i = 4 by omega]; exact nI_le (Nat.le_refl _) (by omega)) c12)
    have e9 : i = 4 := by omega
    subst e9
    refine x_aload_n (q := 73) dX1_goOn_72 rfl rfl ?_
    refine x_getf (C := RX1) (T := TX1) (N := 7) (k := 6) (q := 76) tp0 (by omega) rfl hiX1 (by decide) (by decide +kernel) rfl dX1_goOn_73 rfl ?_
    refine x_iconst (v := 0) (q := 77) dX1_goOn_76 rfl (by decide) ?_
    refine x_aload_n (q := 78) dX1_goOn_77 rfl rfl ?_
    refine x_getf (C := RX1) (T := TX1) (N := 7) (k := 4) (q := 81) tp0 (by omega) rfl hiX1 (by decide) (by decide +kernel) rfl dX1_goOn_78 rfl ?_
    refine x_iconst (v := 0) (q := 82) dX1_goOn_81 rfl (by decide) ?_
    refine x_iconst (v := 4) (q := 83) dX1_goOn_82 rfl (by decide) ?_
    refine x_copyl (q := 86) (by decide +kernel) (by decide +kernel) (by decide +kernel) (by decide +kernel) tp6 (by omega) tp4 (by omega) (by decide +kernel) (by decide +kernel) (by decide +kernel) (by decide +kernel) (by decide +kernel) (by decide) (Nat.le_of_ble_eq_true rfl) dX1_goOn_83 rfl (fun M83 w83 o83 => ?_)
    refine x_fixJ (f' := gF τ (u 4) 4) w83 (by omega) (fun j hj => pk_cpy_in (Nat.zero_le j) (by simpa using hj) |>.trans (by simp)) (fun Mf4 wf4 of4 => ?_)
    refine x_vret dX1_goOn_86 rfl rfl (Nat.le_refl _) ?_
    have hv2_1_p := ((of4 (p) (by omega)).trans ((o83 (p) (by omega)).trans tp0))
    have hv2_2_p1 := ((of4 (p + 1) (by omega)).trans ((o83 (p + 1) (by omega)).trans tp1))
    have hv2_3_p2 := ((of4 (p + 2) (by omega)).trans ((o83 (p + 2) (by omega)).trans tp2))
    have hv2_4_p3 := ((of4 (p + 3) (by omega)).trans ((o83 (p + 3) (by omega)).trans tp3))
    have hv2_5_p5 := ((of4 (p + 5) (by omega)).trans ((o83 (p + 5) (by omega)).trans tp5))
    have hv2_6_p6 := ((of4 (p + 6) (by omega)).trans ((o83 (p + 6) (by omega)).trans tp6))
    exact hQ _ ⟨hv2_1_p, hv2_2_p1, hv2_3_p2, hv2_4_p3, wf4, hv2_5_p5, hv2_6_p6⟩ (fun j hj => ((of4 j (by omega)).trans ((o83 j (by omega)).trans (hf j hj))))
  | succ k ih =>
    intro i M hik hT hS hf
    obtain ⟨tp0, tp1, tp2, tp3, tp4, tp5, tp6⟩ := hT
    obtain ⟨sp0, sp1, sp2, sp3, sp4, sp5, sp6, sp7, sp8, sp9, sp10⟩ := hS
    refine x_iload_n (q := 11) dX1_goOn_10 rfl rfl ?_
    refine x_iconst (v := 4) (q := 12) dX1_goOn_11 rfl (by decide) ?_
    refine x_icmp_ge (t := 72) (q := 15) dX1_goOn_12 (by decide) rfl (fun c12 => absurd c12 (nI_ge (a := i) (b := 4) (by omega) (by omega))) (fun c12 => ?_)
    refine x_aload_n (q := 16) dX1_goOn_15 rfl rfl ?_
    refine x_getf (C := RX8) (T := TX8) (N := 15) (k := 14) (q := 19) sp0 (by omega) rfl hiX8 (by decide) (by decide +kernel) rfl dX1_goOn_16 rfl ?_
    refine x_iload_n (q := 20) dX1_goOn_19 rfl rfl ?_
    refine x_iald (q := 21) sp10 (by omega) (vp_in_nI (show i < 4 by omega) (by decide)) dX1_goOn_20 rfl ?_
    refine x_istore_n (L' := fun x3_21 => [(3, .int x3_21), (2, .int (nI i)), (0, .ref p), (1, .ref q)]) (q := 22) dX1_goOn_21 rfl (by decide) (fun _ => rfl) (fun x3_21 ex3_21 => ?_)
    obtain rfl : x3_21 = τ 14 i := ex3_21.trans (by rw [(nIc (show i < 4 by omega) (by decide))])
    refine x_aload_n (q := 23) dX1_goOn_22 rfl rfl ?_
    refine x_getf (C := RX1) (T := TX1) (N := 7) (k := 6) (q := 26) tp0 (by omega) rfl hiX1 (by decide) (by decide +kernel) rfl dX1_goOn_23 rfl ?_
    refine x_iload_n (q := 27) dX1_goOn_26 rfl rfl ?_
    refine x_dup2 (q := 28) dX1_goOn_27 rfl rfl rfl ?_
    refine x_lald (q := 29) tp6 (by omega) (vp_in_nI (show i < 4 by omega) (by decide)) dX1_goOn_28 rfl ?_
    refine x_aload_n (q := 30) dX1_goOn_29 rfl rfl ?_
    refine x_getf (C := RX1) (T := TX1) (N := 7) (k := 4) (q := 33) tp0 (by omega) rfl hiX1 (by decide) (by decide +kernel) rfl dX1_goOn_30 rfl ?_
    refine x_iload_n (q := 34) dX1_goOn_33 rfl rfl ?_
    refine x_lald (q := 35) tp4 (by omega) (vp_in_nI (show i < 4 by omega) (by decide)) dX1_goOn_34 rfl ?_
    refine x_bipush (v := 10) (q := 37) dX1_goOn_35 rfl (by decide) ?_
    refine x_iload_n (q := 38) dX1_goOn_37 rfl rfl ?_
    refine x_isub (q := 39) dX1_goOn_38 rfl ?_
    refine x_i2l (q := 40) dX1_goOn_39 rfl ?_
    refine x_lmul (q := 41) dX1_goOn_40 rfl ?_
    refine x_ladd (q := 42) dX1_goOn_41 rfl ?_
    refine x_last (q := 43) tp6 (by omega) (vp_in_nI (show i < 4 by omega) (by decide)) dX1_goOn_42 rfl (fun M42 w42 o42 => ?_)
    refine x_aload_n (q := 44) dX1_goOn_43 rfl rfl ?_
    have hv1_1_p := ((o42 (p) (by omega)).trans tp0)
    refine x_getf (C := RX1) (T := TX1) (N := 7) (k := 6) (q := 47) hv1_1_p (by omega) rfl hiX1 (by decide) (by decide +kernel) rfl dX1_goOn_44 rfl ?_
    refine x_aload_n (q := 48) dX1_goOn_47 rfl rfl ?_
    have hv1_2_q := ((o42 (q) (by omega)).trans sp0)
    refine x_getf (C := RX8) (T := TX8) (N := 15) (k := 13) (q := 51) hv1_2_q (by omega) rfl hiX8 (by decide) (by decide +kernel) rfl dX1_goOn_48 rfl ?_
    refine x_iload_n (q := 52) dX1_goOn_51 rfl rfl ?_
    have hv1_3_q9 := ((o42 (q + 9) (by omega)).trans sp9)
    refine x_iald (q := 53) hv1_3_q9 (by omega) (vp_in_nI (show i < 4 by omega) (by decide)) dX1_goOn_52 rfl ?_
    refine x_dup2 (q := 54) dX1_goOn_53 rfl rfl rfl ?_
    refine x_lald (q := 55) w42 (by omega) (by rw [(nIc (show i < 4 by omega) (by decide))]; exact hw i (by omega)) dX1_goOn_54 rfl ?_
    refine x_aload_n (q := 56) dX1_goOn_55 rfl rfl ?_
    refine x_getf (C := RX1) (T := TX1) (N := 7) (k := 4) (q := 59) hv1_1_p (by omega) rfl hiX1 (by decide) (by decide +kernel) rfl dX1_goOn_56 rfl ?_
    refine x_iload_n (q := 60) dX1_goOn_59 rfl rfl ?_
    have hv1_4_p4 := ((o42 (p + 4) (by omega)).trans tp4)
    refine x_lald (q := 61) hv1_4_p4 (by omega) (vp_in_nI (show i < 4 by omega) (by decide)) dX1_goOn_60 rfl ?_
    refine x_iload_n (q := 62) dX1_goOn_61 rfl rfl ?_
    refine x_i2l (q := 63) dX1_goOn_62 rfl ?_
    refine x_lmul (q := 64) dX1_goOn_63 rfl ?_
    refine x_ladd (q := 65) dX1_goOn_64 rfl ?_
    refine x_last (q := 66) w42 (by omega) (by rw [(nIc (show i < 4 by omega) (by decide))]; exact hw i (by omega)) dX1_goOn_65 rfl (fun M65 w65 o65 => ?_)
    refine x_iinc (L' := fun x2_66 => [(2, .int x2_66), (3, .int (τ 14 i)), (0, .ref p), (1, .ref q)]) (q := 69) dX1_goOn_66 rfl rfl (by decide) (fun _ => rfl) (fun x2_66 ex2_66 => ?_)
    obtain rfl : x2_66 = nI (i + 1) := ex2_66.trans (nI_1 i)
    refine x_goto (q := 10) dX1_goOn_69 (by decide) ?_
    have hv2_5_p := ((o65 (p) (by omega)).trans hv1_1_p)
    have hv2_6_p1 := ((o65 (p + 1) (by omega)).trans ((o42 (p + 1) (by omega)).trans tp1))
    have hv2_7_p2 := ((o65 (p + 2) (by omega)).trans ((o42 (p + 2) (by omega)).trans tp2))
    have hv2_8_p3 := ((o65 (p + 3) (by omega)).trans ((o42 (p + 3) (by omega)).trans tp3))
    have hv2_9_p4 := ((o65 (p + 4) (by omega)).trans hv1_4_p4)
    have hv2_10_p5 := ((o65 (p + 5) (by omega)).trans ((o42 (p + 5) (by omega)).trans tp5))
    have hv2_11_q := ((o65 (q) (by omega)).trans hv1_2_q)
    have hv2_12_q1 := ((o65 (q + 1) (by omega)).trans ((o42 (q + 1) (by omega)).trans sp1))
    have hv2_13_q2 := ((o65 (q + 2) (by omega)).trans ((o42 (q + 2) (by omega)).trans sp2))
    have hv2_14_q3 := ((o65 (q + 3) (by omega)).trans ((o42 (q + 3) (by omega)).trans sp3))
    have hv2_15_q4 := ((o65 (q + 4) (by omega)).trans ((o42 (q + 4) (by omega)).trans sp4))
    have hv2_16_q5 := ((o65 (q + 5) (by omega)).trans ((o42 (q + 5) (by omega)).trans sp5))
    have hv2_17_q6 := ((o65 (q + 6) (by omega)).trans ((o42 (q + 6) (by omega)).trans sp6))
    have hv2_18_q7 := ((o65 (q + 7) (by omega)).trans ((o42 (q + 7) (by omega)).trans sp7))
    have hv2_19_q8 := ((o65 (q + 8) (by omega)).trans ((o42 (q + 8) (by omega)).trans sp8))
    have hv2_20_q9 := ((o65 (q + 9) (by omega)).trans hv1_3_q9)
    have hv2_21_q10 := ((o65 (q + 10) (by omega)).trans ((o42 (q + 10) (by omega)).trans sp10))
    rw [(nIc (show i < 4 by omega) (by decide))] at w42 w65
    have w66 : M65 (p + 6) = .inl (1, 4, .inr (.inl (gF τ (u 4) (i + 1)))) := by rw [w65, gF]; rfl
    refine x_pick (L' := [(2, .int (nI (i + 1))), (0, .ref p), (1, .ref q)]) [0, 2, 3] rfl ?_
    exact ih (i + 1) M65 (by omega) ⟨hv2_5_p, hv2_6_p1, hv2_7_p2, hv2_8_p3, hv2_9_p4, hv2_10_p5, w66⟩ ⟨hv2_11_q, hv2_12_q1, hv2_13_q2, hv2_14_q3, hv2_15_q4, hv2_16_q5, hv2_17_q6, hv2_18_q7, hv2_19_q8, hv2_20_q9, hv2_21_q10⟩ (fun j hj => ((o65 j (by omega)).trans ((o42 j (by omega)).trans (hf j hj))))

set_option maxHeartbeats 4000000 in
set_option maxRecDepth 100000 in
theorem c_Ch_goOn {n : Nat} {M : Nat → xE} {p q : Nat} {t τ : Nat → Nat → Int32} {u : Nat → Nat → Int64} (hpq : p + 7 ≤ q ∨ q + 11 ≤ p) (hp : p + 6 < n) (hq : q + 10 < n) (hw : ∀ k, k < 4 → vp_in (τ 13 k) 4) (hT : oX1 p t u M) (hS : oX8 q τ M) : xMet mX1_goOn [.ref p, .ref q] n M (fun r M' => none = r ∧ oX1 p t (fun k => if k = 6 ∨ k = 4 then gF τ (u 4) 4 else u k) M' ∧ xfr p (p + 7) M M') := by
  obtain ⟨tp0, tp1, tp2, tp3, tp4, tp5, tp6⟩ := hT
  have hS0 := hS
  obtain ⟨sp0, sp1, sp2, sp3, sp4, sp5, sp6, sp7, sp8, sp9, sp10⟩ := hS
  have hiX1 : ∀ w ∈ wsX10, w ∈ wsX1_goOn := by decide +kernel
  refine xMet.of _ (by decide) rfl (Nat.le_of_ble_eq_true rfl) ?_
  refine x_aload_n (q := 1) dX1_goOn_0 rfl rfl ?_
  refine x_getf (C := RX1) (T := TX1) (N := 7) (k := 6) (q := 4) tp0 (by omega) rfl hiX1 (by decide) (by decide +kernel) rfl dX1_goOn_1 rfl ?_
  refine x_lconst (v := 0) (q := 5) dX1_goOn_4 rfl (by decide) ?_
  refine x_callS (q := 8) (c_fillJ (by omega) (by decide) tp6) eX1_goOn_35 gX1_goOn_J7_fill_d0a16 rfl (Nat.le_of_ble_eq_true rfl) ⟨Nat.le_refl _, Nat.le_refl _⟩ dX1_goOn_5 rfl rfl (fun r5 M5 p5 => ?_)
  obtain ⟨rfl, w5, o5⟩ := p5
  refine x_iconst (v := 0) (q := 9) dX1_goOn_8 rfl (by decide) ?_
  refine x_istore_n (L' := fun x2_9 => [(2, .int x2_9), (0, .ref p), (1, .ref q)]) (q := 10) dX1_goOn_9 rfl (by decide) (fun _ => rfl) (fun x2_9 ex2_9 => ?_)
  have hv1_1_p := ((o5 (p) (by omega)).trans tp0)
  have hv1_2_p1 := ((o5 (p + 1) (by omega)).trans tp1)
  have hv1_3_p2 := ((o5 (p + 2) (by omega)).trans tp2)
  have hv1_4_p3 := ((o5 (p + 3) (by omega)).trans tp3)
  have hv1_5_p4 := ((o5 (p + 4) (by omega)).trans tp4)
  have hv1_6_p5 := ((o5 (p + 5) (by omega)).trans tp5)
  subst ex2_9
  exact l_Ch_goOn hpq hp hq hw (fun M h1 h2 => ⟨rfl, h1, h2⟩) 4 0 M5 (by omega) ⟨hv1_1_p, hv1_2_p1, hv1_3_p2, hv1_4_p3, hv1_5_p4, hv1_6_p5, w5⟩ (hS0.keep (fun j h1 h2 => o5 j (by omega))) (fun j hj => o5 j (by omega))

set_option maxHeartbeats 4000000 in
set_option maxRecDepth 100000 in
theorem l_Ch_goBack {n p q : Nat} {t τ : Nat → Nat → Int32} {u : Nat → Nat → Int64} {Q : Option Value → (Nat → xE) → Prop} {M0 : Nat → xE} (hpq : p + 7 ≤ q ∨ q + 11 ≤ p) (hp : p + 6 < n) (hq : q + 10 < n) (hw : ∀ k, k < 4 → vp_in (τ 13 k) 4) (hQ : ∀ M, oX1 p t (fun k => if k = 5 then gB τ (u 5) (fun _ => 0) 4 else if k = 6 then gB τ (u 5) (u 6) 4 else u k) M → xfr p (p + 7) M0 M → Q none M) : ∀ (k i : Nat) (M : Nat → xE), i + k = 4 → (oX1 p t (fun k => if k = 6 then gB τ (u 5) (u 6) i else u k) M) → (oX8 q τ M) → (xfr p (p + 7) M0 M) → X mX1_goBack 0 0 2 [(2, .int (nI i)), (0, .ref p), (1, .ref q)] [] n M (Q) := by
  have hiX1 : ∀ w ∈ wsX10, w ∈ wsX1_goBack := by decide +kernel
  have hiX8 : ∀ w ∈ wsX80, w ∈ wsX1_goBack := by decide +kernel
  intro k
  induction k with
  | zero =>
    intro i M hik hT hS hf
    obtain ⟨tp0, tp1, tp2, tp3, tp4, tp5, tp6⟩ := hT
    obtain ⟨sp0, sp1, sp2, sp3, sp4, sp5, sp6, sp7, sp8, sp9, sp10⟩ := hS
    refine x_iload_n (q := 3) dX1_goBack_2 rfl rfl ?_
    refine x_iconst (v := 4) (q := 4) dX1_goBack_3 rfl (by decide) ?_
    refine x_icmp_ge (t := 53) (q := 7) dX1_goBack_4 (by decide) rfl (fun c4 => ?_) (fun c4 => absurd (by rw [show i = 4 by omega]; exact nI_le (Nat.le_refl _) (by omega)) c4)
    have e9 : i = 4 := by omega
    subst e9
    refine x_aload_n (q := 54) dX1_goBack_53 rfl rfl ?_
    refine x_getf (C := RX1) (T := TX1) (N := 7) (k := 6) (q := 57) tp0 (by omega) rfl hiX1 (by decide) (by decide +kernel) rfl dX1_goBack_54 rfl ?_
    refine x_iconst (v := 0) (q := 58) dX1_goBack_57 rfl (by decide) ?_
    refine x_aload_n (q := 59) dX1_goBack_58 rfl rfl ?_
    refine x_getf (C := RX1) (T := TX1) (N := 7) (k := 5) (q := 62) tp0 (by omega) rfl hiX1 (by decide) (by decide +kernel) rfl dX1_goBack_59 rfl ?_
    refine x_iconst (v := 0) (q := 63) dX1_goBack_62 rfl (by decide) ?_
    refine x_iconst (v := 4) (q := 64) dX1_goBack_63 rfl (by decide) ?_
    refine x_copyl (q := 67) (by decide +kernel) (by decide +kernel) (by decide +kernel) (by decide +kernel) tp6 (by omega) tp5 (by omega) (by decide +kernel) (by decide +kernel) (by decide +kernel) (by decide +kernel) (by decide +kernel) (by decide) (Nat.le_of_ble_eq_true rfl) dX1_goBack_64 rfl (fun M64 w64 o64 => ?_)
    refine x_fixJ (f' := gB τ (u 5) (fun _ => 0) 4) w64 (by omega) (fun j hj => (pk_cpy_in (Nat.zero_le j) (by simpa using hj)).trans (by simp [gB, hj])) (fun Mf5 wf5 of5 => ?_)
    refine x_vret dX1_goBack_67 rfl rfl (Nat.le_refl _) ?_
    have hv2_1_p := ((of5 (p) (by omega)).trans ((o64 (p) (by omega)).trans tp0))
    have hv2_2_p1 := ((of5 (p + 1) (by omega)).trans ((o64 (p + 1) (by omega)).trans tp1))
    have hv2_3_p2 := ((of5 (p + 2) (by omega)).trans ((o64 (p + 2) (by omega)).trans tp2))
    have hv2_4_p3 := ((of5 (p + 3) (by omega)).trans ((o64 (p + 3) (by omega)).trans tp3))
    have hv2_5_p4 := ((of5 (p + 4) (by omega)).trans ((o64 (p + 4) (by omega)).trans tp4))
    have hv2_6_p6 := ((of5 (p + 6) (by omega)).trans ((o64 (p + 6) (by omega)).trans tp6))
    exact hQ _ ⟨hv2_1_p, hv2_2_p1, hv2_3_p2, hv2_4_p3, hv2_5_p4, wf5, hv2_6_p6⟩ (fun j hj => ((of5 j (by omega)).trans ((o64 j (by omega)).trans (hf j hj))))
  | succ k ih =>
    intro i M hik hT hS hf
    obtain ⟨tp0, tp1, tp2, tp3, tp4, tp5, tp6⟩ := hT
    obtain ⟨sp0, sp1, sp2, sp3, sp4, sp5, sp6, sp7, sp8, sp9, sp10⟩ := hS
    refine x_iload_n (q := 3) dX1_goBack_2 rfl rfl ?_
    refine x_iconst (v := 4) (q := 4) dX1_goBack_3 rfl (by decide) ?_
    refine x_icmp_ge (t := 53) (q := 7) dX1_goBack_4 (by decide) rfl (fun c4 => absurd c4 (nI_ge (a := i) (b := 4) (by omega) (by omega))) (fun c4 => ?_)
    refine x_aload_n (q := 8) dX1_goBack_7 rfl rfl ?_
    refine x_getf (C := RX8) (T := TX8) (N := 15) (k := 14) (q := 11) sp0 (by omega) rfl hiX8 (by decide) (by decide +kernel) rfl dX1_goBack_8 rfl ?_
    refine x_iload_n (q := 12) dX1_goBack_11 rfl rfl ?_
    refine x_iald (q := 13) sp10 (by omega) (vp_in_nI (show i < 4 by omega) (by decide)) dX1_goBack_12 rfl ?_
    refine x_istore_n (L' := fun x3_13 => [(3, .int x3_13), (2, .int (nI i)), (0, .ref p), (1, .ref q)]) (q := 14) dX1_goBack_13 rfl (by decide) (fun _ => rfl) (fun x3_13 ex3_13 => ?_)
    obtain rfl : x3_13 = τ 14 i := ex3_13.trans (by rw [(nIc (show i < 4 by omega) (by decide))])
    refine x_aload_n (q := 15) dX1_goBack_14 rfl rfl ?_
    refine x_getf (C := RX1) (T := TX1) (N := 7) (k := 6) (q := 18) tp0 (by omega) rfl hiX1 (by decide) (by decide +kernel) rfl dX1_goBack_15 rfl ?_
    refine x_iload_n (q := 19) dX1_goBack_18 rfl rfl ?_
    refine x_aload_n (q := 20) dX1_goBack_19 rfl rfl ?_
    refine x_getf (C := RX1) (T := TX1) (N := 7) (k := 5) (q := 23) tp0 (by omega) rfl hiX1 (by decide) (by decide +kernel) rfl dX1_goBack_20 rfl ?_
    refine x_iload_n (q := 24) dX1_goBack_23 rfl rfl ?_
    refine x_lald (q := 25) tp5 (by omega) (vp_in_nI (show i < 4 by omega) (by decide)) dX1_goBack_24 rfl ?_
    refine x_bipush (v := 10) (q := 27) dX1_goBack_25 rfl (by decide) ?_
    refine x_iload_n (q := 28) dX1_goBack_27 rfl rfl ?_
    refine x_isub (q := 29) dX1_goBack_28 rfl ?_
    refine x_i2l (q := 30) dX1_goBack_29 rfl ?_
    refine x_lmul (q := 31) dX1_goBack_30 rfl ?_
    refine x_aload_n (q := 32) dX1_goBack_31 rfl rfl ?_
    refine x_getf (C := RX1) (T := TX1) (N := 7) (k := 5) (q := 35) tp0 (by omega) rfl hiX1 (by decide) (by decide +kernel) rfl dX1_goBack_32 rfl ?_
    refine x_aload_n (q := 36) dX1_goBack_35 rfl rfl ?_
    refine x_getf (C := RX8) (T := TX8) (N := 15) (k := 13) (q := 39) sp0 (by omega) rfl hiX8 (by decide) (by decide +kernel) rfl dX1_goBack_36 rfl ?_
    refine x_iload_n (q := 40) dX1_goBack_39 rfl rfl ?_
    refine x_iald (q := 41) sp9 (by omega) (vp_in_nI (show i < 4 by omega) (by decide)) dX1_goBack_40 rfl ?_
    refine x_lald (q := 42) tp5 (by omega) (by rw [(nIc (show i < 4 by omega) (by decide))]; exact hw i (by omega)) dX1_goBack_41 rfl ?_
    refine x_iload_n (q := 43) dX1_goBack_42 rfl rfl ?_
    refine x_i2l (q := 44) dX1_goBack_43 rfl ?_
    refine x_lmul (q := 45) dX1_goBack_44 rfl ?_
    refine x_ladd (q := 46) dX1_goBack_45 rfl ?_
    refine x_last (q := 47) tp6 (by omega) (vp_in_nI (show i < 4 by omega) (by decide)) dX1_goBack_46 rfl (fun M46 w46 o46 => ?_)
    refine x_iinc (L' := fun x2_47 => [(2, .int x2_47), (3, .int (τ 14 i)), (0, .ref p), (1, .ref q)]) (q := 50) dX1_goBack_47 rfl rfl (by decide) (fun _ => rfl) (fun x2_47 ex2_47 => ?_)
    obtain rfl : x2_47 = nI (i + 1) := ex2_47.trans (nI_1 i)
    refine x_goto (q := 2) dX1_goBack_50 (by decide) ?_
    have hv1_1_p := ((o46 (p) (by omega)).trans tp0)
    have hv1_2_p1 := ((o46 (p + 1) (by omega)).trans tp1)
    have hv1_3_p2 := ((o46 (p + 2) (by omega)).trans tp2)
    have hv1_4_p3 := ((o46 (p + 3) (by omega)).trans tp3)
    have hv1_5_p4 := ((o46 (p + 4) (by omega)).trans tp4)
    have hv1_6_p5 := ((o46 (p + 5) (by omega)).trans tp5)
    have hv1_7_q := ((o46 (q) (by omega)).trans sp0)
    have hv1_8_q1 := ((o46 (q + 1) (by omega)).trans sp1)
    have hv1_9_q2 := ((o46 (q + 2) (by omega)).trans sp2)
    have hv1_10_q3 := ((o46 (q + 3) (by omega)).trans sp3)
    have hv1_11_q4 := ((o46 (q + 4) (by omega)).trans sp4)
    have hv1_12_q5 := ((o46 (q + 5) (by omega)).trans sp5)
    have hv1_13_q6 := ((o46 (q + 6) (by omega)).trans sp6)
    have hv1_14_q7 := ((o46 (q + 7) (by omega)).trans sp7)
    have hv1_15_q8 := ((o46 (q + 8) (by omega)).trans sp8)
    have hv1_16_q9 := ((o46 (q + 9) (by omega)).trans sp9)
    have hv1_17_q10 := ((o46 (q + 10) (by omega)).trans sp10)
    rw [(nIc (show i < 4 by omega) (by decide))] at w46
    have w47 : M46 (p + 6) = .inl (1, 4, .inr (.inl (gB τ (u 5) (u 6) (i + 1)))) := by rw [w46, ← gB_s]; rfl
    refine x_pick (L' := [(2, .int (nI (i + 1))), (0, .ref p), (1, .ref q)]) [0, 2, 3] rfl ?_
    exact ih (i + 1) M46 (by omega) ⟨hv1_1_p, hv1_2_p1, hv1_3_p2, hv1_4_p3, hv1_5_p4, hv1_6_p5, w47⟩ ⟨hv1_7_q, hv1_8_q1, hv1_9_q2, hv1_10_q3, hv1_11_q4, hv1_12_q5, hv1_13_q6, hv1_14_q7, hv1_15_q8, hv1_16_q9, hv1_17_q10⟩ (fun j hj => ((o46 j (by omega)).trans (hf j hj)))

set_option maxHeartbeats 4000000 in
set_option maxRecDepth 100000 in
theorem c_Ch_goBack {n : Nat} {M : Nat → xE} {p q : Nat} {t τ : Nat → Nat → Int32} {u : Nat → Nat → Int64} (hpq : p + 7 ≤ q ∨ q + 11 ≤ p) (hp : p + 6 < n) (hq : q + 10 < n) (hw : ∀ k, k < 4 → vp_in (τ 13 k) 4) (hT : oX1 p t u M) (hS : oX8 q τ M) : xMet mX1_goBack [.ref p, .ref q] n M (fun r M' => none = r ∧ oX1 p t (fun k => if k = 5 then gB τ (u 5) (fun _ => 0) 4 else if k = 6 then gB τ (u 5) (u 6) 4 else u k) M' ∧ xfr p (p + 7) M M') := by
  obtain ⟨tp0, tp1, tp2, tp3, tp4, tp5, tp6⟩ := hT
  refine xMet.of _ (by decide) rfl (Nat.le_of_ble_eq_true rfl) ?_
  refine x_iconst (v := 0) (q := 1) dX1_goBack_0 rfl (by decide) ?_
  refine x_istore_n (L' := fun x2_1 => [(2, .int x2_1), (0, .ref p), (1, .ref q)]) (q := 2) dX1_goBack_1 rfl (by decide) (fun _ => rfl) (fun x2_1 ex2_1 => ?_)
  subst ex2_1
  exact l_Ch_goBack hpq hp hq hw (fun M h1 h2 => ⟨rfl, h1, h2⟩) 4 0 M (by omega) ⟨tp0, tp1, tp2, tp3, tp4, tp5, tp6⟩ hS (fun j hj => rfl)

set_option maxHeartbeats 4000000 in
set_option maxRecDepth 100000 in
theorem l_Ch_total {n p : Nat} {t : Nat → Nat → Int32} {u : Nat → Nat → Int64} {Q : Option Value → (Nat → xE) → Prop} (hp : p + 6 < n) : ∀ (k i : Nat) (M : Nat → xE), i + k = 4 → (oX1 p t u M) → (Q (some (.long (sum4 (u 4) 4))) M) → X mX1_total 0 0 4 [(3, .int (nI i)), (1, .long (sum4 (u 4) i)), (0, .ref p)] [] n M (Q) := by
  have hiX1 : ∀ w ∈ wsX10, w ∈ wsX1_total := by decide +kernel
  intro k
  induction k with
  | zero =>
    intro i M hik hT hQ
    have hT0 := hT
    obtain ⟨tp0, tp1, tp2, tp3, tp4, tp5, tp6⟩ := hT
    refine x_iload_n (q := 5) dX1_total_4 rfl rfl ?_
    refine x_iconst (v := 4) (q := 6) dX1_total_5 rfl (by decide) ?_
    refine x_icmp_ge (t := 24) (q := 9) dX1_total_6 (by decide) rfl (fun c6 => ?_) (fun c6 => absurd (by rw [show i = 4 by omega]; exact nI_le (Nat.le_refl _) (by omega)) c6)
    refine x_lload_n (q := 25) dX1_total_24 rfl rfl ?_
    refine x_lret dX1_total_25 rfl rfl (Nat.le_refl _) ?_
    rw [show i = 4 by omega]
    exact hQ
  | succ k ih =>
    intro i M hik hT hQ
    have hT0 := hT
    obtain ⟨tp0, tp1, tp2, tp3, tp4, tp5, tp6⟩ := hT
    refine x_iload_n (q := 5) dX1_total_4 rfl rfl ?_
    refine x_iconst (v := 4) (q := 6) dX1_total_5 rfl (by decide) ?_
    refine x_icmp_ge (t := 24) (q := 9) dX1_total_6 (by decide) rfl (fun c6 => absurd c6 (nI_ge (a := i) (b := 4) (by omega) (by omega))) (fun c6 => ?_)
    refine x_lload_n (q := 10) dX1_total_9 rfl rfl ?_
    refine x_aload_n (q := 11) dX1_total_10 rfl rfl ?_
    refine x_getf (C := RX1) (T := TX1) (N := 7) (k := 4) (q := 14) tp0 (by omega) rfl hiX1 (by decide) (by decide +kernel) rfl dX1_total_11 rfl ?_
    refine x_iload_n (q := 15) dX1_total_14 rfl rfl ?_
    refine x_lald (q := 16) tp4 (by omega) (vp_in_nI (show i < 4 by omega) (by decide)) dX1_total_15 rfl ?_
    refine x_ladd (q := 17) dX1_total_16 rfl ?_
    refine x_lstore_n (L' := fun x1_17 => [(1, .long x1_17), (3, .int (nI i)), (0, .ref p)]) (q := 18) dX1_total_17 rfl (by decide) (fun _ => rfl) (fun x1_17 ex1_17 => ?_)
    obtain rfl : x1_17 = sum4 (u 4) (i + 1) := ex1_17.trans (by rw [(nIc (show i < 4 by omega) (by decide))]; rfl)
    refine x_iinc (L' := fun x3_18 => [(3, .int x3_18), (1, .long (sum4 (u 4) (i + 1))), (0, .ref p)]) (q := 21) dX1_total_18 rfl rfl (by decide) (fun _ => rfl) (fun x3_18 ex3_18 => ?_)
    obtain rfl : x3_18 = nI (i + 1) := ex3_18.trans (nI_1 i)
    refine x_goto (q := 4) dX1_total_21 (by decide) ?_
    refine x_pick (L' := [(3, .int (nI (i + 1))), (1, .long (sum4 (u 4) (i + 1))), (0, .ref p)]) [0, 1, 2] rfl ?_
    exact ih (i + 1) M (by omega) hT0 hQ

set_option maxHeartbeats 4000000 in
set_option maxRecDepth 100000 in
theorem c_Ch_total {n : Nat} {M : Nat → xE} {p : Nat} {t : Nat → Nat → Int32} {u : Nat → Nat → Int64} (hp : p + 6 < n) (hT : oX1 p t u M) : xMet mX1_total [.ref p] n M (fun r M' => M = M' ∧ some (.long (sum4 (u 4) 4)) = r) := by
  refine xMet.of _ (by decide) rfl (Nat.le_of_ble_eq_true rfl) ?_
  refine x_lconst (v := 0) (q := 1) dX1_total_0 rfl (by decide) ?_
  refine x_lstore_n (L' := fun x1_1 => [(1, .long x1_1), (0, .ref p)]) (q := 2) dX1_total_1 rfl (by decide) (fun _ => rfl) (fun x1_1 ex1_1 => ?_)
  refine x_iconst (v := 0) (q := 3) dX1_total_2 rfl (by decide) ?_
  refine x_istore_n (L' := fun x3_3 => [(3, .int x3_3), (1, .long x1_1), (0, .ref p)]) (q := 4) dX1_total_3 rfl (by decide) (fun _ => rfl) (fun x3_3 ex3_3 => ?_)
  subst ex1_1
  subst ex3_3
  exact l_Ch_total hp 4 0 M (by omega) hT ⟨rfl, rfl⟩

set_option maxHeartbeats 4000000 in
set_option maxRecDepth 100000 in
theorem l_Ch_cd {n : Nat} {a b : Int64} {Q : Option Value → (Nat → xE) → Prop} : ∀ (k i : Nat) (M : Nat → xE) (g : Int64) (l : Int64), i + k = 100 → (Q (some (.long (cdR k g l))) M) → X mX1_commonDivisor 0 0 9 [(8, .int (nI i)), (4, .long g), (6, .long l), (0, .long a), (2, .long b)] [] n M (Q) := by
  intro k
  induction k with
  | zero =>
    intro i M g l hik hQ
    refine x_iload (q := 11) dX1_commonDivisor_9 rfl rfl ?_
    refine x_bipush (v := 100) (q := 13) dX1_commonDivisor_11 rfl (by decide) ?_
    refine x_icmp_ge (t := 44) (q := 16) dX1_commonDivisor_13 (by decide) rfl (fun c13 => ?_) (fun c13 => absurd (by rw [show i = 100 by omega]; exact nI_le (Nat.le_refl _) (by omega)) c13)
    refine x_lload (q := 46) dX1_commonDivisor_44 rfl rfl ?_
    refine x_lret dX1_commonDivisor_46 rfl rfl (Nat.le_refl _) ?_
    exact hQ
  | succ k ih =>
    intro i M g l hik hQ
    refine x_iload (q := 11) dX1_commonDivisor_9 rfl rfl ?_
    refine x_bipush (v := 100) (q := 13) dX1_commonDivisor_11 rfl (by decide) ?_
    refine x_icmp_ge (t := 44) (q := 16) dX1_commonDivisor_13 (by decide) rfl (fun c13 => absurd c13 (nI_ge (a := i) (b := 100) (by omega) (by omega))) (fun c13 => ?_)
    refine x_lload (q := 18) dX1_commonDivisor_16 rfl rfl ?_
    refine x_lconst (v := 0) (q := 19) dX1_commonDivisor_18 rfl (by decide) ?_
    refine x_lcmp (q := 20) dX1_commonDivisor_19 rfl ?_
    refine x_if_eq (t := 44) (q := 23) dX1_commonDivisor_20 (by decide) rfl (fun c20 => ?_) (fun c20 => ?_)
    · refine x_lload (q := 46) dX1_commonDivisor_44 rfl rfl ?_
      refine x_lret dX1_commonDivisor_46 rfl rfl (Nat.le_refl _) ?_
      rw [cdR, if_pos (lcmp0.mp c20)] at hQ
      exact hQ
    · refine x_lload (q := 25) dX1_commonDivisor_23 rfl rfl ?_
      refine x_lload (q := 27) dX1_commonDivisor_25 rfl rfl ?_
      refine x_lrem (q := 28) dX1_commonDivisor_27 rfl (fun h => c20 (lcmp0.mpr h)) ?_
      refine x_lstore (L' := fun x9_28 => [(9, .long x9_28), (8, .int (nI i)), (4, .long g), (6, .long l), (0, .long a), (2, .long b)]) (q := 30) dX1_commonDivisor_28 rfl (by decide) (fun _ => rfl) (fun x9_28 ex9_28 => ?_)
      obtain rfl : x9_28 = g - g / l * l := ex9_28
      refine x_lload (q := 32) dX1_commonDivisor_30 rfl rfl ?_
      refine x_lstore (L' := fun x4_32 => [(4, .long x4_32), (9, .long (g - g / l * l)), (8, .int (nI i)), (6, .long l), (0, .long a), (2, .long b)]) (q := 34) dX1_commonDivisor_32 rfl (by decide) (fun _ => rfl) (fun x4_32 ex4_32 => ?_)
      rw [show x4_32 = l from ex4_32]
      refine x_lload (q := 36) dX1_commonDivisor_34 rfl rfl ?_
      refine x_lstore (L' := fun x6_36 => [(6, .long x6_36), (4, .long (l)), (9, .long (g - g / l * l)), (8, .int (nI i)), (0, .long a), (2, .long b)]) (q := 38) dX1_commonDivisor_36 rfl (by decide) (fun _ => rfl) (fun x6_36 ex6_36 => ?_)
      obtain rfl : x6_36 = g - g / l * l := ex6_36
      refine x_iinc (L' := fun x8_38 => [(8, .int x8_38), (6, .long (g - g / l * l)), (4, .long (l)), (9, .long (g - g / l * l)), (0, .long a), (2, .long b)]) (q := 41) dX1_commonDivisor_38 rfl rfl (by decide) (fun _ => rfl) (fun x8_38 ex8_38 => ?_)
      obtain rfl : x8_38 = nI (i + 1) := ex8_38.trans (nI_1 i)
      refine x_goto (q := 9) dX1_commonDivisor_41 (by decide) ?_
      refine x_pick (L' := [(8, .int (nI (i + 1))), (4, .long l), (6, .long (g - g / l * l)), (0, .long a), (2, .long b)]) [0, 2, 1, 4, 5] rfl ?_
      exact ih (i + 1) M _ _ (by omega) (by rw [cdR, if_neg (fun h => c20 (lcmp0.mpr h))] at hQ; exact hQ)

set_option maxHeartbeats 4000000 in
set_option maxRecDepth 100000 in
theorem c_Ch_cd {n : Nat} {M : Nat → xE} {a b : Int64} : xMet mX1_commonDivisor [.long a, .long b] n M (fun r M' => M = M' ∧ some (.long (cdR 100 a b)) = r) := by
  refine xMet.of _ (by decide) rfl (Nat.le_of_ble_eq_true rfl) ?_
  refine x_lload_n (q := 1) dX1_commonDivisor_0 rfl rfl ?_
  refine x_lstore (L' := fun x4_1 => [(4, .long x4_1), (0, .long a), (2, .long b)]) (q := 3) dX1_commonDivisor_1 rfl (by decide) (fun _ => rfl) (fun x4_1 ex4_1 => ?_)
  refine x_lload_n (q := 4) dX1_commonDivisor_3 rfl rfl ?_
  refine x_lstore (L' := fun x6_4 => [(6, .long x6_4), (4, .long x4_1), (0, .long a), (2, .long b)]) (q := 6) dX1_commonDivisor_4 rfl (by decide) (fun _ => rfl) (fun x6_4 ex6_4 => ?_)
  refine x_iconst (v := 0) (q := 7) dX1_commonDivisor_6 rfl (by decide) ?_
  refine x_istore (L' := fun x8_7 => [(8, .int x8_7), (6, .long x6_4), (4, .long x4_1), (0, .long a), (2, .long b)]) (q := 9) dX1_commonDivisor_7 rfl (by decide) (fun _ => rfl) (fun x8_7 ex8_7 => ?_)
  rw [ex4_1, ex6_4, ex8_7]
  refine x_pick (L' := [(8, .int (nI 0)), (4, .long a), (6, .long b), (0, .long a), (2, .long b)]) [0, 2, 1, 3, 4] rfl ?_
  exact l_Ch_cd 100 0 M a b (by omega) ⟨rfl, rfl⟩

def cPart (w : Nat → Int64) (a : Nat) (part : Int32) : Int64 := if cdR 100 (w a) (sum4 w 4) = 0 then 0 else (if part = 0 then w a else sum4 w 4) / cdR 100 (w a) (sum4 w 4)
set_option maxHeartbeats 4000000 in
set_option maxRecDepth 100000 in
theorem c_Ch_part {n : Nat} {M : Nat → xE} {p : Nat} {t : Nat → Nat → Int32} {u : Nat → Nat → Int64} (hp : p + 6 < n) (hT : oX1 p t u M) {a b : Int32} (ha : vp_in a 4) : xMet mX1_partOf [.ref p, .int a, .int b] n M (fun r M' => M = M' ∧ some (.long (cPart (u 4) a.toNatClampNeg b)) = r) := by
  have hT0 := hT
  obtain ⟨tp0, tp1, tp2, tp3, tp4, tp5, tp6⟩ := hT
  have hiX1 : ∀ w ∈ wsX10, w ∈ wsX1_partOf := by decide +kernel
  refine xMet.of _ (by decide) rfl (Nat.le_of_ble_eq_true rfl) ?_
  refine x_aload_n (q := 1) dX1_partOf_0 rfl rfl ?_
  refine x_callV (q := 4) (ci := 1) (c_Ch_total hp hT0) eX1_partOf_66 gX1_partOf_X1_total tp0 (by omega) rfl rfl rfl (Nat.le_of_ble_eq_true rfl) ⟨Nat.le_refl _, Nat.le_refl _⟩ dX1_partOf_1 rfl rfl (fun r1 M1 p1 => ?_)
  obtain ⟨rfl, rfl⟩ := p1
  refine x_lstore_n (L' := fun x3_4 => [(3, .long x3_4), (0, .ref p), (1, .int a), (2, .int b)]) (q := 5) dX1_partOf_4 rfl (by decide) (fun _ => rfl) (fun x3_4 ex3_4 => ?_)
  obtain rfl : x3_4 = sum4 (u 4) 4 := ex3_4
  refine x_aload_n (q := 6) dX1_partOf_5 rfl rfl ?_
  refine x_getf (C := RX1) (T := TX1) (N := 7) (k := 4) (q := 9) tp0 (by omega) rfl hiX1 (by decide) (by decide +kernel) rfl dX1_partOf_6 rfl ?_
  refine x_iload_n (q := 10) dX1_partOf_9 rfl rfl ?_
  refine x_lald (q := 11) tp4 (by omega) ha dX1_partOf_10 rfl ?_
  refine x_lload_n (q := 12) dX1_partOf_11 rfl rfl ?_
  refine x_callS (q := 15) c_Ch_cd eX1_partOf_70 gX1_partOf_X1_commonDivisor rfl (Nat.le_of_ble_eq_true rfl) ⟨Nat.le_refl _, Nat.le_refl _⟩ dX1_partOf_12 rfl rfl (fun r12 M12 p12 => ?_)
  obtain ⟨rfl, rfl⟩ := p12
  refine x_lstore (L' := fun x5_15 => [(5, .long x5_15), (3, .long (sum4 (u 4) 4)), (0, .ref p), (1, .int a), (2, .int b)]) (q := 17) dX1_partOf_15 rfl (by decide) (fun _ => rfl) (fun x5_15 ex5_15 => ?_)
  obtain rfl : x5_15 = cdR 100 (u 4 a.toNatClampNeg) (sum4 (u 4) 4) := ex5_15
  refine x_lload (q := 19) dX1_partOf_17 rfl rfl ?_
  refine x_lconst (v := 0) (q := 20) dX1_partOf_19 rfl (by decide) ?_
  refine x_lcmp (q := 21) dX1_partOf_20 rfl ?_
  refine x_if_ne (t := 26) (q := 24) dX1_partOf_21 (by decide) rfl (fun c21 => ?_) (fun c21 => ?_)
  · refine x_iload_n (q := 27) dX1_partOf_26 rfl rfl ?_
    refine x_if_ne (t := 39) (q := 30) dX1_partOf_27 (by decide) rfl (fun c27 => ?_) (fun c27 => ?_)
    · refine x_lload_n (q := 40) dX1_partOf_39 rfl rfl ?_
      refine x_lload (q := 42) dX1_partOf_40 rfl rfl ?_
      refine x_ldiv (q := 43) dX1_partOf_42 rfl (fun h => c21 (lcmp0.mpr h)) ?_
      refine x_lret dX1_partOf_43 rfl rfl (Nat.le_refl _) ?_
      refine ⟨rfl, ?_⟩
      unfold cPart
      first
        | rw [if_pos (lcmp0.mp c21)]
        | rw [if_neg (fun h => c21 (lcmp0.mpr h)), if_pos c27]
        | rw [if_neg (fun h => c21 (lcmp0.mpr h)), if_neg c27]
    · refine x_aload_n (q := 31) dX1_partOf_30 rfl rfl ?_
      refine x_getf (C := RX1) (T := TX1) (N := 7) (k := 4) (q := 34) tp0 (by omega) rfl hiX1 (by decide) (by decide +kernel) rfl dX1_partOf_31 rfl ?_
      refine x_iload_n (q := 35) dX1_partOf_34 rfl rfl ?_
      refine x_lald (q := 36) tp4 (by omega) ha dX1_partOf_35 rfl ?_
      refine x_goto (q := 40) dX1_partOf_36 (by decide) ?_
      refine x_lload (q := 42) dX1_partOf_40 rfl rfl ?_
      refine x_ldiv (q := 43) dX1_partOf_42 rfl (fun h => c21 (lcmp0.mpr h)) ?_
      refine x_lret dX1_partOf_43 rfl rfl (Nat.le_refl _) ?_
      refine ⟨rfl, ?_⟩
      unfold cPart
      first
        | rw [if_pos (lcmp0.mp c21)]
        | rw [if_neg (fun h => c21 (lcmp0.mpr h)), if_pos c27]
        | rw [if_neg (fun h => c21 (lcmp0.mpr h)), if_neg c27]
  · refine x_lconst (v := 0) (q := 25) dX1_partOf_24 rfl (by decide) ?_
    refine x_lret dX1_partOf_25 rfl rfl (Nat.le_refl _) ?_
    refine ⟨rfl, ?_⟩
    unfold cPart
    first
      | rw [if_pos (lcmp0.mp c21)]
      | rw [if_neg (fun h => c21 (lcmp0.mpr h)), if_pos c27]
      | rw [if_neg (fun h => c21 (lcmp0.mpr h)), if_neg c27]

