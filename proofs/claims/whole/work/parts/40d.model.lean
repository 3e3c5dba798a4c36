def cpD (d : Nat → Int32) (f o k : Nat) : Nat → Int32 := fun j => if o ≤ j ∧ j < o + k then d (f + (j - o)) else d j
theorem cpD_0 (d : Nat → Int32) (f o : Nat) : cpD d f o 0 = d := by funext j; unfold cpD; rw [if_neg (by omega)]
theorem cpD_s (d : Nat → Int32) {f o k : Nat} (h : f + 22 ≤ o ∨ o + 22 ≤ f) (hk : k < 22) : upd (cpD d f o k) (o + k) (cpD d f o k (f + k)) = cpD d f o (k + 1) := by
  funext j
  unfold upd
  rw [show cpD d f o k (f + k) = d (f + k) from if_neg (by omega)]
  unfold cpD
  by_cases e : j = o + k
  · rw [if_pos e, if_pos (by omega), show f + (j - o) = f + k by omega]
  · rw [if_neg e]
    by_cases h2 : o ≤ j ∧ j < o + k
    · rw [if_pos h2, if_pos (by omega)]
    · rw [if_neg h2, if_neg (by omega)]
def shD (d : Nat → Int32) (k : Nat) : Nat → Int32 := fun j => if 66 ≤ j ∧ j < 66 + k then d (j + 22) else d j
theorem shD_0 (d : Nat → Int32) : shD d 0 = d := by funext j; unfold shD; rw [if_neg (by omega)]
theorem shD_s (d : Nat → Int32) (k : Nat) : upd (shD d k) (66 + k) (shD d k (66 + k + 22)) = shD d (k + 1) := by
  funext j
  unfold upd
  rw [show shD d k (66 + k + 22) = d (66 + k + 22) from if_neg (by omega)]
  unfold shD
  by_cases e : j = 66 + k
  · rw [if_pos e, if_pos (by omega), show j + 22 = 66 + k + 22 by omega]
  · rw [if_neg e]
    by_cases h2 : 66 ≤ j ∧ j < 66 + k
    · rw [if_pos h2, if_pos (by omega)]
    · rw [if_neg h2, if_neg (by omega)]
def mindD (d : Nat → Int32) (sz : Nat) : Nat → Int32 := if sz = 8 then cpD (shD d 154) 0 (66 + 22 * 7) 22 else cpD d 0 (66 + 22 * sz) 22
theorem cpD_in {d : Nat → Int32} {f o k j : Nat} (h : o ≤ j ∧ j < o + k) : cpD d f o k j = d (f + (j - o)) := if_pos h
theorem cpD_out {d : Nat → Int32} {f o k j : Nat} (h : j < o ∨ o + k ≤ j) : cpD d f o k j = d j := if_neg (by omega)
theorem shD_in {d : Nat → Int32} {k j : Nat} (h : 66 ≤ j ∧ j < 66 + k) : shD d k j = d (j + 22) := if_pos h
theorem shD_out {d : Nat → Int32} {k j : Nat} (h : j < 66 ∨ 66 + k ≤ j) : shD d k j = d j := if_neg (by omega)
theorem mindD_lo (d : Nat → Int32) {sz k : Nat} (hk : k < 66) : mindD d sz k = d k := by
  unfold mindD
  by_cases e : sz = 8
  · rw [if_pos e, cpD_out (by omega), shD_out (by omega)]
  · rw [if_neg e, cpD_out (by omega)]
theorem pPut_eq {D : Nat → Nat → Nat → Int32} {nx j : Nat} {δ : Nat → Nat → Int32} (h : j = nx) : pPut D nx δ j = δ := if_pos h
theorem pPut_ne {D : Nat → Nat → Nat → Int32} {nx j : Nat} {δ : Nat → Nat → Int32} (h : ¬ j = nx) : pPut D nx δ j = D j := if_neg h
/-- what can be undone: the model's rows and the class's ring -/
def RU (d : Nat → Int32) (D : Nat → Nat → Nat → Int32) (nx sz : Nat) : Prop := ∀ i, i < sz → ∀ k, k < 22 → d (66 + 22 * i + k) = dv (D ((nx + 8 - sz + i) % 8)) k
theorem RU_put {d : Nat → Int32} {D : Nat → Nat → Nat → Int32} {nx sz : Nat} (hnx : nx < 8) (hsz : sz ≤ 8) (h : RU d D nx sz) {δ : Nat → Nat → Int32} (hd : ∀ k, k < 22 → d k = dv δ k) : RU (mindD d sz) (pPut D nx δ) ((nx + 1) % 8) (pSz sz) := by
  intro i hi k hk
  by_cases e : sz = 8
  · subst e
    rw [show pSz 8 = 8 from rfl] at hi ⊢
    unfold mindD
    rw [if_pos rfl]
    by_cases e7 : i = 7
    · subst e7
      rw [cpD_in (by omega), pPut_eq (by omega), show 0 + (66 + 22 * 7 + k - (66 + 22 * 7)) = k by omega, shD_out (by omega)]
      exact hd k hk
    · rw [cpD_out (by omega), pPut_ne (by omega), shD_in (by omega), show 66 + 22 * i + k + 22 = 66 + 22 * (i + 1) + k by omega, h (i + 1) (by omega) k hk, show (nx + 8 - 8 + (i + 1)) % 8 = ((nx + 1) % 8 + 8 - 8 + i) % 8 by omega]
  · rw [show pSz sz = sz + 1 from if_pos (by omega)] at hi ⊢
    unfold mindD
    rw [if_neg e]
    by_cases e7 : i = sz
    · subst e7
      rw [cpD_in (by omega), pPut_eq (by omega), show 0 + (66 + 22 * i + k - (66 + 22 * i)) = k by omega]
      exact hd k hk
    · rw [cpD_out (by omega), pPut_ne (by omega), h i (by omega) k hk, show (nx + 8 - sz + i) % 8 = ((nx + 1) % 8 + 8 - (sz + 1) + i) % 8 by omega]
def dT (t : Nat → Nat → Int32) (D : Nat → Int32) (sz : Nat) : Nat → Nat → Int32 := fun z => if z = 1 then D else if z = 2 then (fun _ => nI sz) else t z
def mDeed (t : Nat → Nat → Int32) (u : Nat → Nat → Int64) (sz : Nat) (δ : Nat → Nat → Int32) (M M' : Nat → xE) : Prop := ∃ D, oX11 99 (dT t D (pSz sz)) u M' ∧ xfr 99 114 M M' ∧ (∀ k, k < 22 → D k = dv δ k) ∧ ∀ k, 22 ≤ k → D k = mindD (t 1) sz k
def dset (δ : Nat → Nat → Int32) (i : Nat) (f : Nat → Int32) : Nat → Nat → Int32 := fun z => if z = i then f else δ z
theorem upd_ne {f : Nat → Int32} {i j : Nat} {x : Int32} (h : ¬ j = i) : upd f i x j = f j := if_neg h
theorem dv_s7 {f : Nat → Int32} {δ : Nat → Nat → Int32} (h : ∀ k, k < 22 → f k = dv δ k) {a : Nat} (ha : a < 5) (x : Int32) : ∀ k, k < 22 → upd f (0 + a) x k = dv (dset δ 7 (upd (δ 7) a x)) k := by
  intro k hk
  by_cases e : k = 0 + a
  · subst e; rw [pk_us, dv_left _ ha]; show x = upd (δ 7) a x a; rw [pk_us]
  · rw [upd_ne e, h k hk]
    unfold dv
    by_cases h5 : k < 5
    · rw [if_pos h5, if_pos h5]; show δ 7 k = upd (δ 7) a x k; rw [upd_ne (by omega)]
    · rw [if_neg h5, if_neg h5]; rfl
theorem dv_s9 {f : Nat → Int32} {δ : Nat → Nat → Int32} (h : ∀ k, k < 22 → f k = dv δ k) {a : Nat} (ha : a < 6) (x : Int32) : ∀ k, k < 22 → upd f (5 + a) x k = dv (dset δ 9 (upd (δ 9) a x)) k := by
  intro k hk
  by_cases e : k = 5 + a
  · subst e; rw [pk_us, dv_holds _ ha]; show x = upd (δ 9) a x a; rw [pk_us]
  · rw [upd_ne e, h k hk]
    unfold dv
    by_cases h5 : k < 5
    · rw [if_pos h5, if_pos h5]; rfl
    · rw [if_neg h5, if_neg h5]
      by_cases h6 : k < 11
      · rw [if_pos h6, if_pos h6]; show δ 9 (k - 5) = upd (δ 9) a x (k - 5); rw [upd_ne (by omega)]
      · rw [if_neg h6, if_neg h6]; rfl
theorem dv_s8 {f : Nat → Int32} {δ : Nat → Nat → Int32} (h : ∀ k, k < 22 → f k = dv δ k) {a : Nat} (ha : a < 5) (x : Int32) : ∀ k, k < 22 → upd f (11 + a) x k = dv (dset δ 8 (upd (δ 8) a x)) k := by
  intro k hk
  by_cases e : k = 11 + a
  · subst e; rw [pk_us, dv_spouse _ ha]; show x = upd (δ 8) a x a; rw [pk_us]
  · rw [upd_ne e, h k hk]
    unfold dv
    by_cases h5 : k < 5
    · rw [if_pos h5, if_pos h5]; rfl
    · rw [if_neg h5, if_neg h5]
      by_cases h6 : k < 11
      · rw [if_pos h6, if_pos h6]; rfl
      · rw [if_neg h6, if_neg h6]
        by_cases h7 : k < 16
        · rw [if_pos h7, if_pos h7]; show δ 8 (k - 11) = upd (δ 8) a x (k - 11); rw [upd_ne (by omega)]
        · rw [if_neg h7, if_neg h7]; rfl
theorem dv_c16 {f : Nat → Int32} {δ : Nat → Nat → Int32} (h : ∀ k, k < 22 → f k = dv δ k) (x : Int32) : ∀ k, k < 22 → upd f 16 x k = dv (dset δ 4 (fun _ => x)) k := by
  intro k hk
  by_cases e : k = 16
  · subst e; rw [pk_us]; rfl
  · rw [upd_ne e, h k hk]
    unfold dv
    by_cases h5 : k < 5
    · rw [if_pos h5, if_pos h5]; rfl
    · rw [if_neg h5, if_neg h5]
      by_cases h6 : k < 11
      · rw [if_pos h6, if_pos h6]; rfl
      · rw [if_neg h6, if_neg h6]
        by_cases h7 : k < 16
        · rw [if_pos h7, if_pos h7]; rfl
        · rw [if_neg h7, if_neg h7]
          rcases (show k = 16 ∨ k = 17 ∨ k = 18 ∨ k = 19 ∨ k = 20 ∨ k = 21 by omega) with g | g | g | g | g | g <;> subst g <;> first | rfl | exact absurd rfl e
theorem dv_c17 {f : Nat → Int32} {δ : Nat → Nat → Int32} (h : ∀ k, k < 22 → f k = dv δ k) (x : Int32) : ∀ k, k < 22 → upd f 17 x k = dv (dset δ 5 (fun _ => x)) k := by
  intro k hk
  by_cases e : k = 17
  · subst e; rw [pk_us]; rfl
  · rw [upd_ne e, h k hk]
    unfold dv
    by_cases h5 : k < 5
    · rw [if_pos h5, if_pos h5]; rfl
    · rw [if_neg h5, if_neg h5]
      by_cases h6 : k < 11
      · rw [if_pos h6, if_pos h6]; rfl
      · rw [if_neg h6, if_neg h6]
        by_cases h7 : k < 16
        · rw [if_pos h7, if_pos h7]; rfl
        · rw [if_neg h7, if_neg h7]
          rcases (show k = 16 ∨ k = 17 ∨ k = 18 ∨ k = 19 ∨ k = 20 ∨ k = 21 by omega) with g | g | g | g | g | g <;> subst g <;> first | rfl | exact absurd rfl e
theorem dv_c18 {f : Nat → Int32} {δ : Nat → Nat → Int32} (h : ∀ k, k < 22 → f k = dv δ k) (x : Int32) : ∀ k, k < 22 → upd f 18 x k = dv (dset δ 6 (fun _ => x)) k := by
  intro k hk
  by_cases e : k = 18
  · subst e; rw [pk_us]; rfl
  · rw [upd_ne e, h k hk]
    unfold dv
    by_cases h5 : k < 5
    · rw [if_pos h5, if_pos h5]; rfl
    · rw [if_neg h5, if_neg h5]
      by_cases h6 : k < 11
      · rw [if_pos h6, if_pos h6]; rfl
      · rw [if_neg h6, if_neg h6]
        by_cases h7 : k < 16
        · rw [if_pos h7, if_pos h7]; rfl
        · rw [if_neg h7, if_neg h7]
          rcases (show k = 16 ∨ k = 17 ∨ k = 18 ∨ k = 19 ∨ k = 20 ∨ k = 21 by omega) with g | g | g | g | g | g <;> subst g <;> first | rfl | exact absurd rfl e
theorem dv_c19 {f : Nat → Int32} {δ : Nat → Nat → Int32} (h : ∀ k, k < 22 → f k = dv δ k) (x : Int32) : ∀ k, k < 22 → upd f 19 x k = dv (dset δ 2 (fun _ => x)) k := by
  intro k hk
  by_cases e : k = 19
  · subst e; rw [pk_us]; rfl
  · rw [upd_ne e, h k hk]
    unfold dv
    by_cases h5 : k < 5
    · rw [if_pos h5, if_pos h5]; rfl
    · rw [if_neg h5, if_neg h5]
      by_cases h6 : k < 11
      · rw [if_pos h6, if_pos h6]; rfl
      · rw [if_neg h6, if_neg h6]
        by_cases h7 : k < 16
        · rw [if_pos h7, if_pos h7]; rfl
        · rw [if_neg h7, if_neg h7]
          rcases (show k = 16 ∨ k = 17 ∨ k = 18 ∨ k = 19 ∨ k = 20 ∨ k = 21 by omega) with g | g | g | g | g | g <;> subst g <;> first | rfl | exact absurd rfl e
theorem dv_c20 {f : Nat → Int32} {δ : Nat → Nat → Int32} (h : ∀ k, k < 22 → f k = dv δ k) (x : Int32) : ∀ k, k < 22 → upd f 20 x k = dv (dset δ 0 (fun _ => x)) k := by
  intro k hk
  by_cases e : k = 20
  · subst e; rw [pk_us]; rfl
  · rw [upd_ne e, h k hk]
    unfold dv
    by_cases h5 : k < 5
    · rw [if_pos h5, if_pos h5]; rfl
    · rw [if_neg h5, if_neg h5]
      by_cases h6 : k < 11
      · rw [if_pos h6, if_pos h6]; rfl
      · rw [if_neg h6, if_neg h6]
        by_cases h7 : k < 16
        · rw [if_pos h7, if_pos h7]; rfl
        · rw [if_neg h7, if_neg h7]
          rcases (show k = 16 ∨ k = 17 ∨ k = 18 ∨ k = 19 ∨ k = 20 ∨ k = 21 by omega) with g | g | g | g | g | g <;> subst g <;> first | rfl | exact absurd rfl e
theorem dv_c21 {f : Nat → Int32} {δ : Nat → Nat → Int32} (h : ∀ k, k < 22 → f k = dv δ k) (x : Int32) : ∀ k, k < 22 → upd f 21 x k = dv (dset δ 1 (fun _ => x)) k := by
  intro k hk
  by_cases e : k = 21
  · subst e; rw [pk_us]; rfl
  · rw [upd_ne e, h k hk]
    unfold dv
    by_cases h5 : k < 5
    · rw [if_pos h5, if_pos h5]; rfl
    · rw [if_neg h5, if_neg h5]
      by_cases h6 : k < 11
      · rw [if_pos h6, if_pos h6]; rfl
      · rw [if_neg h6, if_neg h6]
        by_cases h7 : k < 16
        · rw [if_pos h7, if_pos h7]; rfl
        · rw [if_neg h7, if_neg h7]
          rcases (show k = 16 ∨ k = 17 ∨ k = 18 ∨ k = 19 ∨ k = 20 ∨ k = 21 by omega) with g | g | g | g | g | g <;> subst g <;> first | rfl | exact absurd rfl e
set_option maxHeartbeats 4000000 in
set_option maxRecDepth 100000 in
theorem l_m_copy {n f o : Nat} {t : Nat → Nat → Int32} {u : Nat → Nat → Int64} {Q : Option Value → (Nat → xE) → Prop} {M0 : Nat → xE} (hn : 113 < n) (hfo : f + 22 ≤ o ∨ o + 22 ≤ f) (hf2 : f ≤ 220) (ho : o ≤ 220) (hQ : ∀ M, oX11 99 (fun z => if z = 1 then cpD (t 1) f o 22 else t z) u M → xfr 99 114 M0 M → Q none M) : ∀ (k i : Nat) (M : Nat → xE), i + k = 22 → (oX11 99 (fun z => if z = 1 then cpD (t 1) f o i else t z) u M) → (xfr 99 114 M0 M) → X mX11_copyDay 0 0 2 [(3, .int (nI i)), (0, .ref 99), (1, .int (nI f)), (2, .int (nI o))] [] n M (Q) := by
  have hiX11 : ∀ w ∈ wsX110, w ∈ wsX11_copyDay := by decide +kernel
  intro k
  induction k with
  | zero =>
    intro i M hik hM hf
    have hM0 := hM
    obtain ⟨mp0, mp1, mp2, mp3, mp4, mp5, mp6, mp7, mp8, mp9, mp10, mp11, mp12, mp13, mp14⟩ := hM
    have mp2 : M (99 + 2) = .inl (0, 242, .inl (cpD (t 1) f o i)) := mp2
    refine x_iload_n (q := 3) dX11_copyDay_2 rfl rfl ?_
    refine x_bipush (v := 22) (q := 5) dX11_copyDay_3 rfl (by decide) ?_
    refine x_icmp_ge (t := 30) (q := 8) dX11_copyDay_5 (by decide) rfl (fun c5 => ?_) (fun c5 => absurd (by rw [show i = 22 by omega]; exact nI_le (Nat.le_refl _) (by omega)) c5)
    refine x_vret dX11_copyDay_30 rfl rfl (Nat.le_refl _) ?_
    have e9 : i = 22 := by omega
    subst e9
    exact hQ M hM0 hf
  | succ k ih =>
    intro i M hik hM hf
    have hM0 := hM
    obtain ⟨mp0, mp1, mp2, mp3, mp4, mp5, mp6, mp7, mp8, mp9, mp10, mp11, mp12, mp13, mp14⟩ := hM
    have mp2 : M (99 + 2) = .inl (0, 242, .inl (cpD (t 1) f o i)) := mp2
    refine x_iload_n (q := 3) dX11_copyDay_2 rfl rfl ?_
    refine x_bipush (v := 22) (q := 5) dX11_copyDay_3 rfl (by decide) ?_
    refine x_icmp_ge (t := 30) (q := 8) dX11_copyDay_5 (by decide) rfl (fun c5 => absurd c5 (nI_ge (a := i) (b := 22) (by omega) (by omega))) (fun c5 => ?_)
    refine x_aload_n (q := 9) dX11_copyDay_8 rfl rfl ?_
    refine x_getf (C := RX11) (T := TX11) (N := 29) (k := 1) (q := 12) mp0 (by omega) rfl hiX11 (by decide) (by decide +kernel) rfl dX11_copyDay_9 rfl ?_
    refine x_iload_n (q := 13) dX11_copyDay_12 rfl rfl ?_
    refine x_iload_n (q := 14) dX11_copyDay_13 rfl rfl ?_
    refine x_iadd (q := 15) dX11_copyDay_14 rfl ?_
    refine x_aload_n (q := 16) dX11_copyDay_15 rfl rfl ?_
    refine x_getf (C := RX11) (T := TX11) (N := 29) (k := 1) (q := 19) mp0 (by omega) rfl hiX11 (by decide) (by decide +kernel) rfl dX11_copyDay_16 rfl ?_
    refine x_iload_n (q := 20) dX11_copyDay_19 rfl rfl ?_
    refine x_iload_n (q := 21) dX11_copyDay_20 rfl rfl ?_
    refine x_iadd (q := 22) dX11_copyDay_21 rfl ?_
    refine x_iald (q := 23) mp2 (by omega) (ixI (show ((nI f + nI i) : Int32) = nI (f + i) from (nIs rfl rfl)) (by omega) (by decide)) dX11_copyDay_22 rfl ?_
    rw [ixC (show ((nI f + nI i) : Int32) = nI (f + i) from (nIs rfl rfl)) (by omega)]
    refine x_iast (q := 24) mp2 (by omega) (ixI (show ((nI o + nI i) : Int32) = nI (o + i) from (nIs rfl rfl)) (by omega) (by decide)) dX11_copyDay_23 rfl (fun M23 w23 o23 => ?_)
    rw [ixC (show ((nI o + nI i) : Int32) = nI (o + i) from (nIs rfl rfl)) (by omega)] at w23
    refine x_iinc (L' := fun x3_24 => [(3, .int x3_24), (0, .ref 99), (1, .int (nI f)), (2, .int (nI o))]) (q := 27) dX11_copyDay_24 rfl rfl (by decide) (fun _ => rfl) (fun x3_24 ex3_24 => ?_)
    obtain rfl : x3_24 = nI (i + 1) := ex3_24.trans (nI_1 i)
    refine x_goto (q := 2) dX11_copyDay_27 (by decide) ?_
    rw [cpD_s (t 1) hfo (show i < 22 by omega)] at w23
    have hv1_1_99 := ((o23 (99) (by omega)).trans mp0)
    have hv1_2_100 := ((o23 (100) (by omega)).trans mp1)
    have hv1_3_102 := ((o23 (102) (by omega)).trans mp3)
    have hv1_4_103 := ((o23 (103) (by omega)).trans mp4)
    have hv1_5_104 := ((o23 (104) (by omega)).trans mp5)
    have hv1_6_105 := ((o23 (105) (by omega)).trans mp6)
    have hv1_7_106 := ((o23 (106) (by omega)).trans mp7)
    have hv1_8_107 := ((o23 (107) (by omega)).trans mp8)
    have hv1_9_108 := ((o23 (108) (by omega)).trans mp9)
    have hv1_10_109 := ((o23 (109) (by omega)).trans mp10)
    have hv1_11_110 := ((o23 (110) (by omega)).trans mp11)
    have hv1_12_111 := ((o23 (111) (by omega)).trans mp12)
    have hv1_13_112 := ((o23 (112) (by omega)).trans mp13)
    have hv1_14_113 := ((o23 (113) (by omega)).trans mp14)
    refine x_pick (L' := [(3, .int (nI (i + 1))), (0, .ref 99), (1, .int (nI f)), (2, .int (nI o))]) [0, 1, 2, 3] rfl ?_
    exact ih (i + 1) M23 (by omega) ⟨hv1_1_99, hv1_2_100, w23, hv1_3_102, hv1_4_103, hv1_5_104, hv1_6_105, hv1_7_106, hv1_8_107, hv1_9_108, hv1_10_109, hv1_11_110, hv1_12_111, hv1_13_112, hv1_14_113⟩ (fun j hj => ((o23 j (by omega)).trans (hf j hj)))

set_option maxHeartbeats 4000000 in
set_option maxRecDepth 100000 in
theorem c_m_copyDay {n : Nat} {M : Nat → xE} {t : Nat → Nat → Int32} {u : Nat → Nat → Int64} (hn : 113 < n) (hM : oX11 99 t u M) {f o : Nat} (hfo : f + 22 ≤ o ∨ o + 22 ≤ f) (hf2 : f ≤ 220) (ho : o ≤ 220) : xMet mX11_copyDay [.ref 99, .int (nI f), .int (nI o)] n M (fun r M' => none = r ∧ oX11 99 (fun z => if z = 1 then cpD (t 1) f o 22 else t z) u M' ∧ xfr 99 114 M M') := by
  have hM0 := hM
  obtain ⟨mp0, mp1, mp2, mp3, mp4, mp5, mp6, mp7, mp8, mp9, mp10, mp11, mp12, mp13, mp14⟩ := hM
  refine xMet.of _ (by decide) rfl (Nat.le_of_ble_eq_true rfl) ?_
  refine x_iconst (v := 0) (q := 1) dX11_copyDay_0 rfl (by decide) ?_
  refine x_istore_n (L' := fun x3_1 => [(3, .int x3_1), (0, .ref 99), (1, .int (nI f)), (2, .int (nI o))]) (q := 2) dX11_copyDay_1 rfl (by decide) (fun _ => rfl) (fun x3_1 ex3_1 => ?_)
  subst ex3_1
  exact l_m_copy (M0 := M) hn hfo hf2 ho (fun M h1 h2 => ⟨rfl, h1, h2⟩) 22 0 M (by omega) ⟨mp0, mp1, by rw [mp2]; show _ = Sum.inl (0, 242, Sum.inl (cpD (t 1) f o 0)); rw [cpD_0], mp3, mp4, mp5, mp6, mp7, mp8, mp9, mp10, mp11, mp12, mp13, mp14⟩ (fun j _ => rfl)

set_option maxHeartbeats 4000000 in
set_option maxRecDepth 100000 in
theorem l_m_shift {n : Nat} {t : Nat → Nat → Int32} {u : Nat → Nat → Int64} {Q : Option Value → (Nat → xE) → Prop} {M0 : Nat → xE} (hn : 113 < n) (hk : ∀ M, oX11 99 (fun z => if z = 1 then shD (t 1) 154 else t z) u M → xfr 99 114 M0 M → X mX11_minds 0 0 45 [(1, .int (nI 154)), (0, .ref 99)] [] n M Q) : ∀ (k i : Nat) (M : Nat → xE), i + k = 154 → (oX11 99 (fun z => if z = 1 then shD (t 1) i else t z) u M) → (xfr 99 114 M0 M) → X mX11_minds 0 0 11 [(1, .int (nI i)), (0, .ref 99)] [] n M (Q) := by
  have hiX11 : ∀ w ∈ wsX110, w ∈ wsX11_minds := by decide +kernel
  intro k
  induction k with
  | zero =>
    intro i M hik hM hf
    have hM0 := hM
    obtain ⟨mp0, mp1, mp2, mp3, mp4, mp5, mp6, mp7, mp8, mp9, mp10, mp11, mp12, mp13, mp14⟩ := hM
    have mp2 : M (99 + 2) = .inl (0, 242, .inl (shD (t 1) i)) := mp2
    refine x_iload_n (q := 12) dX11_minds_11 rfl rfl ?_
    refine x_sipush (v := 154) (q := 15) dX11_minds_12 rfl (by decide) ?_
    refine x_icmp_ge (t := 45) (q := 18) dX11_minds_15 (by decide) rfl (fun c15 => ?_) (fun c15 => absurd (by rw [show i = 154 by omega]; exact nI_le (Nat.le_refl _) (by omega)) c15)
    have e9 : i = 154 := by omega
    subst e9
    exact hk M hM0 hf
  | succ k ih =>
    intro i M hik hM hf
    have hM0 := hM
    obtain ⟨mp0, mp1, mp2, mp3, mp4, mp5, mp6, mp7, mp8, mp9, mp10, mp11, mp12, mp13, mp14⟩ := hM
    have mp2 : M (99 + 2) = .inl (0, 242, .inl (shD (t 1) i)) := mp2
    refine x_iload_n (q := 12) dX11_minds_11 rfl rfl ?_
    refine x_sipush (v := 154) (q := 15) dX11_minds_12 rfl (by decide) ?_
    refine x_icmp_ge (t := 45) (q := 18) dX11_minds_15 (by decide) rfl (fun c15 => absurd c15 (nI_ge (a := i) (b := 154) (by omega) (by omega))) (fun c15 => ?_)
    refine x_aload_n (q := 19) dX11_minds_18 rfl rfl ?_
    refine x_getf (C := RX11) (T := TX11) (N := 29) (k := 1) (q := 22) mp0 (by omega) rfl hiX11 (by decide) (by decide +kernel) rfl dX11_minds_19 rfl ?_
    refine x_bipush (v := 66) (q := 24) dX11_minds_22 rfl (by decide) ?_
    refine x_iload_n (q := 25) dX11_minds_24 rfl rfl ?_
    refine x_iadd (q := 26) dX11_minds_25 rfl ?_
    refine x_aload_n (q := 27) dX11_minds_26 rfl rfl ?_
    refine x_getf (C := RX11) (T := TX11) (N := 29) (k := 1) (q := 30) mp0 (by omega) rfl hiX11 (by decide) (by decide +kernel) rfl dX11_minds_27 rfl ?_
    refine x_bipush (v := 66) (q := 32) dX11_minds_30 rfl (by decide) ?_
    refine x_iload_n (q := 33) dX11_minds_32 rfl rfl ?_
    refine x_iadd (q := 34) dX11_minds_33 rfl ?_
    refine x_bipush (v := 22) (q := 36) dX11_minds_34 rfl (by decide) ?_
    refine x_iadd (q := 37) dX11_minds_36 rfl ?_
    refine x_iald (q := 38) mp2 (by omega) (ixI (show (((66 + nI i) + 22) : Int32) = nI ((66 + i) + 22) from (nIs (nIs rfl rfl) rfl)) (by omega) (by decide)) dX11_minds_37 rfl ?_
    rw [ixC (show (((66 + nI i) + 22) : Int32) = nI ((66 + i) + 22) from (nIs (nIs rfl rfl) rfl)) (by omega)]
    refine x_iast (q := 39) mp2 (by omega) (ixI (show ((66 + nI i) : Int32) = nI (66 + i) from (nIs rfl rfl)) (by omega) (by decide)) dX11_minds_38 rfl (fun M38 w38 o38 => ?_)
    rw [ixC (show ((66 + nI i) : Int32) = nI (66 + i) from (nIs rfl rfl)) (by omega)] at w38
    refine x_iinc (L' := fun x1_39 => [(1, .int x1_39), (0, .ref 99)]) (q := 42) dX11_minds_39 rfl rfl (by decide) (fun _ => rfl) (fun x1_39 ex1_39 => ?_)
    obtain rfl : x1_39 = nI (i + 1) := ex1_39.trans (nI_1 i)
    refine x_goto (q := 11) dX11_minds_42 (by decide) ?_
    rw [shD_s (t 1)] at w38
    have hv1_1_99 := ((o38 (99) (by omega)).trans mp0)
    have hv1_2_100 := ((o38 (100) (by omega)).trans mp1)
    have hv1_3_102 := ((o38 (102) (by omega)).trans mp3)
    have hv1_4_103 := ((o38 (103) (by omega)).trans mp4)
    have hv1_5_104 := ((o38 (104) (by omega)).trans mp5)
    have hv1_6_105 := ((o38 (105) (by omega)).trans mp6)
    have hv1_7_106 := ((o38 (106) (by omega)).trans mp7)
    have hv1_8_107 := ((o38 (107) (by omega)).trans mp8)
    have hv1_9_108 := ((o38 (108) (by omega)).trans mp9)
    have hv1_10_109 := ((o38 (109) (by omega)).trans mp10)
    have hv1_11_110 := ((o38 (110) (by omega)).trans mp11)
    have hv1_12_111 := ((o38 (111) (by omega)).trans mp12)
    have hv1_13_112 := ((o38 (112) (by omega)).trans mp13)
    have hv1_14_113 := ((o38 (113) (by omega)).trans mp14)
    refine x_pick (L' := [(1, .int (nI (i + 1))), (0, .ref 99)]) [0, 1] rfl ?_
    exact ih (i + 1) M38 (by omega) ⟨hv1_1_99, hv1_2_100, w38, hv1_3_102, hv1_4_103, hv1_5_104, hv1_6_105, hv1_7_106, hv1_8_107, hv1_9_108, hv1_10_109, hv1_11_110, hv1_12_111, hv1_13_112, hv1_14_113⟩ (fun j hj => ((o38 j (by omega)).trans (hf j hj)))

set_option maxHeartbeats 4000000 in
set_option maxRecDepth 100000 in
theorem c_m_minds {n : Nat} {M : Nat → xE} {t : Nat → Nat → Int32} {u : Nat → Nat → Int64} (hn : 113 < n) (hM : oX11 99 t u M) {sz : Nat} (hsz : sz ≤ 8) (h2 : t 2 0 = nI sz) : xMet mX11_minds [.ref 99] n M (fun r M' => none = r ∧ oX11 99 (dT t (mindD (t 1) sz) (pSz sz)) u M' ∧ xfr 99 114 M M') := by
  have hM0 := hM
  obtain ⟨mp0, mp1, mp2, mp3, mp4, mp5, mp6, mp7, mp8, mp9, mp10, mp11, mp12, mp13, mp14⟩ := hM
  have hiX11 : ∀ w ∈ wsX110, w ∈ wsX11_minds := by decide +kernel
  refine xMet.of _ (by decide) rfl (Nat.le_of_ble_eq_true rfl) ?_
  refine x_aload_n (q := 1) dX11_minds_0 rfl rfl ?_
  refine x_getf (C := RX11) (T := TX11) (N := 29) (k := 2) (q := 4) mp0 (by omega) rfl hiX11 (by decide) (by decide +kernel) rfl dX11_minds_1 rfl ?_
  rw [h2]
  refine x_bipush (v := 8) (q := 6) dX11_minds_4 rfl (by decide) ?_
  refine x_icmp_ne (t := 55) (q := 9) dX11_minds_6 (by decide) rfl (fun c6 => ?_) (fun c6 => ?_)
  · refine x_aload_n (q := 56) dX11_minds_55 rfl rfl ?_
    refine x_iconst (v := 0) (q := 57) dX11_minds_56 rfl (by decide) ?_
    refine x_bipush (v := 66) (q := 59) dX11_minds_57 rfl (by decide) ?_
    refine x_bipush (v := 22) (q := 61) dX11_minds_59 rfl (by decide) ?_
    refine x_aload_n (q := 62) dX11_minds_61 rfl rfl ?_
    refine x_getf (C := RX11) (T := TX11) (N := 29) (k := 2) (q := 65) mp0 (by omega) rfl hiX11 (by decide) (by decide +kernel) rfl dX11_minds_62 rfl ?_
    rw [h2]
    refine x_imul (q := 66) dX11_minds_65 rfl ?_
    refine x_iadd (q := 67) dX11_minds_66 rfl ?_
    rw [show (66 + 22 * nI sz : Int32) = nI (66 + 22 * sz) from nIs rfl (nIm rfl rfl)]
    have h8 : ¬ sz = 8 := fun h => c6 (by rw [h]; rfl)
    refine x_callV (q := 70) (ci := 11) (c_m_copyDay (t := t) (u := u) (f := 0) (o := 66 + 22 * sz) hn ⟨mp0, mp1, mp2, mp3, mp4, mp5, mp6, mp7, mp8, mp9, mp10, mp11, mp12, mp13, mp14⟩ (Or.inl (by omega)) (by omega) (by omega)) eX11_minds_198 gX11_minds_X11_copyDay mp0 (by omega) rfl rfl rfl (Nat.le_of_ble_eq_true rfl) ⟨Nat.le_refl _, Nat.le_refl _⟩ dX11_minds_67 rfl rfl (fun r67 M67 p67 => ?_)
    obtain ⟨rfl, hV67, fr67⟩ := p67
    have hU67 := hV67
    obtain ⟨y67_0, y67_1, y67_2, y67_3, y67_4, y67_5, y67_6, y67_7, y67_8, y67_9, y67_10, y67_11, y67_12, y67_13, y67_14⟩ := hV67
    refine x_aload_n (q := 71) dX11_minds_70 rfl rfl ?_
    refine x_dup (q := 72) dX11_minds_71 rfl rfl ?_
    refine x_getf (C := RX11) (T := TX11) (N := 29) (k := 2) (q := 75) y67_0 (by omega) rfl hiX11 (by decide) (by decide +kernel) rfl dX11_minds_72 rfl ?_
    show X mX11_minds 0 0 _ _ [.int (t 2 0), .ref 99] _ _ _
    rw [h2]
    refine x_iconst (v := 1) (q := 76) dX11_minds_75 rfl (by decide) ?_
    refine x_iadd (q := 77) dX11_minds_76 rfl ?_
    rw [nI_1]
    refine x_put (C := RX11) (T := TX11) (N := 29) (k := 2) (q := 80) (ty := .int) tyX11_ok nmX11 y67_0 (by omega) rfl hiX11 (by decide) (by decide +kernel) rfl (by decide +kernel) (fun _ => rfl) (fun _ => rfl) (Nat.le_of_ble_eq_true rfl) dX11_minds_77 rfl (fun M77 w77 o77 => ?_)
    refine x_vret dX11_minds_80 rfl rfl (Nat.le_refl _) ?_
    have hv2_1_100 := ((o77 (100) (by omega)).trans y67_1)
    have hv2_2_101 := ((o77 (101) (by omega)).trans y67_2)
    have hv2_3_102 := ((o77 (102) (by omega)).trans y67_3)
    have hv2_4_103 := ((o77 (103) (by omega)).trans y67_4)
    have hv2_5_104 := ((o77 (104) (by omega)).trans y67_5)
    have hv2_6_105 := ((o77 (105) (by omega)).trans y67_6)
    have hv2_7_106 := ((o77 (106) (by omega)).trans y67_7)
    have hv2_8_107 := ((o77 (107) (by omega)).trans y67_8)
    have hv2_9_108 := ((o77 (108) (by omega)).trans y67_9)
    have hv2_10_109 := ((o77 (109) (by omega)).trans y67_10)
    have hv2_11_110 := ((o77 (110) (by omega)).trans y67_11)
    have hv2_12_111 := ((o77 (111) (by omega)).trans y67_12)
    have hv2_13_112 := ((o77 (112) (by omega)).trans y67_13)
    have hv2_14_113 := ((o77 (113) (by omega)).trans y67_14)
    refine ⟨rfl, ?_, fun j hj => ((o77 j (by omega)).trans ((fr67 j (by omega)).trans rfl))⟩
    have hh : oX11 99 (dT t (cpD (t 1) 0 (66 + 22 * sz) 22) (sz + 1)) u M77 := ⟨w77, hv2_1_100, hv2_2_101, hv2_3_102, hv2_4_103, hv2_5_104, hv2_6_105, hv2_7_106, hv2_8_107, hv2_9_108, hv2_10_109, hv2_11_110, hv2_12_111, hv2_13_112, hv2_14_113⟩
    have e8 : ¬ sz = 8 := fun h => c6 (by rw [h]; rfl)
    unfold mindD pSz
    rw [if_neg e8, if_pos (by omega)]
    exact hh
  · refine x_iconst (v := 0) (q := 10) dX11_minds_9 rfl (by decide) ?_
    refine x_istore_n (L' := fun x1_10 => [(1, .int x1_10), (0, .ref 99)]) (q := 11) dX11_minds_10 rfl (by decide) (fun _ => rfl) (fun x1_10 ex1_10 => ?_)
    have e8 : sz = 8 := by have h8 : nI sz = nI 8 := c6; have := congrArg Int32.toNatClampNeg h8; rw [nI_clamp (by omega), nI_clamp (by omega)] at this; exact this
    subst e8
    subst ex1_10
    refine l_m_shift (t := t) (u := u) (M0 := M) hn (fun M45 k1 k2 => ?_) 154 0 M (by omega) ⟨mp0, mp1, by rw [mp2]; show _ = Sum.inl (0, 242, Sum.inl (shD (t 1) 0)); rw [shD_0], mp3, mp4, mp5, mp6, mp7, mp8, mp9, mp10, mp11, mp12, mp13, mp14⟩ (fun j _ => rfl)
    obtain ⟨kp0, kp1, kp2, kp3, kp4, kp5, kp6, kp7, kp8, kp9, kp10, kp11, kp12, kp13, kp14⟩ := k1
    have kp2 : M45 (99 + 2) = .inl (0, 242, .inl (shD (t 1) 154)) := kp2
    refine x_aload_n (q := 46) dX11_minds_45 rfl rfl ?_
    refine x_dup (q := 47) dX11_minds_46 rfl rfl ?_
    refine x_getf (C := RX11) (T := TX11) (N := 29) (k := 2) (q := 50) kp0 (by omega) rfl hiX11 (by decide) (by decide +kernel) rfl dX11_minds_47 rfl ?_
    show X mX11_minds 0 0 _ _ [.int (t 2 0), .ref 99] _ _ _
    rw [h2]
    refine x_iconst (v := 1) (q := 51) dX11_minds_50 rfl (by decide) ?_
    refine x_isub (q := 52) dX11_minds_51 rfl ?_
    rw [show (nI 8 - 1 : Int32) = nI 7 by decide]
    refine x_put (C := RX11) (T := TX11) (N := 29) (k := 2) (q := 55) (ty := .int) tyX11_ok nmX11 kp0 (by omega) rfl hiX11 (by decide) (by decide +kernel) rfl (by decide +kernel) (fun _ => rfl) (fun _ => rfl) (Nat.le_of_ble_eq_true rfl) dX11_minds_52 rfl (fun M52 w52 o52 => ?_)
    refine x_aload_n (q := 56) dX11_minds_55 rfl rfl ?_
    refine x_iconst (v := 0) (q := 57) dX11_minds_56 rfl (by decide) ?_
    refine x_bipush (v := 66) (q := 59) dX11_minds_57 rfl (by decide) ?_
    refine x_bipush (v := 22) (q := 61) dX11_minds_59 rfl (by decide) ?_
    refine x_aload_n (q := 62) dX11_minds_61 rfl rfl ?_
    refine x_getf (C := RX11) (T := TX11) (N := 29) (k := 2) (q := 65) w52 (by omega) rfl hiX11 (by decide) (by decide +kernel) rfl dX11_minds_62 rfl ?_
    refine x_imul (q := 66) dX11_minds_65 rfl ?_
    refine x_iadd (q := 67) dX11_minds_66 rfl ?_
    rw [show (66 + 22 * nI 7 : Int32) = nI (66 + 22 * 7) from nIs rfl (nIm rfl rfl)]
    have hv1_1_100 := ((o52 (100) (by omega)).trans kp1)
    have hv1_2_101 := ((o52 (101) (by omega)).trans kp2)
    have hv1_3_102 := ((o52 (102) (by omega)).trans kp3)
    have hv1_4_103 := ((o52 (103) (by omega)).trans kp4)
    have hv1_5_104 := ((o52 (104) (by omega)).trans kp5)
    have hv1_6_105 := ((o52 (105) (by omega)).trans kp6)
    have hv1_7_106 := ((o52 (106) (by omega)).trans kp7)
    have hv1_8_107 := ((o52 (107) (by omega)).trans kp8)
    have hv1_9_108 := ((o52 (108) (by omega)).trans kp9)
    have hv1_10_109 := ((o52 (109) (by omega)).trans kp10)
    have hv1_11_110 := ((o52 (110) (by omega)).trans kp11)
    have hv1_12_111 := ((o52 (111) (by omega)).trans kp12)
    have hv1_13_112 := ((o52 (112) (by omega)).trans kp13)
    have hv1_14_113 := ((o52 (113) (by omega)).trans kp14)
    refine x_callV (q := 70) (ci := 11) (c_m_copyDay (t := dT t (shD (t 1) 154) 7) (u := u) (f := 0) (o := 66 + 22 * 7) hn ⟨w52, hv1_1_100, hv1_2_101, hv1_3_102, hv1_4_103, hv1_5_104, hv1_6_105, hv1_7_106, hv1_8_107, hv1_9_108, hv1_10_109, hv1_11_110, hv1_12_111, hv1_13_112, hv1_14_113⟩ (Or.inl (by omega)) (by omega) (by omega)) eX11_minds_198 gX11_minds_X11_copyDay w52 (by omega) rfl rfl rfl (Nat.le_of_ble_eq_true rfl) ⟨Nat.le_refl _, Nat.le_refl _⟩ dX11_minds_67 rfl rfl (fun r67 M67 p67 => ?_)
    obtain ⟨rfl, hV67, fr67⟩ := p67
    have hU67 := hV67
    obtain ⟨y67_0, y67_1, y67_2, y67_3, y67_4, y67_5, y67_6, y67_7, y67_8, y67_9, y67_10, y67_11, y67_12, y67_13, y67_14⟩ := hV67
    refine x_aload_n (q := 71) dX11_minds_70 rfl rfl ?_
    refine x_dup (q := 72) dX11_minds_71 rfl rfl ?_
    refine x_getf (C := RX11) (T := TX11) (N := 29) (k := 2) (q := 75) y67_0 (by omega) rfl hiX11 (by decide) (by decide +kernel) rfl dX11_minds_72 rfl ?_
    show X mX11_minds 0 0 _ _ [.int (nI 7), .ref 99] _ _ _
    refine x_iconst (v := 1) (q := 76) dX11_minds_75 rfl (by decide) ?_
    refine x_iadd (q := 77) dX11_minds_76 rfl ?_
    rw [nI_1]
    refine x_put (C := RX11) (T := TX11) (N := 29) (k := 2) (q := 80) (ty := .int) tyX11_ok nmX11 y67_0 (by omega) rfl hiX11 (by decide) (by decide +kernel) rfl (by decide +kernel) (fun _ => rfl) (fun _ => rfl) (Nat.le_of_ble_eq_true rfl) dX11_minds_77 rfl (fun M77 w77 o77 => ?_)
    refine x_vret dX11_minds_80 rfl rfl (Nat.le_refl _) ?_
    have hv3_15_100 := ((o77 (100) (by omega)).trans y67_1)
    have hv3_16_101 := ((o77 (101) (by omega)).trans y67_2)
    have hv3_17_102 := ((o77 (102) (by omega)).trans y67_3)
    have hv3_18_103 := ((o77 (103) (by omega)).trans y67_4)
    have hv3_19_104 := ((o77 (104) (by omega)).trans y67_5)
    have hv3_20_105 := ((o77 (105) (by omega)).trans y67_6)
    have hv3_21_106 := ((o77 (106) (by omega)).trans y67_7)
    have hv3_22_107 := ((o77 (107) (by omega)).trans y67_8)
    have hv3_23_108 := ((o77 (108) (by omega)).trans y67_9)
    have hv3_24_109 := ((o77 (109) (by omega)).trans y67_10)
    have hv3_25_110 := ((o77 (110) (by omega)).trans y67_11)
    have hv3_26_111 := ((o77 (111) (by omega)).trans y67_12)
    have hv3_27_112 := ((o77 (112) (by omega)).trans y67_13)
    have hv3_28_113 := ((o77 (113) (by omega)).trans y67_14)
    refine ⟨rfl, ?_, fun j hj => ((o77 j (by omega)).trans ((fr67 j (by omega)).trans ((o52 j (by omega)).trans (k2 j hj))))⟩
    have hh : oX11 99 (dT t (cpD (shD (t 1) 154) 0 (66 + 22 * 7) 22) 8) u M77 := ⟨w77, hv3_15_100, hv3_16_101, hv3_17_102, hv3_18_103, hv3_19_104, hv3_20_105, hv3_21_106, hv3_22_107, hv3_23_108, hv3_24_109, hv3_25_110, hv3_26_111, hv3_27_112, hv3_28_113⟩
    unfold mindD pSz
    rw [if_pos rfl, if_neg (by decide)]
    exact hh
    

