def tnN (τ : Nat → Nat → Int32) (k : Nat) : Nat := (τ 13 k).toNatClampNeg
def chN (τ : Nat → Nat → Int32) (k : Nat) : Nat := (τ 14 k).toNatClampNeg
theorem vp_eq {x : Int32} {N : Nat} (h : vp_in x N) (hN : N < 2 ^ 31) : x = nI x.toNatClampNeg ∧ x.toNatClampNeg < N := by
  obtain ⟨k, hk, e⟩ := vp_in_of h hN
  rw [e, nI_clamp (by omega)]
  exact ⟨rfl, hk⟩
theorem tn_eq {τ : Nat → Nat → Int32} {P W G k : Nat} (hk : TOK τ P W G) (h : k < 4) : τ 13 k = nI (tnN τ k) := (vp_eq (hk.2.2.2.2 k h).1 (by decide)).1
theorem tn_lt {τ : Nat → Nat → Int32} {P W G k : Nat} (hk : TOK τ P W G) (h : k < 4) : tnN τ k < 4 := (vp_eq (hk.2.2.2.2 k h).1 (by decide)).2
theorem ch_eq {τ : Nat → Nat → Int32} {P W G k : Nat} (hk : TOK τ P W G) (h : k < 4) : τ 14 k = nI (chN τ k) := (vp_eq (hk.2.2.2.2 k h).2 (by decide)).1
theorem ch_lt {τ : Nat → Nat → Int32} {P W G k : Nat} (hk : TOK τ P W G) (h : k < 4) : chN τ k < 10 := (vp_eq (hk.2.2.2.2 k h).2 (by decide)).2
/-- a century over weights, whole numbers: k worlds are done -/
def gNk (τ : Nat → Nat → Int32) (f : Nat → Nat) (k j : Nat) : Nat := fb_sm (fun i => (if tnN τ i = j then f i * chN τ i else 0) + (if i = j then f i * (10 - chN τ i) else 0)) k
def gN (τ : Nat → Nat → Int32) (f : Nat → Nat) : Nat → Nat := fun j => gNk τ f 4 j
def gNi (τ : Nat → Nat → Int32) (f : Nat → Nat) : Nat → Nat → Nat
  | 0 => f
  | k + 1 => gN τ (gNi τ f k)
theorem gNk_s (τ : Nat → Nat → Int32) (f : Nat → Nat) (i : Nat) {v1 v2 : Int64} (h1 : v1 = lN (gNk τ f i (tnN τ i) + f i * chN τ i)) (h2 : v2 = vp_updL (fun j => lN (gNk τ f i j)) (tnN τ i) v1 i + lN (f i * (10 - chN τ i))) : vp_updL (vp_updL (fun j => lN (gNk τ f i j)) (tnN τ i) v1) i v2 = fun j => lN (gNk τ f (i + 1) j) := by
  funext j
  show _ = lN (gNk τ f i j + ((if tnN τ i = j then f i * chN τ i else 0) + (if i = j then f i * (10 - chN τ i) else 0)))
  by_cases e : j = i
  · subst e
    rw [pk_uLs, h2, if_pos rfl]
    by_cases e2 : tnN τ j = j
    · rw [if_pos e2, e2, pk_uLs, h1, e2, lN_add, Nat.add_assoc]
    · rw [if_neg e2, pk_uLn (fun h => e2 h.symm), lN_add, Nat.zero_add]
  · rw [pk_uLn e, if_neg (show ¬ i = j from fun h => e h.symm)]
    by_cases e2 : tnN τ i = j
    · rw [if_pos e2, e2, pk_uLs, h1, e2, Nat.add_zero]
    · rw [if_neg e2, pk_uLn (fun h => e2 h.symm)]; rfl
def uT (u : Nat → Nat → Int64) (c h : Nat → Int64) : Nat → Nat → Int64 := fun z => if z = 14 then c else if z = 15 then h else u z
def uA (u : Nat → Nat → Int64) (a b : Int64) : Nat → Nat → Int64 := fun z => if z = 16 then (fun _ => a) else if z = 17 then (fun _ => b) else u z
def ldJ (x l : Nat → Int64) (i : Nat) : Nat → Int64 := fun j => if j < i then x j else l j
theorem ldJ_0 (x l : Nat → Int64) : ldJ x l 0 = l := by funext j; unfold ldJ; rw [if_neg (by omega)]
theorem ldJ_s (x l : Nat → Int64) (i : Nat) {v : Int64} (hv : v = x i) : vp_updL (ldJ x l i) i v = ldJ x l (i + 1) := by
  funext j
  by_cases e : j = i
  · subst e; rw [pk_uLs, hv]; unfold ldJ; rw [if_pos (by omega)]
  · rw [pk_uLn e]
    unfold ldJ
    by_cases h : j < i
    · rw [if_pos h, if_pos (by omega)]
    · rw [if_neg h, if_neg (by omega)]
set_option maxHeartbeats 4000000 in
set_option maxRecDepth 100000 in
theorem l_m_spr1 {n P W G : Nat} {f : Nat → Nat} {t τ : Nat → Nat → Int32} {u : Nat → Nat → Int64} {Q : Option Value → (Nat → xE) → Prop} {M0 : Nat → xE} (hn : 113 < n) (hw : RT τ P W G (t 0)) (hk : TOK τ P W G) (hk1 : ∀ M, oX11 99 t (uT u (u 14) (ldJ (fun _ => 0) (u 15) 4)) M → xfr 99 114 M0 M → X mX11_spreads 0 0 20 [(1, .int (nI 4)), (0, .ref 99)] [] n M Q) : ∀ (k i : Nat) (M : Nat → xE), i + k = 4 → (oX11 99 t (uT u (u 14) (ldJ (fun _ => 0) (u 15) i)) M) → (xfr 99 114 M0 M) → X mX11_spreads 0 0 2 [(1, .int (nI i)), (0, .ref 99)] [] n M (Q) := by
  have hiX11 : ∀ w ∈ wsX110, w ∈ wsX11_spreads := by decide +kernel
  intro k
  induction k with
  | zero =>
    intro i M hik hM hf
    have hM0 := hM
    obtain ⟨mp0, mp1, mp2, mp3, mp4, mp5, mp6, mp7, mp8, mp9, mp10, mp11, mp12, mp13, mp14⟩ := hM
    have mp7 : M (99 + 7) = .inl (1, 4, .inr (.inl (ldJ (fun _ => 0) (u 15) i))) := mp7
    refine x_iload_n (q := 3) dX11_spreads_2 rfl rfl ?_
    refine x_iconst (v := 4) (q := 4) dX11_spreads_3 rfl (by decide) ?_
    refine x_icmp_ge (t := 20) (q := 7) dX11_spreads_4 (by decide) rfl (fun c4 => ?_) (fun c4 => absurd (by rw [show i = 4 by omega]; exact nI_le (Nat.le_refl _) (by omega)) c4)
    have e9 : i = 4 := by omega
    subst e9
    exact hk1 M hM0 hf
  | succ k ih =>
    intro i M hik hM hf
    have hM0 := hM
    obtain ⟨mp0, mp1, mp2, mp3, mp4, mp5, mp6, mp7, mp8, mp9, mp10, mp11, mp12, mp13, mp14⟩ := hM
    have mp7 : M (99 + 7) = .inl (1, 4, .inr (.inl (ldJ (fun _ => 0) (u 15) i))) := mp7
    refine x_iload_n (q := 3) dX11_spreads_2 rfl rfl ?_
    refine x_iconst (v := 4) (q := 4) dX11_spreads_3 rfl (by decide) ?_
    refine x_icmp_ge (t := 20) (q := 7) dX11_spreads_4 (by decide) rfl (fun c4 => absurd c4 (nI_ge (a := i) (b := 4) (by omega) (by omega))) (fun c4 => ?_)
    refine x_aload_n (q := 8) dX11_spreads_7 rfl rfl ?_
    refine x_getf (C := RX11) (T := TX11) (N := 29) (k := 15) (q := 11) mp0 (by omega) rfl hiX11 (by decide) (by decide +kernel) rfl dX11_spreads_8 rfl ?_
    refine x_iload_n (q := 12) dX11_spreads_11 rfl rfl ?_
    refine x_lconst (v := 0) (q := 13) dX11_spreads_12 rfl (by decide) ?_
    refine x_last (q := 14) mp7 (by omega) (ixI (show (nI i : Int32) = nI i from rfl) (by omega) (by decide)) dX11_spreads_13 rfl (fun M13 w13 o13 => ?_)
    rw [ixC (show (nI i : Int32) = nI i from rfl) (by omega)] at w13
    refine x_iinc (L' := fun x1_14 => [(1, .int x1_14), (0, .ref 99)]) (q := 17) dX11_spreads_14 rfl rfl (by decide) (fun _ => rfl) (fun x1_14 ex1_14 => ?_)
    obtain rfl : x1_14 = nI (i + 1) := ex1_14.trans (nI_1 i)
    refine x_goto (q := 2) dX11_spreads_17 (by decide) ?_
    rw [ldJ_s (fun _ => 0) (u 15) i rfl] at w13
    have hv1_1_99 := ((o13 (99) (by omega)).trans mp0)
    have hv1_2_100 := ((o13 (100) (by omega)).trans mp1)
    have hv1_3_101 := ((o13 (101) (by omega)).trans mp2)
    have hv1_4_102 := ((o13 (102) (by omega)).trans mp3)
    have hv1_5_103 := ((o13 (103) (by omega)).trans mp4)
    have hv1_6_104 := ((o13 (104) (by omega)).trans mp5)
    have hv1_7_105 := ((o13 (105) (by omega)).trans mp6)
    have hv1_8_107 := ((o13 (107) (by omega)).trans mp8)
    have hv1_9_108 := ((o13 (108) (by omega)).trans mp9)
    have hv1_10_109 := ((o13 (109) (by omega)).trans mp10)
    have hv1_11_110 := ((o13 (110) (by omega)).trans mp11)
    have hv1_12_111 := ((o13 (111) (by omega)).trans mp12)
    have hv1_13_112 := ((o13 (112) (by omega)).trans mp13)
    have hv1_14_113 := ((o13 (113) (by omega)).trans mp14)
    refine x_pick (L' := [(1, .int (nI (i + 1))), (0, .ref 99)]) [0, 1] rfl ?_
    exact ih (i + 1) M13 (by omega) ⟨hv1_1_99, hv1_2_100, hv1_3_101, hv1_4_102, hv1_5_103, hv1_6_104, hv1_7_105, w13, hv1_8_107, hv1_9_108, hv1_10_109, hv1_11_110, hv1_12_111, hv1_13_112, hv1_14_113⟩ (fun j hj => ((o13 j (by omega)).trans (hf j hj)))

set_option maxHeartbeats 4000000 in
set_option maxRecDepth 100000 in
theorem l_m_spr2 {n P W G : Nat} {f : Nat → Nat} {t τ : Nat → Nat → Int32} {u : Nat → Nat → Int64} {Q : Option Value → (Nat → xE) → Prop} {M0 : Nat → xE} (hn : 113 < n) (hw : RT τ P W G (t 0)) (hk : TOK τ P W G) (hk1 : ∀ M, oX11 99 t (uT u (fun j => lN (f j)) (fun j => lN (gN τ f j))) M → xfr 99 114 M0 M → X mX11_spreads 0 0 96 [(1, .int (nI 4)), (0, .ref 99)] [] n M Q) : ∀ (k i : Nat) (M : Nat → xE), i + k = 4 → (oX11 99 t (uT u (fun j => lN (f j)) (fun j => lN (gNk τ f i j))) M) → (xfr 99 114 M0 M) → X mX11_spreads 0 0 22 [(1, .int (nI i)), (0, .ref 99)] [] n M (Q) := by
  have hiX11 : ∀ w ∈ wsX110, w ∈ wsX11_spreads := by decide +kernel
  intro k
  induction k with
  | zero =>
    intro i M hik hM hf
    have hM0 := hM
    obtain ⟨mp0, mp1, mp2, mp3, mp4, mp5, mp6, mp7, mp8, mp9, mp10, mp11, mp12, mp13, mp14⟩ := hM
    have mp6 : M (99 + 6) = .inl (1, 4, .inr (.inl (fun j => lN (f j)))) := mp6
    have mp7 : M (99 + 7) = .inl (1, 4, .inr (.inl (fun j => lN (gNk τ f i j)))) := mp7
    refine x_iload_n (q := 23) dX11_spreads_22 rfl rfl ?_
    refine x_iconst (v := 4) (q := 24) dX11_spreads_23 rfl (by decide) ?_
    refine x_icmp_ge (t := 96) (q := 27) dX11_spreads_24 (by decide) rfl (fun c24 => ?_) (fun c24 => absurd (by rw [show i = 4 by omega]; exact nI_le (Nat.le_refl _) (by omega)) c24)
    have e9 : i = 4 := by omega
    subst e9
    exact hk1 M hM0 hf
  | succ k ih =>
    intro i M hik hM hf
    have hM0 := hM
    obtain ⟨mp0, mp1, mp2, mp3, mp4, mp5, mp6, mp7, mp8, mp9, mp10, mp11, mp12, mp13, mp14⟩ := hM
    have mp6 : M (99 + 6) = .inl (1, 4, .inr (.inl (fun j => lN (f j)))) := mp6
    have mp7 : M (99 + 7) = .inl (1, 4, .inr (.inl (fun j => lN (gNk τ f i j)))) := mp7
    refine x_iload_n (q := 23) dX11_spreads_22 rfl rfl ?_
    refine x_iconst (v := 4) (q := 24) dX11_spreads_23 rfl (by decide) ?_
    refine x_icmp_ge (t := 96) (q := 27) dX11_spreads_24 (by decide) rfl (fun c24 => absurd c24 (nI_ge (a := i) (b := 4) (by omega) (by omega))) (fun c24 => ?_)
    refine x_aload_n (q := 28) dX11_spreads_27 rfl rfl ?_
    refine x_getf (C := RX11) (T := TX11) (N := 29) (k := 15) (q := 31) mp0 (by omega) rfl hiX11 (by decide) (by decide +kernel) rfl dX11_spreads_28 rfl ?_
    refine x_aload_n (q := 32) dX11_spreads_31 rfl rfl ?_
    refine x_getf (C := RX11) (T := TX11) (N := 29) (k := 0) (q := 35) mp0 (by omega) rfl hiX11 (by decide) (by decide +kernel) rfl dX11_spreads_32 rfl ?_
    refine x_bipush (v := 53) (q := 37) dX11_spreads_35 rfl (by decide) ?_
    refine x_iload_n (q := 38) dX11_spreads_37 rfl rfl ?_
    refine x_iadd (q := 39) dX11_spreads_38 rfl ?_
    have htl := tn_lt hk (show i < 4 by omega)
    refine x_iald (q := 40) mp1 (by omega) (ixI (show ((53 + nI i) : Int32) = nI (53 + i) from (nIs rfl rfl)) (by omega) (by decide)) dX11_spreads_39 rfl ?_
    rw [ixC (show ((53 + nI i) : Int32) = nI (53 + i) from (nIs rfl rfl)) (by omega)]
    rw [rtto hw (show i < 4 by omega), tn_eq hk (show i < 4 by omega)]
    refine x_dup2 (q := 41) dX11_spreads_40 rfl rfl rfl ?_
    refine x_lald (q := 42) mp7 (by omega) (ixI (show (nI (tnN τ i) : Int32) = nI (tnN τ i) from rfl) (by omega) (by decide)) dX11_spreads_41 rfl ?_
    rw [ixC (show (nI (tnN τ i) : Int32) = nI (tnN τ i) from rfl) (by omega)]
    refine x_aload_n (q := 43) dX11_spreads_42 rfl rfl ?_
    refine x_getf (C := RX11) (T := TX11) (N := 29) (k := 14) (q := 46) mp0 (by omega) rfl hiX11 (by decide) (by decide +kernel) rfl dX11_spreads_43 rfl ?_
    refine x_iload_n (q := 47) dX11_spreads_46 rfl rfl ?_
    refine x_lald (q := 48) mp6 (by omega) (ixI (show (nI i : Int32) = nI i from rfl) (by omega) (by decide)) dX11_spreads_47 rfl ?_
    rw [ixC (show (nI i : Int32) = nI i from rfl) (by omega)]
    refine x_aload_n (q := 49) dX11_spreads_48 rfl rfl ?_
    refine x_getf (C := RX11) (T := TX11) (N := 29) (k := 0) (q := 52) mp0 (by omega) rfl hiX11 (by decide) (by decide +kernel) rfl dX11_spreads_49 rfl ?_
    refine x_bipush (v := 57) (q := 54) dX11_spreads_52 rfl (by decide) ?_
    refine x_iload_n (q := 55) dX11_spreads_54 rfl rfl ?_
    refine x_iadd (q := 56) dX11_spreads_55 rfl ?_
    refine x_iald (q := 57) mp1 (by omega) (ixI (show ((57 + nI i) : Int32) = nI (57 + i) from (nIs rfl rfl)) (by omega) (by decide)) dX11_spreads_56 rfl ?_
    rw [ixC (show ((57 + nI i) : Int32) = nI (57 + i) from (nIs rfl rfl)) (by omega)]
    rw [rtch hw (show i < 4 by omega), ch_eq hk (show i < 4 by omega)]
    refine x_i2l (q := 58) dX11_spreads_57 rfl ?_
    rw [wide (by have := ch_lt hk (show i < 4 by omega); omega)]
    refine x_lmul (q := 59) dX11_spreads_58 rfl ?_
    rw [lN_mul]
    refine x_ladd (q := 60) dX11_spreads_59 rfl ?_
    rw [lN_add]
    refine x_last (q := 61) mp7 (by omega) (ixI (show (nI (tnN τ i) : Int32) = nI (tnN τ i) from rfl) (by omega) (by decide)) dX11_spreads_60 rfl (fun M60 w60 o60 => ?_)
    rw [ixC (show (nI (tnN τ i) : Int32) = nI (tnN τ i) from rfl) (by omega)] at w60
    refine x_aload_n (q := 62) dX11_spreads_61 rfl rfl ?_
    have hv1_1_99 := ((o60 (99) (by omega)).trans mp0)
    refine x_getf (C := RX11) (T := TX11) (N := 29) (k := 15) (q := 65) hv1_1_99 (by omega) rfl hiX11 (by decide) (by decide +kernel) rfl dX11_spreads_62 rfl ?_
    refine x_iload_n (q := 66) dX11_spreads_65 rfl rfl ?_
    refine x_dup2 (q := 67) dX11_spreads_66 rfl rfl rfl ?_
    refine x_lald (q := 68) w60 (by omega) (ixI (show (nI i : Int32) = nI i from rfl) (by omega) (by decide)) dX11_spreads_67 rfl ?_
    rw [ixC (show (nI i : Int32) = nI i from rfl) (by omega)]
    refine x_aload_n (q := 69) dX11_spreads_68 rfl rfl ?_
    refine x_getf (C := RX11) (T := TX11) (N := 29) (k := 14) (q := 72) hv1_1_99 (by omega) rfl hiX11 (by decide) (by decide +kernel) rfl dX11_spreads_69 rfl ?_
    refine x_iload_n (q := 73) dX11_spreads_72 rfl rfl ?_
    have hv1_2_105 := ((o60 (105) (by omega)).trans mp6)
    refine x_lald (q := 74) hv1_2_105 (by omega) (ixI (show (nI i : Int32) = nI i from rfl) (by omega) (by decide)) dX11_spreads_73 rfl ?_
    rw [ixC (show (nI i : Int32) = nI i from rfl) (by omega)]
    refine x_bipush (v := 10) (q := 76) dX11_spreads_74 rfl (by decide) ?_
    refine x_aload_n (q := 77) dX11_spreads_76 rfl rfl ?_
    refine x_getf (C := RX11) (T := TX11) (N := 29) (k := 0) (q := 80) hv1_1_99 (by omega) rfl hiX11 (by decide) (by decide +kernel) rfl dX11_spreads_77 rfl ?_
    refine x_bipush (v := 57) (q := 82) dX11_spreads_80 rfl (by decide) ?_
    refine x_iload_n (q := 83) dX11_spreads_82 rfl rfl ?_
    refine x_iadd (q := 84) dX11_spreads_83 rfl ?_
    have hv1_3_100 := ((o60 (100) (by omega)).trans mp1)
    refine x_iald (q := 85) hv1_3_100 (by omega) (ixI (show ((57 + nI i) : Int32) = nI (57 + i) from (nIs rfl rfl)) (by omega) (by decide)) dX11_spreads_84 rfl ?_
    rw [ixC (show ((57 + nI i) : Int32) = nI (57 + i) from (nIs rfl rfl)) (by omega)]
    rw [rtch hw (show i < 4 by omega), ch_eq hk (show i < 4 by omega)]
    refine x_isub (q := 86) dX11_spreads_85 rfl ?_
    rw [show (10 : Int32) - nI (chN τ i) = nI (10 - chN τ i) from pk_sub (a := 10) (by have := ch_lt hk (show i < 4 by omega); omega)]
    refine x_i2l (q := 87) dX11_spreads_86 rfl ?_
    rw [wide (by omega)]
    refine x_lmul (q := 88) dX11_spreads_87 rfl ?_
    rw [lN_mul]
    refine x_ladd (q := 89) dX11_spreads_88 rfl ?_
    refine x_last (q := 90) w60 (by omega) (ixI (show (nI i : Int32) = nI i from rfl) (by omega) (by decide)) dX11_spreads_89 rfl (fun M89 w89 o89 => ?_)
    rw [ixC (show (nI i : Int32) = nI i from rfl) (by omega)] at w89
    refine x_iinc (L' := fun x1_90 => [(1, .int x1_90), (0, .ref 99)]) (q := 93) dX11_spreads_90 rfl rfl (by decide) (fun _ => rfl) (fun x1_90 ex1_90 => ?_)
    obtain rfl : x1_90 = nI (i + 1) := ex1_90.trans (nI_1 i)
    refine x_goto (q := 22) dX11_spreads_93 (by decide) ?_
    rw [gNk_s τ f i rfl rfl] at w89
    have hv2_4_99 := ((o89 (99) (by omega)).trans hv1_1_99)
    have hv2_5_100 := ((o89 (100) (by omega)).trans hv1_3_100)
    have hv2_6_101 := ((o89 (101) (by omega)).trans ((o60 (101) (by omega)).trans mp2))
    have hv2_7_102 := ((o89 (102) (by omega)).trans ((o60 (102) (by omega)).trans mp3))
    have hv2_8_103 := ((o89 (103) (by omega)).trans ((o60 (103) (by omega)).trans mp4))
    have hv2_9_104 := ((o89 (104) (by omega)).trans ((o60 (104) (by omega)).trans mp5))
    have hv2_10_105 := ((o89 (105) (by omega)).trans hv1_2_105)
    have hv2_11_107 := ((o89 (107) (by omega)).trans ((o60 (107) (by omega)).trans mp8))
    have hv2_12_108 := ((o89 (108) (by omega)).trans ((o60 (108) (by omega)).trans mp9))
    have hv2_13_109 := ((o89 (109) (by omega)).trans ((o60 (109) (by omega)).trans mp10))
    have hv2_14_110 := ((o89 (110) (by omega)).trans ((o60 (110) (by omega)).trans mp11))
    have hv2_15_111 := ((o89 (111) (by omega)).trans ((o60 (111) (by omega)).trans mp12))
    have hv2_16_112 := ((o89 (112) (by omega)).trans ((o60 (112) (by omega)).trans mp13))
    have hv2_17_113 := ((o89 (113) (by omega)).trans ((o60 (113) (by omega)).trans mp14))
    refine x_pick (L' := [(1, .int (nI (i + 1))), (0, .ref 99)]) [0, 1] rfl ?_
    exact ih (i + 1) M89 (by omega) ⟨hv2_4_99, hv2_5_100, hv2_6_101, hv2_7_102, hv2_8_103, hv2_9_104, hv2_10_105, w89, hv2_11_107, hv2_12_108, hv2_13_109, hv2_14_110, hv2_15_111, hv2_16_112, hv2_17_113⟩ (fun j hj => ((o89 j (by omega)).trans ((o60 j (by omega)).trans (hf j hj))))

set_option maxHeartbeats 4000000 in
set_option maxRecDepth 100000 in
theorem l_m_spr3 {n P W G : Nat} {f : Nat → Nat} {t τ : Nat → Nat → Int32} {u : Nat → Nat → Int64} {Q : Option Value → (Nat → xE) → Prop} {M0 : Nat → xE} (hn : 113 < n) (hw : RT τ P W G (t 0)) (hk : TOK τ P W G) {g : Nat → Int64} {h : Nat → Int64} (hQ : ∀ M, oX11 99 t (uT u g h) M → xfr 99 114 M0 M → Q none M) (he : ∀ j, j < 4 → h j = g j) : ∀ (k i : Nat) (M : Nat → xE), i + k = 4 → (oX11 99 t (uT u (ldJ g (u 14) i) h) M) → (xfr 99 114 M0 M) → X mX11_spreads 0 0 98 [(1, .int (nI i)), (0, .ref 99)] [] n M (Q) := by
  have hiX11 : ∀ w ∈ wsX110, w ∈ wsX11_spreads := by decide +kernel
  intro k
  induction k with
  | zero =>
    intro i M hik hM hf
    have hM0 := hM
    obtain ⟨mp0, mp1, mp2, mp3, mp4, mp5, mp6, mp7, mp8, mp9, mp10, mp11, mp12, mp13, mp14⟩ := hM
    have mp6 : M (99 + 6) = .inl (1, 4, .inr (.inl (ldJ g (u 14) i))) := mp6
    have mp7 : M (99 + 7) = .inl (1, 4, .inr (.inl (h))) := mp7
    refine x_iload_n (q := 99) dX11_spreads_98 rfl rfl ?_
    refine x_iconst (v := 4) (q := 100) dX11_spreads_99 rfl (by decide) ?_
    refine x_icmp_ge (t := 121) (q := 103) dX11_spreads_100 (by decide) rfl (fun c100 => ?_) (fun c100 => absurd (by rw [show i = 4 by omega]; exact nI_le (Nat.le_refl _) (by omega)) c100)
    refine x_fixJ (f' := g) mp6 (by omega) (fun j hj => show ldJ g (u 14) i j = g j from if_pos (by omega)) (fun M9 w9 o9 => ?_)
    refine x_vret dX11_spreads_121 rfl rfl (Nat.le_refl _) ?_
    have hv1_1_99 := ((o9 (99) (by omega)).trans mp0)
    have hv1_2_100 := ((o9 (100) (by omega)).trans mp1)
    have hv1_3_101 := ((o9 (101) (by omega)).trans mp2)
    have hv1_4_102 := ((o9 (102) (by omega)).trans mp3)
    have hv1_5_103 := ((o9 (103) (by omega)).trans mp4)
    have hv1_6_104 := ((o9 (104) (by omega)).trans mp5)
    have hv1_7_106 := ((o9 (106) (by omega)).trans mp7)
    have hv1_8_107 := ((o9 (107) (by omega)).trans mp8)
    have hv1_9_108 := ((o9 (108) (by omega)).trans mp9)
    have hv1_10_109 := ((o9 (109) (by omega)).trans mp10)
    have hv1_11_110 := ((o9 (110) (by omega)).trans mp11)
    have hv1_12_111 := ((o9 (111) (by omega)).trans mp12)
    have hv1_13_112 := ((o9 (112) (by omega)).trans mp13)
    have hv1_14_113 := ((o9 (113) (by omega)).trans mp14)
    exact hQ _ ⟨hv1_1_99, hv1_2_100, hv1_3_101, hv1_4_102, hv1_5_103, hv1_6_104, w9, hv1_7_106, hv1_8_107, hv1_9_108, hv1_10_109, hv1_11_110, hv1_12_111, hv1_13_112, hv1_14_113⟩ (fun j hj => ((o9 j (by omega)).trans (hf j hj)))
  | succ k ih =>
    intro i M hik hM hf
    have hM0 := hM
    obtain ⟨mp0, mp1, mp2, mp3, mp4, mp5, mp6, mp7, mp8, mp9, mp10, mp11, mp12, mp13, mp14⟩ := hM
    have mp6 : M (99 + 6) = .inl (1, 4, .inr (.inl (ldJ g (u 14) i))) := mp6
    have mp7 : M (99 + 7) = .inl (1, 4, .inr (.inl (h))) := mp7
    refine x_iload_n (q := 99) dX11_spreads_98 rfl rfl ?_
    refine x_iconst (v := 4) (q := 100) dX11_spreads_99 rfl (by decide) ?_
    refine x_icmp_ge (t := 121) (q := 103) dX11_spreads_100 (by decide) rfl (fun c100 => absurd c100 (nI_ge (a := i) (b := 4) (by omega) (by omega))) (fun c100 => ?_)
    refine x_aload_n (q := 104) dX11_spreads_103 rfl rfl ?_
    refine x_getf (C := RX11) (T := TX11) (N := 29) (k := 14) (q := 107) mp0 (by omega) rfl hiX11 (by decide) (by decide +kernel) rfl dX11_spreads_104 rfl ?_
    refine x_iload_n (q := 108) dX11_spreads_107 rfl rfl ?_
    refine x_aload_n (q := 109) dX11_spreads_108 rfl rfl ?_
    refine x_getf (C := RX11) (T := TX11) (N := 29) (k := 15) (q := 112) mp0 (by omega) rfl hiX11 (by decide) (by decide +kernel) rfl dX11_spreads_109 rfl ?_
    refine x_iload_n (q := 113) dX11_spreads_112 rfl rfl ?_
    refine x_lald (q := 114) mp7 (by omega) (ixI (show (nI i : Int32) = nI i from rfl) (by omega) (by decide)) dX11_spreads_113 rfl ?_
    rw [ixC (show (nI i : Int32) = nI i from rfl) (by omega)]
    refine x_last (q := 115) mp6 (by omega) (ixI (show (nI i : Int32) = nI i from rfl) (by omega) (by decide)) dX11_spreads_114 rfl (fun M114 w114 o114 => ?_)
    rw [ixC (show (nI i : Int32) = nI i from rfl) (by omega)] at w114
    refine x_iinc (L' := fun x1_115 => [(1, .int x1_115), (0, .ref 99)]) (q := 118) dX11_spreads_115 rfl rfl (by decide) (fun _ => rfl) (fun x1_115 ex1_115 => ?_)
    obtain rfl : x1_115 = nI (i + 1) := ex1_115.trans (nI_1 i)
    refine x_goto (q := 98) dX11_spreads_118 (by decide) ?_
    rw [ldJ_s g (u 14) i (he i (by omega))] at w114
    have hv1_1_99 := ((o114 (99) (by omega)).trans mp0)
    have hv1_2_100 := ((o114 (100) (by omega)).trans mp1)
    have hv1_3_101 := ((o114 (101) (by omega)).trans mp2)
    have hv1_4_102 := ((o114 (102) (by omega)).trans mp3)
    have hv1_5_103 := ((o114 (103) (by omega)).trans mp4)
    have hv1_6_104 := ((o114 (104) (by omega)).trans mp5)
    have hv1_7_106 := ((o114 (106) (by omega)).trans mp7)
    have hv1_8_107 := ((o114 (107) (by omega)).trans mp8)
    have hv1_9_108 := ((o114 (108) (by omega)).trans mp9)
    have hv1_10_109 := ((o114 (109) (by omega)).trans mp10)
    have hv1_11_110 := ((o114 (110) (by omega)).trans mp11)
    have hv1_12_111 := ((o114 (111) (by omega)).trans mp12)
    have hv1_13_112 := ((o114 (112) (by omega)).trans mp13)
    have hv1_14_113 := ((o114 (113) (by omega)).trans mp14)
    refine x_pick (L' := [(1, .int (nI (i + 1))), (0, .ref 99)]) [0, 1] rfl ?_
    exact ih (i + 1) M114 (by omega) ⟨hv1_1_99, hv1_2_100, hv1_3_101, hv1_4_102, hv1_5_103, hv1_6_104, w114, hv1_7_106, hv1_8_107, hv1_9_108, hv1_10_109, hv1_11_110, hv1_12_111, hv1_13_112, hv1_14_113⟩ (fun j hj => ((o114 j (by omega)).trans (hf j hj)))

set_option maxHeartbeats 4000000 in
set_option maxRecDepth 100000 in
theorem c_m_spreads {n : Nat} {M : Nat → xE} {t : Nat → Nat → Int32} {u : Nat → Nat → Int64} (hn : 113 < n) (hM : oX11 99 t u M) {τ : Nat → Nat → Int32} {P W G : Nat} (hw : RT τ P W G (t 0)) (hk : TOK τ P W G) {f : Nat → Nat} (hfu : ∀ j, j < 4 → u 14 j = lN (f j)) : xMet mX11_spreads [.ref 99] n M (fun r M' => none = r ∧ (∃ h, oX11 99 t (uT u (fun j => lN (gN τ f j)) h) M') ∧ xfr 99 114 M M') := by
  have hM0 := hM
  obtain ⟨mp0, mp1, mp2, mp3, mp4, mp5, mp6, mp7, mp8, mp9, mp10, mp11, mp12, mp13, mp14⟩ := hM
  refine xMet.of _ (by decide) rfl (Nat.le_of_ble_eq_true rfl) ?_
  refine x_iconst (v := 0) (q := 1) dX11_spreads_0 rfl (by decide) ?_
  refine x_istore_n (L' := fun x1_1 => [(1, .int x1_1), (0, .ref 99)]) (q := 2) dX11_spreads_1 rfl (by decide) (fun _ => rfl) (fun x1_1 ex1_1 => ?_)
  subst ex1_1
  refine l_m_spr1 (f := f) (t := t) (u := u) (M0 := M) hn hw hk (fun M20 k1 k2 => ?_) 4 0 M (by omega) ⟨mp0, mp1, mp2, mp3, mp4, mp5, mp6, by rw [mp7]; show _ = Sum.inl (1, 4, Sum.inr (Sum.inl (ldJ (fun _ => 0) (u 15) 0))); rw [ldJ_0], mp8, mp9, mp10, mp11, mp12, mp13, mp14⟩ (fun j _ => rfl)
  obtain ⟨kp0, kp1, kp2, kp3, kp4, kp5, kp6, kp7, kp8, kp9, kp10, kp11, kp12, kp13, kp14⟩ := k1
  have kp6 : M20 (99 + 6) = .inl (1, 4, .inr (.inl (u 14))) := kp6
  have kp7 : M20 (99 + 7) = .inl (1, 4, .inr (.inl (ldJ (fun _ => 0) (u 15) 4))) := kp7
  refine x_fixJ (f' := fun j => lN (gNk τ f 0 j)) kp7 (by omega) (fun j hj => (show ldJ (fun _ => 0) (u 15) 4 j = 0 from if_pos hj)) (fun M9 w9 o9 => ?_)
  refine x_fixJ (f' := fun j => lN (f j)) ((o9 (99 + 6) (by omega)).trans kp6) (by omega) hfu (fun M8 w8 o8 => ?_)
  refine x_iconst (v := 0) (q := 21) dX11_spreads_20 rfl (by decide) ?_
  refine x_istore_n (L' := fun x1_21 => [(1, .int x1_21), (0, .ref 99)]) (q := 22) dX11_spreads_21 rfl (by decide) (fun _ => rfl) (fun x1_21 ex1_21 => ?_)
  subst ex1_21
  have hv2_1_99 := ((o8 (99) (by omega)).trans ((o9 (99) (by omega)).trans kp0))
  have hv2_2_100 := ((o8 (100) (by omega)).trans ((o9 (100) (by omega)).trans kp1))
  have hv2_3_101 := ((o8 (101) (by omega)).trans ((o9 (101) (by omega)).trans kp2))
  have hv2_4_102 := ((o8 (102) (by omega)).trans ((o9 (102) (by omega)).trans kp3))
  have hv2_5_103 := ((o8 (103) (by omega)).trans ((o9 (103) (by omega)).trans kp4))
  have hv2_6_104 := ((o8 (104) (by omega)).trans ((o9 (104) (by omega)).trans kp5))
  have hv2_7_106 := ((o8 (106) (by omega)).trans w9)
  have hv2_8_107 := ((o8 (107) (by omega)).trans ((o9 (107) (by omega)).trans kp8))
  have hv2_9_108 := ((o8 (108) (by omega)).trans ((o9 (108) (by omega)).trans kp9))
  have hv2_10_109 := ((o8 (109) (by omega)).trans ((o9 (109) (by omega)).trans kp10))
  have hv2_11_110 := ((o8 (110) (by omega)).trans ((o9 (110) (by omega)).trans kp11))
  have hv2_12_111 := ((o8 (111) (by omega)).trans ((o9 (111) (by omega)).trans kp12))
  have hv2_13_112 := ((o8 (112) (by omega)).trans ((o9 (112) (by omega)).trans kp13))
  have hv2_14_113 := ((o8 (113) (by omega)).trans ((o9 (113) (by omega)).trans kp14))
  refine l_m_spr2 (f := f) (t := t) (u := u) (M0 := M8) hn hw hk (fun M96 q1 q2 => ?_) 4 0 M8 (by omega) ⟨hv2_1_99, hv2_2_100, hv2_3_101, hv2_4_102, hv2_5_103, hv2_6_104, w8, hv2_7_106, hv2_8_107, hv2_9_108, hv2_10_109, hv2_11_110, hv2_12_111, hv2_13_112, hv2_14_113⟩ (fun j _ => rfl)
  refine x_iconst (v := 0) (q := 97) dX11_spreads_96 rfl (by decide) ?_
  refine x_istore_n (L' := fun x1_97 => [(1, .int x1_97), (0, .ref 99)]) (q := 98) dX11_spreads_97 rfl (by decide) (fun _ => rfl) (fun x1_97 ex1_97 => ?_)
  subst ex1_97
  obtain ⟨lp0, lp1, lp2, lp3, lp4, lp5, lp6, lp7, lp8, lp9, lp10, lp11, lp12, lp13, lp14⟩ := q1
  have lp6 : M96 (99 + 6) = .inl (1, 4, .inr (.inl (fun j => lN (f j)))) := lp6
  exact l_m_spr3 (f := f) (t := t) (u := uT u (fun j => lN (f j)) (fun j => lN (gN τ f j))) (g := fun j => lN (gN τ f j)) (h := fun j => lN (gN τ f j)) (M0 := M96) hn hw hk (fun M h1 h2 => ⟨rfl, ⟨_, h1⟩, fun j hj => (h2 j hj).trans ((q2 j hj).trans ((o8 j (by omega)).trans ((o9 j (by omega)).trans (k2 j hj))))⟩) (fun j _ => rfl) 4 0 M96 (by omega) ⟨lp0, lp1, lp2, lp3, lp4, lp5, by rw [lp6]; show _ = Sum.inl (1, 4, Sum.inr (Sum.inl (ldJ (fun j => lN (gN τ f j)) (fun j => lN (f j)) 0))); rw [ldJ_0], lp7, lp8, lp9, lp10, lp11, lp12, lp13, lp14⟩ (fun j _ => rfl)
  
  

set_option maxHeartbeats 4000000 in
set_option maxRecDepth 100000 in
theorem l_m_tells {n a b : Nat} {M : Nat → xE} {Q : Option Value → (Nat → xE) → Prop} : ∀ (y x : Nat), x < 2 ^ 63 → y < 2 ^ 63 → X mX11_tells 0 0 31 [(7, .long (lN 0)), (5, .long (lN (Nat.gcd x y))), (0, .ref 99), (1, .long (lN a)), (3, .long (lN b))] [] n M Q → X mX11_tells 0 0 6 [(7, .long (lN y)), (5, .long (lN x)), (0, .ref 99), (1, .long (lN a)), (3, .long (lN b))] [] n M Q := by
  intro y
  induction y using Nat.strongRecOn with
  | _ y ih =>
  intro x hx hy hk1
  by_cases e0 : y = 0
  · refine x_lload (q := 8) dX11_tells_6 rfl rfl ?_
    refine x_lconst (v := 0) (q := 9) dX11_tells_8 rfl (by decide) ?_
    refine x_lcmp (q := 10) dX11_tells_9 rfl ?_
    refine x_if_eq (t := 31) (q := 13) dX11_tells_10 (by decide) rfl (fun c10 => ?_) (fun c10 => absurd (lcmp0.mpr (by rw [e0]; rfl)) c10)
    subst e0
    rw [Nat.gcd_zero_right] at hk1
    exact hk1
  · refine x_lload (q := 8) dX11_tells_6 rfl rfl ?_
    refine x_lconst (v := 0) (q := 9) dX11_tells_8 rfl (by decide) ?_
    refine x_lcmp (q := 10) dX11_tells_9 rfl ?_
    refine x_if_eq (t := 31) (q := 13) dX11_tells_10 (by decide) rfl (fun c10 => absurd (lcmp0.mp c10) (fun h => by have := (pk_lEQ hy (show 0 < 2 ^ 63 by decide)).mp h; omega)) (fun c10 => ?_)
    refine x_lload (q := 15) dX11_tells_13 rfl rfl ?_
    refine x_lload (q := 17) dX11_tells_15 rfl rfl ?_
    refine x_lrem (q := 18) dX11_tells_17 rfl ((fun h => by have := (pk_lEQ hy (show 0 < 2 ^ 63 by decide)).mp h; omega)) ?_
    rw [pk_lRem hx (by omega) hy]
    refine x_lstore (L' := fun x9_18 => [(9, .long x9_18), (7, .long (lN y)), (5, .long (lN x)), (0, .ref 99), (1, .long (lN a)), (3, .long (lN b))]) (q := 20) dX11_tells_18 rfl (by decide) (fun _ => rfl) (fun x9_18 ex9_18 => ?_)
    obtain rfl : x9_18 = lN (x % y) := ex9_18
    refine x_lload (q := 22) dX11_tells_20 rfl rfl ?_
    refine x_lstore (L' := fun x5_22 => [(5, .long x5_22), (9, .long (lN (x % y))), (7, .long (lN y)), (0, .ref 99), (1, .long (lN a)), (3, .long (lN b))]) (q := 24) dX11_tells_22 rfl (by decide) (fun _ => rfl) (fun x5_22 ex5_22 => ?_)
    obtain rfl : x5_22 = lN y := ex5_22
    refine x_lload (q := 26) dX11_tells_24 rfl rfl ?_
    refine x_lstore (L' := fun x7_26 => [(7, .long x7_26), (5, .long (lN y)), (9, .long (lN (x % y))), (0, .ref 99), (1, .long (lN a)), (3, .long (lN b))]) (q := 28) dX11_tells_26 rfl (by decide) (fun _ => rfl) (fun x7_26 ex7_26 => ?_)
    obtain rfl : x7_26 = lN (x % y) := ex7_26
    refine x_goto (q := 6) dX11_tells_28 (by decide) ?_
    refine x_pick (L' := [(7, .long (lN (x % y))), (5, .long (lN y)), (0, .ref 99), (1, .long (lN a)), (3, .long (lN b))]) [0, 1, 3, 4, 5] rfl ?_
    have hlt := Nat.mod_lt x (show y > 0 by omega)
    exact ih (x % y) hlt y hy (by omega) (by rw [show Nat.gcd y (x % y) = Nat.gcd x y by rw [Nat.gcd_comm, ← Nat.gcd_rec, Nat.gcd_comm]]; exact hk1)

set_option maxHeartbeats 4000000 in
set_option maxRecDepth 100000 in
theorem c_m_tells {n : Nat} {M : Nat → xE} {t : Nat → Nat → Int32} {u : Nat → Nat → Int64} (hn : 113 < n) (hM : oX11 99 t u M) {a b : Nat} (ha : a < 2 ^ 63) (hb : b < 2 ^ 63) (hb0 : 0 < b) : xMet mX11_tells [.ref 99, .long (lN a), .long (lN b)] n M (fun r M' => none = r ∧ oX11 99 t (uA u (lN (a / Nat.gcd a b)) (lN (b / Nat.gcd a b))) M' ∧ xfr 99 114 M M') := by
  have hM0 := hM
  obtain ⟨mp0, mp1, mp2, mp3, mp4, mp5, mp6, mp7, mp8, mp9, mp10, mp11, mp12, mp13, mp14⟩ := hM
  have hiX11 : ∀ w ∈ wsX110, w ∈ wsX11_tells := by decide +kernel
  refine xMet.of _ (by decide) rfl (Nat.le_of_ble_eq_true rfl) ?_
  refine x_lload_n (q := 1) dX11_tells_0 rfl rfl ?_
  refine x_lstore (L' := fun x5_1 => [(5, .long x5_1), (0, .ref 99), (1, .long (lN a)), (3, .long (lN b))]) (q := 3) dX11_tells_1 rfl (by decide) (fun _ => rfl) (fun x5_1 ex5_1 => ?_)
  obtain rfl : x5_1 = lN a := ex5_1
  refine x_lload_n (q := 4) dX11_tells_3 rfl rfl ?_
  refine x_lstore (L' := fun x7_4 => [(7, .long x7_4), (5, .long (lN a)), (0, .ref 99), (1, .long (lN a)), (3, .long (lN b))]) (q := 6) dX11_tells_4 rfl (by decide) (fun _ => rfl) (fun x7_4 ex7_4 => ?_)
  obtain rfl : x7_4 = lN b := ex7_4
  refine l_m_tells b a ha hb ?_
  have hg := Nat.gcd_pos_of_pos_right a hb0
  have hgb := Nat.gcd_le_right a hb0
  have hg0 : ¬ lN (Nat.gcd a b) = 0 := fun h => by have := (pk_lEQ (show Nat.gcd a b < 2 ^ 63 by omega) (show 0 < 2 ^ 63 by decide)).mp h; omega
  refine x_aload_n (q := 32) dX11_tells_31 rfl rfl ?_
  refine x_lload_n (q := 33) dX11_tells_32 rfl rfl ?_
  refine x_lload (q := 35) dX11_tells_33 rfl rfl ?_
  refine x_ldiv (q := 36) dX11_tells_35 rfl (hg0) ?_
  rw [pk_lDiv ha hg (by omega)]
  refine x_put (C := RX11) (T := TX11) (N := 29) (k := 16) (q := 39) (ty := .long) tyX11_ok nmX11 mp0 (by omega) rfl hiX11 (by decide) (by decide +kernel) rfl (by decide +kernel) (fun _ => rfl) (fun _ => rfl) (Nat.le_of_ble_eq_true rfl) dX11_tells_36 rfl (fun M36 w36 o36 => ?_)
  refine x_aload_n (q := 40) dX11_tells_39 rfl rfl ?_
  refine x_lload_n (q := 41) dX11_tells_40 rfl rfl ?_
  refine x_lload (q := 43) dX11_tells_41 rfl rfl ?_
  refine x_ldiv (q := 44) dX11_tells_43 rfl (hg0) ?_
  rw [pk_lDiv hb hg (by omega)]
  refine x_put (C := RX11) (T := TX11) (N := 29) (k := 17) (q := 47) (ty := .long) tyX11_ok nmX11 w36 (by omega) rfl hiX11 (by decide) (by decide +kernel) rfl (by decide +kernel) (fun _ => rfl) (fun _ => rfl) (Nat.le_of_ble_eq_true rfl) dX11_tells_44 rfl (fun M44 w44 o44 => ?_)
  refine x_vret dX11_tells_47 rfl rfl (Nat.le_refl _) ?_
  have hv2_1_100 := ((o44 (100) (by omega)).trans ((o36 (100) (by omega)).trans mp1))
  have hv2_2_101 := ((o44 (101) (by omega)).trans ((o36 (101) (by omega)).trans mp2))
  have hv2_3_102 := ((o44 (102) (by omega)).trans ((o36 (102) (by omega)).trans mp3))
  have hv2_4_103 := ((o44 (103) (by omega)).trans ((o36 (103) (by omega)).trans mp4))
  have hv2_5_104 := ((o44 (104) (by omega)).trans ((o36 (104) (by omega)).trans mp5))
  have hv2_6_105 := ((o44 (105) (by omega)).trans ((o36 (105) (by omega)).trans mp6))
  have hv2_7_106 := ((o44 (106) (by omega)).trans ((o36 (106) (by omega)).trans mp7))
  have hv2_8_107 := ((o44 (107) (by omega)).trans ((o36 (107) (by omega)).trans mp8))
  have hv2_9_108 := ((o44 (108) (by omega)).trans ((o36 (108) (by omega)).trans mp9))
  have hv2_10_109 := ((o44 (109) (by omega)).trans ((o36 (109) (by omega)).trans mp10))
  have hv2_11_110 := ((o44 (110) (by omega)).trans ((o36 (110) (by omega)).trans mp11))
  have hv2_12_111 := ((o44 (111) (by omega)).trans ((o36 (111) (by omega)).trans mp12))
  have hv2_13_112 := ((o44 (112) (by omega)).trans ((o36 (112) (by omega)).trans mp13))
  have hv2_14_113 := ((o44 (113) (by omega)).trans ((o36 (113) (by omega)).trans mp14))
  exact ⟨rfl, ⟨w44, hv2_1_100, hv2_2_101, hv2_3_102, hv2_4_103, hv2_5_104, hv2_6_105, hv2_7_106, hv2_8_107, hv2_9_108, hv2_10_109, hv2_11_110, hv2_12_111, hv2_13_112, hv2_14_113⟩, fun j hj => ((o44 j (by omega)).trans ((o36 j (by omega)).trans rfl))⟩
  

