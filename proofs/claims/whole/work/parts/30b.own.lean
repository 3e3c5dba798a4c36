theorem oPast.keep {p sz nx : Nat} {D : Nat → Nat → Nat → Int32} {M M' : Nat → xE} (h : oPast p sz nx D M) (e : ∀ j, p ≤ j → j < p + 34 → M' j = M j) : oPast p sz nx D M' :=
  ⟨(e _ (by omega) (by omega)).trans h.1, (e _ (by omega) (by omega)).trans h.2.1, fun j hj => (h.2.2 j hj).keep (fun i h1 h2 => e i (by omega) (by omega))⟩
def pSz (sz : Nat) : Nat := if sz + 1 ≤ 8 then sz + 1 else 8
def pPut (D : Nat → Nat → Nat → Int32) (nx : Nat) (d : Nat → Nat → Int32) : Nat → Nat → Nat → Int32 := fun j => if j = nx then d else D j
def dDoes (τ δ : Nat → Nat → Int32) (a b : Int32) : Nat → Nat → Int32 := fun i => if i = 7 then upd (δ 7) a.toNatClampNeg (δ 7 a.toNatClampNeg - τ 5 b.toNatClampNeg) else if i = 9 then upd (δ 9) b.toNatClampNeg (τ 6 b.toNatClampNeg) else δ i
def dMarry (δ : Nat → Nat → Int32) (a b : Int32) : Nat → Nat → Int32 := fun i => if i = 8 then upd (upd (δ 8) a.toNatClampNeg b) b.toNatClampNeg a else if i = 3 then (fun _ => δ 3 0 + 1) else δ i
def dSell (τ δ : Nat → Nat → Int32) (a : Int32) : Nat → Nat → Int32 := fun i => if i = 6 then (fun _ => δ 6 0 ||| (1 <<< (a &&& 31))) else if i = 2 then (fun _ => δ 2 0 + tPrice τ a (δ 0 0)) else δ i
def dOver (δ : Nat → Nat → Int32) (a b : Int32) : Nat → Nat → Int32 := fun i => if i = 5 then (fun _ => (δ 5 0 &&& ((1 <<< (a &&& 31)) ^^^ -1)) ||| (b <<< (a &&& 31))) else δ i
def kGoodAs (τ δ : Nat → Nat → Int32) (G : Nat) (a b : Int32) : Int32 := if inB a G = true then (if inB b 3 = true then (if b = 0 ∨ b = (if bo (τ 9 0) a = 1 then 1 else 2) then tPrice τ a (δ 0 0 + 1) else -4) else -3) else -2
theorem outB {b : Int32} {k : Nat} (hk : k < 2 ^ 30) (h : b < 0 ∨ nI k < b) : inB b (k + 1) = false := inF (fun hv => by
  rcases h with h | h
  · exact ((xin (by omega)).mp hv).1 h
  · have := ((xin (N := k + 1) (by omega)).mp hv).2
    rw [fa_le, nI_toInt (by omega)] at this
    rw [fa_lt, nI_toInt (by omega)] at h
    omega)
theorem outT {b : Int32} {k : Nat} (hk : k < 2 ^ 30) (h : ¬ (b < 0 ∨ nI k < b)) : inB b (k + 1) = true := inB_t.mpr ((xin (by omega)).mpr ⟨fun h1 => h (Or.inl h1), fun h2 => h (Or.inr (by rw [fa_le, nI_toInt (by omega)] at h2; rw [fa_lt, nI_toInt (by omega)]; omega))⟩)
def kAs (τ δ : Nat → Nat → Int32) (P W : Nat) (a b : Int32) : Int32 := if inB a P = true then (if inB b 6 = true then (if bo (xTk (τ 1 a.toNatClampNeg).toNatClampNeg) b = 0 then -4 else bset (fun k => cDo τ δ a (nI k)) W) else -3) else -2
set_option maxHeartbeats 4000000 in
set_option maxRecDepth 100000 in
theorem c_goodAs {n : Nat} {M : Nat → xE} {kb : Int32} (hn : 98 < n) (hX : oX10 kb M) {τ : Nat → Nat → Int32} (hT : oX8 1 τ M) {δ : Nat → Nat → Int32} (hD : oX3 25 δ M) {G : Nat} (hG : G ≤ 5) (hG0 : τ 8 0 = nI G) {a b : Int32} : xMet mX10_goodAs [.ref 0, .int a, .int b] n M (fun r M' => M = M' ∧ some (.int (kGoodAs τ δ G a b)) = r) := by
  have hT0 := hT
  have hD0 := hD
  obtain ⟨tp0, tp1, tp2, tp3, tp4, tp5, tp6, tp7, tp8, tp9, tp10⟩ := hT
  obtain ⟨dp0, dp1, dp2, dp3⟩ := hD
  have hiX10 : ∀ w ∈ wsX100, w ∈ wsX10_goodAs := by decide +kernel
  have hiX3 : ∀ w ∈ wsX30, w ∈ wsX10_goodAs := by decide +kernel
  have hiX8 : ∀ w ∈ wsX80, w ∈ wsX10_goodAs := by decide +kernel
  refine xMet.of _ (by decide) rfl (Nat.le_of_ble_eq_true rfl) ?_
  refine x_aload_n (q := 1) dX10_goodAs_0 rfl rfl ?_
  refine x_iload_n (q := 2) dX10_goodAs_1 rfl rfl ?_
  refine x_callV (q := 5) (ci := 10) (c_noGood hn hX hT0 hG hG0) eX10_goodAs_169 gX10_goodAs_X10_isNoGood hX (by omega) rfl rfl rfl (Nat.le_of_ble_eq_true rfl) ⟨Nat.le_refl _, Nat.le_refl _⟩ dX10_goodAs_2 rfl rfl (fun r2 M2 p2 => ?_)
  obtain ⟨rfl, p2⟩ := p2
  rcases p2 with ⟨b2, rfl⟩ | ⟨b2, rfl⟩
  · refine x_if_eq (t := 11) (q := 8) dX10_goodAs_5 (by decide) rfl (fun c5 => absurd c5 (by decide)) (fun c5 => ?_)
    refine x_bipush (v := -2) (q := 10) dX10_goodAs_8 rfl (by decide) ?_
    refine x_iret dX10_goodAs_10 rfl rfl (Nat.le_refl _) ?_
    refine ⟨rfl, ?_⟩
    unfold kGoodAs
    rw [if_neg (show ¬ inB a G = true by rw [b2]; decide)]
  · have v2 := inV b2
    have va : vp_in a 5 := by rw [vp_in_iff] at v2 ⊢; omega
    refine x_if_eq (t := 11) (q := 8) dX10_goodAs_5 (by decide) rfl (fun c5 => ?_) (fun c5 => absurd c5 (by decide))
    refine x_iload_n (q := 12) dX10_goodAs_11 rfl rfl ?_
    refine x_iconst (v := 0) (q := 13) dX10_goodAs_12 rfl (by decide) ?_
    refine x_iconst (v := 2) (q := 14) dX10_goodAs_13 rfl (by decide) ?_
    refine x_callS (q := 17) c_isOutside eX10_goodAs_94 gX10_goodAs_X10_isOutside rfl (Nat.le_of_ble_eq_true rfl) ⟨Nat.le_refl _, Nat.le_refl _⟩ dX10_goodAs_14 rfl rfl (fun r14 M14 p14 => ?_)
    obtain ⟨rfl, p14⟩ := p14
    rcases p14 with ⟨b14, rfl⟩ | ⟨b14, rfl⟩
    · refine x_if_eq (t := 23) (q := 20) dX10_goodAs_17 (by decide) rfl (fun c17 => absurd c17 (by decide)) (fun c17 => ?_)
      refine x_bipush (v := -3) (q := 22) dX10_goodAs_20 rfl (by decide) ?_
      refine x_iret dX10_goodAs_22 rfl rfl (Nat.le_refl _) ?_
      refine ⟨rfl, ?_⟩
      unfold kGoodAs
      rw [if_pos (inT b2), if_neg (show ¬ inB b 3 = true by rw [outB (k := 2) (by decide) b14]; decide)]
    · refine x_if_eq (t := 23) (q := 20) dX10_goodAs_17 (by decide) rfl (fun c17 => ?_) (fun c17 => absurd c17 (by decide))
      refine x_aload_n (q := 24) dX10_goodAs_23 rfl rfl ?_
      refine x_getf (C := RX10) (T := TX10) (N := 12) (k := 0) (q := 27) hX (by omega) rfl hiX10 (by decide) (by decide +kernel) rfl dX10_goodAs_24 rfl ?_
      refine x_getf (C := RX8) (T := TX8) (N := 15) (k := 9) (q := 30) tp0 (by omega) rfl hiX8 (by decide) (by decide +kernel) rfl dX10_goodAs_27 rfl ?_
      refine x_iload_n (q := 31) dX10_goodAs_30 rfl rfl ?_
      refine x_callS (q := 34) c_bitOf eX10_goodAs_144 gX10_goodAs_X10_bitOf rfl (Nat.le_of_ble_eq_true rfl) ⟨Nat.le_refl _, Nat.le_refl _⟩ dX10_goodAs_31 rfl rfl (fun r31 M31 p31 => ?_)
      obtain ⟨rfl, rfl⟩ := p31
      refine x_iconst (v := 1) (q := 35) dX10_goodAs_34 rfl (by decide) ?_
      refine x_icmp_ne (t := 42) (q := 38) dX10_goodAs_35 (by decide) rfl (fun c35 => ?_) (fun c35 => ?_)
      · refine x_iconst (v := 2) (q := 43) dX10_goodAs_42 rfl (by decide) ?_
        refine x_istore_n (L' := fun x3_43 => [(3, .int x3_43), (0, .ref 0), (1, .int a), (2, .int b)]) (q := 44) dX10_goodAs_43 rfl (by decide) (fun _ => rfl) (fun x3_43 ex3_43 => ?_)
        rw [show x3_43 = 2 from ex3_43]
        refine x_iload_n (q := 45) dX10_goodAs_44 rfl rfl ?_
        refine x_if_eq (t := 56) (q := 48) dX10_goodAs_45 (by decide) rfl (fun c45 => ?_) (fun c45 => ?_)
        · refine x_aload_n (q := 57) dX10_goodAs_56 rfl rfl ?_
          refine x_getf (C := RX10) (T := TX10) (N := 12) (k := 0) (q := 60) hX (by omega) rfl hiX10 (by decide) (by decide +kernel) rfl dX10_goodAs_57 rfl ?_
          refine x_iload_n (q := 61) dX10_goodAs_60 rfl rfl ?_
          refine x_aload_n (q := 62) dX10_goodAs_61 rfl rfl ?_
          refine x_getf (C := RX10) (T := TX10) (N := 12) (k := 2) (q := 65) hX (by omega) rfl hiX10 (by decide) (by decide +kernel) rfl dX10_goodAs_62 rfl ?_
          refine x_getf (C := RX3) (T := TX3) (N := 10) (k := 0) (q := 68) dp0 (by omega) rfl hiX3 (by decide) (by decide +kernel) rfl dX10_goodAs_65 rfl ?_
          refine x_iconst (v := 1) (q := 69) dX10_goodAs_68 rfl (by decide) ?_
          refine x_iadd (q := 70) dX10_goodAs_69 rfl ?_
          refine x_callV (q := 73) (ci := 8) (c_Told_price (p := 1) (by omega) hT0 va) eX10_goodAs_175 gX10_goodAs_X8_priceOf tp0 (by omega) rfl rfl rfl (Nat.le_of_ble_eq_true rfl) ⟨Nat.le_refl _, Nat.le_refl _⟩ dX10_goodAs_70 rfl rfl (fun r70 M70 p70 => ?_)
          obtain ⟨rfl, rfl⟩ := p70
          refine x_iret dX10_goodAs_73 rfl rfl (Nat.le_refl _) ?_
          refine ⟨rfl, ?_⟩
          unfold kGoodAs
          rw [if_pos (inT b2), if_pos (outT (k := 2) (by decide) b14), if_neg (show ¬ bo (τ 9 0) a = 1 from c35)]
          first
            | rw [if_pos (Or.inl c45)]
            | rw [if_pos (Or.inr c50)]
            | rw [if_neg (fun h => h.elim c45 c50)]
        · refine x_iload_n (q := 49) dX10_goodAs_48 rfl rfl ?_
          refine x_iload_n (q := 50) dX10_goodAs_49 rfl rfl ?_
          refine x_icmp_eq (t := 56) (q := 53) dX10_goodAs_50 (by decide) rfl (fun c50 => ?_) (fun c50 => ?_)
          · refine x_aload_n (q := 57) dX10_goodAs_56 rfl rfl ?_
            refine x_getf (C := RX10) (T := TX10) (N := 12) (k := 0) (q := 60) hX (by omega) rfl hiX10 (by decide) (by decide +kernel) rfl dX10_goodAs_57 rfl ?_
            refine x_iload_n (q := 61) dX10_goodAs_60 rfl rfl ?_
            refine x_aload_n (q := 62) dX10_goodAs_61 rfl rfl ?_
            refine x_getf (C := RX10) (T := TX10) (N := 12) (k := 2) (q := 65) hX (by omega) rfl hiX10 (by decide) (by decide +kernel) rfl dX10_goodAs_62 rfl ?_
            refine x_getf (C := RX3) (T := TX3) (N := 10) (k := 0) (q := 68) dp0 (by omega) rfl hiX3 (by decide) (by decide +kernel) rfl dX10_goodAs_65 rfl ?_
            refine x_iconst (v := 1) (q := 69) dX10_goodAs_68 rfl (by decide) ?_
            refine x_iadd (q := 70) dX10_goodAs_69 rfl ?_
            refine x_callV (q := 73) (ci := 8) (c_Told_price (p := 1) (by omega) hT0 va) eX10_goodAs_175 gX10_goodAs_X8_priceOf tp0 (by omega) rfl rfl rfl (Nat.le_of_ble_eq_true rfl) ⟨Nat.le_refl _, Nat.le_refl _⟩ dX10_goodAs_70 rfl rfl (fun r70 M70 p70 => ?_)
            obtain ⟨rfl, rfl⟩ := p70
            refine x_iret dX10_goodAs_73 rfl rfl (Nat.le_refl _) ?_
            refine ⟨rfl, ?_⟩
            unfold kGoodAs
            rw [if_pos (inT b2), if_pos (outT (k := 2) (by decide) b14), if_neg (show ¬ bo (τ 9 0) a = 1 from c35)]
            first
              | rw [if_pos (Or.inl c45)]
              | rw [if_pos (Or.inr c50)]
              | rw [if_neg (fun h => h.elim c45 c50)]
          · refine x_bipush (v := -4) (q := 55) dX10_goodAs_53 rfl (by decide) ?_
            refine x_iret dX10_goodAs_55 rfl rfl (Nat.le_refl _) ?_
            refine ⟨rfl, ?_⟩
            unfold kGoodAs
            rw [if_pos (inT b2), if_pos (outT (k := 2) (by decide) b14), if_neg (show ¬ bo (τ 9 0) a = 1 from c35)]
            first
              | rw [if_pos (Or.inl c45)]
              | rw [if_pos (Or.inr c50)]
              | rw [if_neg (fun h => h.elim c45 c50)]
      · refine x_iconst (v := 1) (q := 39) dX10_goodAs_38 rfl (by decide) ?_
        refine x_goto (q := 43) dX10_goodAs_39 (by decide) ?_
        refine x_istore_n (L' := fun x3_43 => [(3, .int x3_43), (0, .ref 0), (1, .int a), (2, .int b)]) (q := 44) dX10_goodAs_43 rfl (by decide) (fun _ => rfl) (fun x3_43 ex3_43 => ?_)
        rw [show x3_43 = 1 from ex3_43]
        refine x_iload_n (q := 45) dX10_goodAs_44 rfl rfl ?_
        refine x_if_eq (t := 56) (q := 48) dX10_goodAs_45 (by decide) rfl (fun c45 => ?_) (fun c45 => ?_)
        · refine x_aload_n (q := 57) dX10_goodAs_56 rfl rfl ?_
          refine x_getf (C := RX10) (T := TX10) (N := 12) (k := 0) (q := 60) hX (by omega) rfl hiX10 (by decide) (by decide +kernel) rfl dX10_goodAs_57 rfl ?_
          refine x_iload_n (q := 61) dX10_goodAs_60 rfl rfl ?_
          refine x_aload_n (q := 62) dX10_goodAs_61 rfl rfl ?_
          refine x_getf (C := RX10) (T := TX10) (N := 12) (k := 2) (q := 65) hX (by omega) rfl hiX10 (by decide) (by decide +kernel) rfl dX10_goodAs_62 rfl ?_
          refine x_getf (C := RX3) (T := TX3) (N := 10) (k := 0) (q := 68) dp0 (by omega) rfl hiX3 (by decide) (by decide +kernel) rfl dX10_goodAs_65 rfl ?_
          refine x_iconst (v := 1) (q := 69) dX10_goodAs_68 rfl (by decide) ?_
          refine x_iadd (q := 70) dX10_goodAs_69 rfl ?_
          refine x_callV (q := 73) (ci := 8) (c_Told_price (p := 1) (by omega) hT0 va) eX10_goodAs_175 gX10_goodAs_X8_priceOf tp0 (by omega) rfl rfl rfl (Nat.le_of_ble_eq_true rfl) ⟨Nat.le_refl _, Nat.le_refl _⟩ dX10_goodAs_70 rfl rfl (fun r70 M70 p70 => ?_)
          obtain ⟨rfl, rfl⟩ := p70
          refine x_iret dX10_goodAs_73 rfl rfl (Nat.le_refl _) ?_
          refine ⟨rfl, ?_⟩
          unfold kGoodAs
          rw [if_pos (inT b2), if_pos (outT (k := 2) (by decide) b14), if_pos (show bo (τ 9 0) a = 1 from c35)]
          first
            | rw [if_pos (Or.inl c45)]
            | rw [if_pos (Or.inr c50)]
            | rw [if_neg (fun h => h.elim c45 c50)]
        · refine x_iload_n (q := 49) dX10_goodAs_48 rfl rfl ?_
          refine x_iload_n (q := 50) dX10_goodAs_49 rfl rfl ?_
          refine x_icmp_eq (t := 56) (q := 53) dX10_goodAs_50 (by decide) rfl (fun c50 => ?_) (fun c50 => ?_)
          · refine x_aload_n (q := 57) dX10_goodAs_56 rfl rfl ?_
            refine x_getf (C := RX10) (T := TX10) (N := 12) (k := 0) (q := 60) hX (by omega) rfl hiX10 (by decide) (by decide +kernel) rfl dX10_goodAs_57 rfl ?_
            refine x_iload_n (q := 61) dX10_goodAs_60 rfl rfl ?_
            refine x_aload_n (q := 62) dX10_goodAs_61 rfl rfl ?_
            refine x_getf (C := RX10) (T := TX10) (N := 12) (k := 2) (q := 65) hX (by omega) rfl hiX10 (by decide) (by decide +kernel) rfl dX10_goodAs_62 rfl ?_
            refine x_getf (C := RX3) (T := TX3) (N := 10) (k := 0) (q := 68) dp0 (by omega) rfl hiX3 (by decide) (by decide +kernel) rfl dX10_goodAs_65 rfl ?_
            refine x_iconst (v := 1) (q := 69) dX10_goodAs_68 rfl (by decide) ?_
            refine x_iadd (q := 70) dX10_goodAs_69 rfl ?_
            refine x_callV (q := 73) (ci := 8) (c_Told_price (p := 1) (by omega) hT0 va) eX10_goodAs_175 gX10_goodAs_X8_priceOf tp0 (by omega) rfl rfl rfl (Nat.le_of_ble_eq_true rfl) ⟨Nat.le_refl _, Nat.le_refl _⟩ dX10_goodAs_70 rfl rfl (fun r70 M70 p70 => ?_)
            obtain ⟨rfl, rfl⟩ := p70
            refine x_iret dX10_goodAs_73 rfl rfl (Nat.le_refl _) ?_
            refine ⟨rfl, ?_⟩
            unfold kGoodAs
            rw [if_pos (inT b2), if_pos (outT (k := 2) (by decide) b14), if_pos (show bo (τ 9 0) a = 1 from c35)]
            first
              | rw [if_pos (Or.inl c45)]
              | rw [if_pos (Or.inr c50)]
              | rw [if_neg (fun h => h.elim c45 c50)]
          · refine x_bipush (v := -4) (q := 55) dX10_goodAs_53 rfl (by decide) ?_
            refine x_iret dX10_goodAs_55 rfl rfl (Nat.le_refl _) ?_
            refine ⟨rfl, ?_⟩
            unfold kGoodAs
            rw [if_pos (inT b2), if_pos (outT (k := 2) (by decide) b14), if_pos (show bo (τ 9 0) a = 1 from c35)]
            first
              | rw [if_pos (Or.inl c45)]
              | rw [if_pos (Or.inr c50)]
              | rw [if_neg (fun h => h.elim c45 c50)]

set_option maxHeartbeats 4000000 in
set_option maxRecDepth 100000 in
theorem c_does {n : Nat} {M : Nat → xE} {kb : Int32} (hn : 98 < n) (hX : oX10 kb M) {τ : Nat → Nat → Int32} (hT : oX8 1 τ M) {δ : Nat → Nat → Int32} (hD : oX3 25 δ M) {P : Nat} (hP : P ≤ 5) (hP0 : τ 0 0 = nI P) {W : Nat} (hW : W ≤ 6) (hW0 : τ 3 0 = nI W) {sz nx : Nat} {Dp : Nat → Nat → Nat → Int32} (hsz : sz ≤ 8) (hnx : nx < 8) (hPa : oPast 29 sz nx Dp M) {a b : Int32} : xMet mX10_does [.ref 0, .int a, .int b] n M (fun r M' => if inB a P = true then (if inB b W = true then (if cDo τ δ a b = true then (some (.int (δ 7 a.toNatClampNeg - τ 5 b.toNatClampNeg)) = r ∧ oX3 25 (dDoes τ δ a b) M' ∧ oPast 29 (pSz sz) ((nx + 1) % 8) (pPut Dp nx δ) M' ∧ xfr 25 63 M M') else (M = M' ∧ some (.int (-4)) = r)) else (M = M' ∧ some (.int (-2)) = r)) else (M = M' ∧ some (.int (-2)) = r)) := by
  have hT0 := hT
  have hD0 := hD
  obtain ⟨tp0, tp1, tp2, tp3, tp4, tp5, tp6, tp7, tp8, tp9, tp10⟩ := hT
  obtain ⟨dp0, dp1, dp2, dp3⟩ := hD
  have hiX10 : ∀ w ∈ wsX100, w ∈ wsX10_does := by decide +kernel
  have hiX3 : ∀ w ∈ wsX30, w ∈ wsX10_does := by decide +kernel
  have hiX8 : ∀ w ∈ wsX80, w ∈ wsX10_does := by decide +kernel
  refine xMet.of _ (by decide) rfl (Nat.le_of_ble_eq_true rfl) ?_
  refine x_aload_n (q := 1) dX10_does_0 rfl rfl ?_
  refine x_iload_n (q := 2) dX10_does_1 rfl rfl ?_
  refine x_callV (q := 5) (ci := 10) (c_noOne hn hX hT0 hP hP0) eX10_does_125 gX10_does_X10_isNoOne hX (by omega) rfl rfl rfl (Nat.le_of_ble_eq_true rfl) ⟨Nat.le_refl _, Nat.le_refl _⟩ dX10_does_2 rfl rfl (fun r2 M2 p2 => ?_)
  obtain ⟨rfl, p2⟩ := p2
  rcases p2 with ⟨b2, rfl⟩ | ⟨b2, rfl⟩
  · refine x_if_ne (t := 16) (q := 8) dX10_does_5 (by decide) rfl (fun c5 => ?_) (fun c5 => absurd c5 (by decide))
    refine x_bipush (v := -2) (q := 18) dX10_does_16 rfl (by decide) ?_
    refine x_iret dX10_does_18 rfl rfl (Nat.le_refl _) ?_
    rw [if_neg (show ¬ inB a P = true by rw [b2]; decide)]
    exact ⟨rfl, rfl⟩
  · have v2 := inV b2
    have va : vp_in a 5 := by rw [vp_in_iff] at v2 ⊢; omega
    refine x_if_ne (t := 16) (q := 8) dX10_does_5 (by decide) rfl (fun c5 => absurd c5 (by decide)) (fun c5 => ?_)
    refine x_aload_n (q := 9) dX10_does_8 rfl rfl ?_
    refine x_iload_n (q := 10) dX10_does_9 rfl rfl ?_
    refine x_callV (q := 13) (ci := 10) (c_noWork hn hX hT0 hW hW0) eX10_does_151 gX10_does_X10_isNoWork hX (by omega) rfl rfl rfl (Nat.le_of_ble_eq_true rfl) ⟨Nat.le_refl _, Nat.le_refl _⟩ dX10_does_10 rfl rfl (fun r10 M10 p10 => ?_)
    obtain ⟨rfl, p10⟩ := p10
    rcases p10 with ⟨b10, rfl⟩ | ⟨b10, rfl⟩
    · refine x_if_eq (t := 19) (q := 16) dX10_does_13 (by decide) rfl (fun c13 => absurd c13 (by decide)) (fun c13 => ?_)
      refine x_bipush (v := -2) (q := 18) dX10_does_16 rfl (by decide) ?_
      refine x_iret dX10_does_18 rfl rfl (Nat.le_refl _) ?_
      rw [if_pos (inT b2), if_neg (show ¬ inB b W = true by rw [b10]; decide)]
      exact ⟨rfl, rfl⟩
    · have v10 := inV b10
      have vw : vp_in b 6 := by rw [vp_in_iff] at v10 ⊢; omega
      refine x_if_eq (t := 19) (q := 16) dX10_does_13 (by decide) rfl (fun c13 => ?_) (fun c13 => absurd c13 (by decide))
      refine x_aload_n (q := 20) dX10_does_19 rfl rfl ?_
      refine x_iload_n (q := 21) dX10_does_20 rfl rfl ?_
      refine x_iload_n (q := 22) dX10_does_21 rfl rfl ?_
      refine x_callV (q := 25) (ci := 10) (c_canDo hn hX hT0 hD0 va vw) eX10_does_187 gX10_does_X10_canDo hX (by omega) rfl rfl rfl (Nat.le_of_ble_eq_true rfl) ⟨Nat.le_refl _, Nat.le_refl _⟩ dX10_does_22 rfl rfl (fun r22 M22 p22 => ?_)
      obtain ⟨rfl, p22⟩ := p22
      rcases p22 with ⟨b22, rfl⟩ | ⟨b22, rfl⟩
      · refine x_if_ne (t := 31) (q := 28) dX10_does_25 (by decide) rfl (fun c25 => ?_) (fun c25 => absurd c25 (by decide))
        refine x_aload_n (q := 32) dX10_does_31 rfl rfl ?_
        refine x_getf (C := RX10) (T := TX10) (N := 12) (k := 3) (q := 35) hX (by omega) rfl hiX10 (by decide) (by decide +kernel) rfl dX10_does_32 rfl ?_
        refine x_aload_n (q := 36) dX10_does_35 rfl rfl ?_
        refine x_getf (C := RX10) (T := TX10) (N := 12) (k := 2) (q := 39) hX (by omega) rfl hiX10 (by decide) (by decide +kernel) rfl dX10_does_36 rfl ?_
        refine x_callV (q := 42) (ci := 5) (c_Past_remember (p := 29) (q := 25) (by omega) (by omega) (by omega) hsz hnx hPa hD0) eX10_does_194 gX10_does_X5_remember hPa.1 (by omega) rfl rfl rfl (Nat.le_of_ble_eq_true rfl) ⟨Nat.le_refl _, Nat.le_refl _⟩ dX10_does_39 rfl rfl (fun r39 M39 p39 => ?_)
        obtain ⟨rfl, hQ39, fr39⟩ := p39
        refine x_aload_n (q := 43) dX10_does_42 rfl rfl ?_
        have hv1_1_0 := ((fr39 (0) (by omega)).trans hX)
        refine x_getf (C := RX10) (T := TX10) (N := 12) (k := 2) (q := 46) hv1_1_0 (by omega) rfl hiX10 (by decide) (by decide +kernel) rfl dX10_does_43 rfl ?_
        have hv1_2_25 := ((fr39 (25) (by omega)).trans dp0)
        refine x_getf (C := RX3) (T := TX3) (N := 10) (k := 7) (q := 49) hv1_2_25 (by omega) rfl hiX3 (by decide) (by decide +kernel) rfl dX10_does_46 rfl ?_
        refine x_iload_n (q := 50) dX10_does_49 rfl rfl ?_
        refine x_dup2 (q := 51) dX10_does_50 rfl rfl rfl ?_
        have hv1_3_26 := ((fr39 (26) (by omega)).trans dp1)
        refine x_iald (q := 52) hv1_3_26 (by omega) va dX10_does_51 rfl ?_
        refine x_aload_n (q := 53) dX10_does_52 rfl rfl ?_
        refine x_getf (C := RX10) (T := TX10) (N := 12) (k := 0) (q := 56) hv1_1_0 (by omega) rfl hiX10 (by decide) (by decide +kernel) rfl dX10_does_53 rfl ?_
        have hv1_4_1 := ((fr39 (1) (by omega)).trans tp0)
        refine x_getf (C := RX8) (T := TX8) (N := 15) (k := 5) (q := 59) hv1_4_1 (by omega) rfl hiX8 (by decide) (by decide +kernel) rfl dX10_does_56 rfl ?_
        refine x_iload_n (q := 60) dX10_does_59 rfl rfl ?_
        have hv1_5_5 := ((fr39 (5) (by omega)).trans tp4)
        refine x_iald (q := 61) hv1_5_5 (by omega) vw dX10_does_60 rfl ?_
        refine x_isub (q := 62) dX10_does_61 rfl ?_
        refine x_iast (q := 63) hv1_3_26 (by omega) va dX10_does_62 rfl (fun M62 w62 o62 => ?_)
        refine x_aload_n (q := 64) dX10_does_63 rfl rfl ?_
        have hv2_6_0 := ((o62 (0) (by omega)).trans hv1_1_0)
        refine x_getf (C := RX10) (T := TX10) (N := 12) (k := 2) (q := 67) hv2_6_0 (by omega) rfl hiX10 (by decide) (by decide +kernel) rfl dX10_does_64 rfl ?_
        have hv2_7_25 := ((o62 (25) (by omega)).trans hv1_2_25)
        refine x_getf (C := RX3) (T := TX3) (N := 10) (k := 9) (q := 70) hv2_7_25 (by omega) rfl hiX3 (by decide) (by decide +kernel) rfl dX10_does_67 rfl ?_
        refine x_iload_n (q := 71) dX10_does_70 rfl rfl ?_
        refine x_aload_n (q := 72) dX10_does_71 rfl rfl ?_
        refine x_getf (C := RX10) (T := TX10) (N := 12) (k := 0) (q := 75) hv2_6_0 (by omega) rfl hiX10 (by decide) (by decide +kernel) rfl dX10_does_72 rfl ?_
        have hv2_8_1 := ((o62 (1) (by omega)).trans hv1_4_1)
        refine x_getf (C := RX8) (T := TX8) (N := 15) (k := 6) (q := 78) hv2_8_1 (by omega) rfl hiX8 (by decide) (by decide +kernel) rfl dX10_does_75 rfl ?_
        refine x_iload_n (q := 79) dX10_does_78 rfl rfl ?_
        have hv2_9_6 := ((o62 (6) (by omega)).trans ((fr39 (6) (by omega)).trans tp5))
        refine x_iald (q := 80) hv2_9_6 (by omega) vw dX10_does_79 rfl ?_
        have hv2_10_28 := ((o62 (28) (by omega)).trans ((fr39 (28) (by omega)).trans dp3))
        refine x_iast (q := 81) hv2_10_28 (by omega) vw dX10_does_80 rfl (fun M80 w80 o80 => ?_)
        refine x_aload_n (q := 82) dX10_does_81 rfl rfl ?_
        have hv3_11_0 := ((o80 (0) (by omega)).trans hv2_6_0)
        refine x_getf (C := RX10) (T := TX10) (N := 12) (k := 2) (q := 85) hv3_11_0 (by omega) rfl hiX10 (by decide) (by decide +kernel) rfl dX10_does_82 rfl ?_
        have hv3_12_25 := ((o80 (25) (by omega)).trans hv2_7_25)
        refine x_getf (C := RX3) (T := TX3) (N := 10) (k := 7) (q := 88) hv3_12_25 (by omega) rfl hiX3 (by decide) (by decide +kernel) rfl dX10_does_85 rfl ?_
        refine x_iload_n (q := 89) dX10_does_88 rfl rfl ?_
        have hv3_13_26 := ((o80 (26) (by omega)).trans w62)
        refine x_iald (q := 90) hv3_13_26 (by omega) va dX10_does_89 rfl ?_
        refine x_iret dX10_does_90 rfl rfl (Nat.le_refl _) ?_
        have hv3_14_27 := ((o80 (27) (by omega)).trans ((o62 (27) (by omega)).trans ((fr39 (27) (by omega)).trans dp2)))
        rw [if_pos (inT b2), if_pos (inT b10), if_pos b22]
        exact ⟨by rw [pk_us], ⟨hv3_12_25, hv3_13_26, hv3_14_27, w80⟩, hQ39.keep (fun j h1 h2 => ((o80 j (by omega)).trans ((o62 j (by omega)).trans rfl))), (fun j hj => ((o80 j (by omega)).trans ((o62 j (by omega)).trans ((fr39 j (by omega)).trans rfl))))⟩
      · refine x_if_ne (t := 31) (q := 28) dX10_does_25 (by decide) rfl (fun c25 => absurd c25 (by decide)) (fun c25 => ?_)
        refine x_bipush (v := -4) (q := 30) dX10_does_28 rfl (by decide) ?_
        refine x_iret dX10_does_30 rfl rfl (Nat.le_refl _) ?_
        rw [if_pos (inT b2), if_pos (inT b10), if_neg b22]
        exact ⟨rfl, rfl⟩

def tLikeB (τ : Nat → Nat → Int32) (a b : Int32) : Bool := decide (bo (τ 2 a.toNatClampNeg) b = 1) && decide (bo (τ 2 b.toNatClampNeg) a = 1)
theorem tLikeB_t {τ : Nat → Nat → Int32} {a b : Int32} : tLikeB τ a b = true ↔ tLike τ a b := by unfold tLikeB tLike; rw [Bool.and_eq_true, decide_eq_true_iff, decide_eq_true_iff]
theorem mar_t {τ δ : Nat → Nat → Int32} {a b : Int32} (h1 : tLike τ a b) (h2 : ¬ ¬ δ 8 a.toNatClampNeg = -1) (h3 : ¬ ¬ δ 8 b.toNatClampNeg = -1) : (tLikeB τ a b && (decide (δ 8 a.toNatClampNeg = -1) && decide (δ 8 b.toNatClampNeg = -1))) = true := by
  rw [tLikeB_t.mpr h1, decide_eq_true (Decidable.not_not.mp h2), decide_eq_true (Decidable.not_not.mp h3)]; rfl
theorem mar_f1 {τ δ : Nat → Nat → Int32} {a b : Int32} (h1 : ¬ tLike τ a b) : ¬ (tLikeB τ a b && (decide (δ 8 a.toNatClampNeg = -1) && decide (δ 8 b.toNatClampNeg = -1))) = true := fun h => h1 (tLikeB_t.mp ((Bool.and_eq_true _ _ ▸ h).1))
theorem mar_f2 {τ δ : Nat → Nat → Int32} {a b : Int32} (h1 : ¬ δ 8 a.toNatClampNeg = -1) : ¬ (tLikeB τ a b && (decide (δ 8 a.toNatClampNeg = -1) && decide (δ 8 b.toNatClampNeg = -1))) = true := by rw [decide_eq_false h1]; simp
theorem mar_f3 {τ δ : Nat → Nat → Int32} {a b : Int32} (h1 : ¬ δ 8 b.toNatClampNeg = -1) : ¬ (tLikeB τ a b && (decide (δ 8 a.toNatClampNeg = -1) && decide (δ 8 b.toNatClampNeg = -1))) = true := by rw [decide_eq_false h1]; simp
set_option maxHeartbeats 4000000 in
set_option maxRecDepth 100000 in
theorem c_marry {n : Nat} {M : Nat → xE} {kb : Int32} (hn : 98 < n) (hX : oX10 kb M) {τ : Nat → Nat → Int32} (hT : oX8 1 τ M) {δ : Nat → Nat → Int32} (hD : oX3 25 δ M) {P : Nat} (hP : P ≤ 5) (hP0 : τ 0 0 = nI P) {sz nx : Nat} {Dp : Nat → Nat → Nat → Int32} (hsz : sz ≤ 8) (hnx : nx < 8) (hPa : oPast 29 sz nx Dp M) {a b : Int32} : xMet mX10_marry [.ref 0, .int a, .int b] n M (fun r M' => if inB a P = true then (if inB b P = true then (if a = b then (M = M' ∧ some (.int (-2)) = r) else (if tLikeB τ a b && (decide (δ 8 a.toNatClampNeg = -1) && decide (δ 8 b.toNatClampNeg = -1)) then (some (.int (δ 3 0 + 1)) = r ∧ oX3 25 (dMarry δ a b) M' ∧ oPast 29 (pSz sz) ((nx + 1) % 8) (pPut Dp nx δ) M' ∧ xfr 25 63 M M') else (M = M' ∧ some (.int (-4)) = r))) else (M = M' ∧ some (.int (-2)) = r)) else (M = M' ∧ some (.int (-2)) = r)) := by
  have hT0 := hT
  have hD0 := hD
  obtain ⟨tp0, tp1, tp2, tp3, tp4, tp5, tp6, tp7, tp8, tp9, tp10⟩ := hT
  obtain ⟨dp0, dp1, dp2, dp3⟩ := hD
  have hiX10 : ∀ w ∈ wsX100, w ∈ wsX10_marry := by decide +kernel
  have hiX3 : ∀ w ∈ wsX30, w ∈ wsX10_marry := by decide +kernel
  refine xMet.of _ (by decide) rfl (Nat.le_of_ble_eq_true rfl) ?_
  refine x_aload_n (q := 1) dX10_marry_0 rfl rfl ?_
  refine x_iload_n (q := 2) dX10_marry_1 rfl rfl ?_
  refine x_callV (q := 5) (ci := 10) (c_noOne hn hX hT0 hP hP0) eX10_marry_125 gX10_marry_X10_isNoOne hX (by omega) rfl rfl rfl (Nat.le_of_ble_eq_true rfl) ⟨Nat.le_refl _, Nat.le_refl _⟩ dX10_marry_2 rfl rfl (fun r2 M2 p2 => ?_)
  obtain ⟨rfl, p2⟩ := p2
  rcases p2 with ⟨b2, rfl⟩ | ⟨b2, rfl⟩
  · refine x_if_ne (t := 21) (q := 8) dX10_marry_5 (by decide) rfl (fun c5 => ?_) (fun c5 => absurd c5 (by decide))
    refine x_bipush (v := -2) (q := 23) dX10_marry_21 rfl (by decide) ?_
    refine x_iret dX10_marry_23 rfl rfl (Nat.le_refl _) ?_
    rw [if_neg (show ¬ inB a P = true by rw [b2]; decide)]
    exact ⟨rfl, rfl⟩
  · have v2 := inV b2
    have va : vp_in a 5 := by rw [vp_in_iff] at v2 ⊢; omega
    refine x_if_ne (t := 21) (q := 8) dX10_marry_5 (by decide) rfl (fun c5 => absurd c5 (by decide)) (fun c5 => ?_)
    refine x_aload_n (q := 9) dX10_marry_8 rfl rfl ?_
    refine x_iload_n (q := 10) dX10_marry_9 rfl rfl ?_
    refine x_callV (q := 13) (ci := 10) (c_noOne hn hX hT0 hP hP0) eX10_marry_125 gX10_marry_X10_isNoOne hX (by omega) rfl rfl rfl (Nat.le_of_ble_eq_true rfl) ⟨Nat.le_refl _, Nat.le_refl _⟩ dX10_marry_10 rfl rfl (fun r10 M10 p10 => ?_)
    obtain ⟨rfl, p10⟩ := p10
    rcases p10 with ⟨b10, rfl⟩ | ⟨b10, rfl⟩
    · refine x_if_ne (t := 21) (q := 16) dX10_marry_13 (by decide) rfl (fun c13 => ?_) (fun c13 => absurd c13 (by decide))
      refine x_bipush (v := -2) (q := 23) dX10_marry_21 rfl (by decide) ?_
      refine x_iret dX10_marry_23 rfl rfl (Nat.le_refl _) ?_
      rw [if_pos (inT b2), if_neg (show ¬ inB b P = true by rw [b10]; decide)]
      exact ⟨rfl, rfl⟩
    · have v10 := inV b10
      have vb : vp_in b 5 := by rw [vp_in_iff] at v10 ⊢; omega
      refine x_if_ne (t := 21) (q := 16) dX10_marry_13 (by decide) rfl (fun c13 => absurd c13 (by decide)) (fun c13 => ?_)
      refine x_iload_n (q := 17) dX10_marry_16 rfl rfl ?_
      refine x_iload_n (q := 18) dX10_marry_17 rfl rfl ?_
      refine x_icmp_ne (t := 24) (q := 21) dX10_marry_18 (by decide) rfl (fun c18 => ?_) (fun c18 => ?_)
      · refine x_aload_n (q := 25) dX10_marry_24 rfl rfl ?_
        refine x_getf (C := RX10) (T := TX10) (N := 12) (k := 0) (q := 28) hX (by omega) rfl hiX10 (by decide) (by decide +kernel) rfl dX10_marry_25 rfl ?_
        refine x_iload_n (q := 29) dX10_marry_28 rfl rfl ?_
        refine x_iload_n (q := 30) dX10_marry_29 rfl rfl ?_
        refine x_callV (q := 33) (ci := 8) (c_Told_like (p := 1) (by omega) hT0 va vb) eX10_marry_198 gX10_marry_X8_likeOneAnother tp0 (by omega) rfl rfl rfl (Nat.le_of_ble_eq_true rfl) ⟨Nat.le_refl _, Nat.le_refl _⟩ dX10_marry_30 rfl rfl (fun r30 M30 p30 => ?_)
        obtain ⟨rfl, p30⟩ := p30
        rcases p30 with ⟨b30, rfl⟩ | ⟨b30, rfl⟩
        · refine x_if_eq (t := 58) (q := 36) dX10_marry_33 (by decide) rfl (fun c33 => absurd c33 (by decide)) (fun c33 => ?_)
          refine x_aload_n (q := 37) dX10_marry_36 rfl rfl ?_
          refine x_getf (C := RX10) (T := TX10) (N := 12) (k := 2) (q := 40) hX (by omega) rfl hiX10 (by decide) (by decide +kernel) rfl dX10_marry_37 rfl ?_
          refine x_iload_n (q := 41) dX10_marry_40 rfl rfl ?_
          refine x_callV (q := 44) (ci := 3) (c_Day_isMarried (p := 25) (by omega) hD0 va) eX10_marry_201 gX10_marry_X3_isMarried dp0 (by omega) rfl rfl rfl (Nat.le_of_ble_eq_true rfl) ⟨Nat.le_refl _, Nat.le_refl _⟩ dX10_marry_41 rfl rfl (fun r41 M41 p41 => ?_)
          obtain ⟨rfl, p41⟩ := p41
          rcases p41 with ⟨b41, rfl⟩ | ⟨b41, rfl⟩
          · refine x_if_ne (t := 58) (q := 47) dX10_marry_44 (by decide) rfl (fun c44 => ?_) (fun c44 => absurd c44 (by decide))
            refine x_bipush (v := -4) (q := 60) dX10_marry_58 rfl (by decide) ?_
            refine x_iret dX10_marry_60 rfl rfl (Nat.le_refl _) ?_
            rw [if_pos (inT b2), if_pos (inT b10), if_neg c18]
            first
              | (rw [if_neg (mar_f1 b30)]; exact ⟨rfl, rfl⟩)
              | (rw [if_neg (mar_f2 b41)]; exact ⟨rfl, rfl⟩)
              | (rw [if_neg (mar_f3 b52)]; exact ⟨rfl, rfl⟩)
          · refine x_if_ne (t := 58) (q := 47) dX10_marry_44 (by decide) rfl (fun c44 => absurd c44 (by decide)) (fun c44 => ?_)
            refine x_aload_n (q := 48) dX10_marry_47 rfl rfl ?_
            refine x_getf (C := RX10) (T := TX10) (N := 12) (k := 2) (q := 51) hX (by omega) rfl hiX10 (by decide) (by decide +kernel) rfl dX10_marry_48 rfl ?_
            refine x_iload_n (q := 52) dX10_marry_51 rfl rfl ?_
            refine x_callV (q := 55) (ci := 3) (c_Day_isMarried (p := 25) (by omega) hD0 vb) eX10_marry_201 gX10_marry_X3_isMarried dp0 (by omega) rfl rfl rfl (Nat.le_of_ble_eq_true rfl) ⟨Nat.le_refl _, Nat.le_refl _⟩ dX10_marry_52 rfl rfl (fun r52 M52 p52 => ?_)
            obtain ⟨rfl, p52⟩ := p52
            rcases p52 with ⟨b52, rfl⟩ | ⟨b52, rfl⟩
            · refine x_if_eq (t := 61) (q := 58) dX10_marry_55 (by decide) rfl (fun c55 => absurd c55 (by decide)) (fun c55 => ?_)
              refine x_bipush (v := -4) (q := 60) dX10_marry_58 rfl (by decide) ?_
              refine x_iret dX10_marry_60 rfl rfl (Nat.le_refl _) ?_
              rw [if_pos (inT b2), if_pos (inT b10), if_neg c18]
              first
                | (rw [if_neg (mar_f1 b30)]; exact ⟨rfl, rfl⟩)
                | (rw [if_neg (mar_f2 b41)]; exact ⟨rfl, rfl⟩)
                | (rw [if_neg (mar_f3 b52)]; exact ⟨rfl, rfl⟩)
            · refine x_if_eq (t := 61) (q := 58) dX10_marry_55 (by decide) rfl (fun c55 => ?_) (fun c55 => absurd c55 (by decide))
              refine x_aload_n (q := 62) dX10_marry_61 rfl rfl ?_
              refine x_getf (C := RX10) (T := TX10) (N := 12) (k := 3) (q := 65) hX (by omega) rfl hiX10 (by decide) (by decide +kernel) rfl dX10_marry_62 rfl ?_
              refine x_aload_n (q := 66) dX10_marry_65 rfl rfl ?_
              refine x_getf (C := RX10) (T := TX10) (N := 12) (k := 2) (q := 69) hX (by omega) rfl hiX10 (by decide) (by decide +kernel) rfl dX10_marry_66 rfl ?_
              refine x_callV (q := 72) (ci := 5) (c_Past_remember (p := 29) (q := 25) (by omega) (by omega) (by omega) hsz hnx hPa hD0) eX10_marry_194 gX10_marry_X5_remember hPa.1 (by omega) rfl rfl rfl (Nat.le_of_ble_eq_true rfl) ⟨Nat.le_refl _, Nat.le_refl _⟩ dX10_marry_69 rfl rfl (fun r69 M69 p69 => ?_)
              obtain ⟨rfl, hQ69, fr69⟩ := p69
              refine x_aload_n (q := 73) dX10_marry_72 rfl rfl ?_
              have hv1_1_0 := ((fr69 (0) (by omega)).trans hX)
              refine x_getf (C := RX10) (T := TX10) (N := 12) (k := 2) (q := 76) hv1_1_0 (by omega) rfl hiX10 (by decide) (by decide +kernel) rfl dX10_marry_73 rfl ?_
              have hv1_2_25 := ((fr69 (25) (by omega)).trans dp0)
              refine x_getf (C := RX3) (T := TX3) (N := 10) (k := 8) (q := 79) hv1_2_25 (by omega) rfl hiX3 (by decide) (by decide +kernel) rfl dX10_marry_76 rfl ?_
              refine x_iload_n (q := 80) dX10_marry_79 rfl rfl ?_
              refine x_iload_n (q := 81) dX10_marry_80 rfl rfl ?_
              have hv1_3_27 := ((fr69 (27) (by omega)).trans dp2)
              refine x_iast (q := 82) hv1_3_27 (by omega) va dX10_marry_81 rfl (fun M81 w81 o81 => ?_)
              refine x_aload_n (q := 83) dX10_marry_82 rfl rfl ?_
              have hv2_4_0 := ((o81 (0) (by omega)).trans hv1_1_0)
              refine x_getf (C := RX10) (T := TX10) (N := 12) (k := 2) (q := 86) hv2_4_0 (by omega) rfl hiX10 (by decide) (by decide +kernel) rfl dX10_marry_83 rfl ?_
              have hv2_5_25 := ((o81 (25) (by omega)).trans hv1_2_25)
              refine x_getf (C := RX3) (T := TX3) (N := 10) (k := 8) (q := 89) hv2_5_25 (by omega) rfl hiX3 (by decide) (by decide +kernel) rfl dX10_marry_86 rfl ?_
              refine x_iload_n (q := 90) dX10_marry_89 rfl rfl ?_
              refine x_iload_n (q := 91) dX10_marry_90 rfl rfl ?_
              refine x_iast (q := 92) w81 (by omega) vb dX10_marry_91 rfl (fun M91 w91 o91 => ?_)
              refine x_aload_n (q := 93) dX10_marry_92 rfl rfl ?_
              have hv3_6_0 := ((o91 (0) (by omega)).trans hv2_4_0)
              refine x_getf (C := RX10) (T := TX10) (N := 12) (k := 2) (q := 96) hv3_6_0 (by omega) rfl hiX10 (by decide) (by decide +kernel) rfl dX10_marry_93 rfl ?_
              refine x_dup (q := 97) dX10_marry_96 rfl rfl ?_
              have hv3_7_25 := ((o91 (25) (by omega)).trans hv2_5_25)
              refine x_getf (C := RX3) (T := TX3) (N := 10) (k := 3) (q := 100) hv3_7_25 (by omega) rfl hiX3 (by decide) (by decide +kernel) rfl dX10_marry_97 rfl ?_
              refine x_iconst (v := 1) (q := 101) dX10_marry_100 rfl (by decide) ?_
              refine x_iadd (q := 102) dX10_marry_101 rfl ?_
              refine x_put (C := RX3) (T := TX3) (N := 10) (k := 3) (q := 105) (ty := .int) tyX3_ok nmX3 hv3_7_25 (by omega) rfl hiX3 (by decide) (by decide +kernel) rfl (by decide +kernel) (fun _ => rfl) (fun _ => rfl) (Nat.le_of_ble_eq_true rfl) dX10_marry_102 rfl (fun M102 w102 o102 => ?_)
              refine x_aload_n (q := 106) dX10_marry_105 rfl rfl ?_
              have hv4_8_0 := ((o102 (0) (by omega)).trans hv3_6_0)
              refine x_getf (C := RX10) (T := TX10) (N := 12) (k := 2) (q := 109) hv4_8_0 (by omega) rfl hiX10 (by decide) (by decide +kernel) rfl dX10_marry_106 rfl ?_
              refine x_getf (C := RX3) (T := TX3) (N := 10) (k := 3) (q := 112) w102 (by omega) rfl hiX3 (by decide) (by decide +kernel) rfl dX10_marry_109 rfl ?_
              refine x_iret dX10_marry_112 rfl rfl (Nat.le_refl _) ?_
              have hv4_9_26 := ((o102 (26) (by omega)).trans ((o91 (26) (by omega)).trans ((o81 (26) (by omega)).trans ((fr69 (26) (by omega)).trans dp1))))
              have hv4_10_27 := ((o102 (27) (by omega)).trans w91)
              have hv4_11_28 := ((o102 (28) (by omega)).trans ((o91 (28) (by omega)).trans ((o81 (28) (by omega)).trans ((fr69 (28) (by omega)).trans dp3))))
              rw [if_pos (inT b2), if_pos (inT b10), if_neg c18, if_pos (mar_t b30 b41 b52)]
              exact ⟨rfl, ⟨w102, hv4_9_26, hv4_10_27, hv4_11_28⟩, hQ69.keep (fun j h1 h2 => ((o102 j (by omega)).trans ((o91 j (by omega)).trans ((o81 j (by omega)).trans rfl)))), (fun j hj => ((o102 j (by omega)).trans ((o91 j (by omega)).trans ((o81 j (by omega)).trans ((fr69 j (by omega)).trans rfl)))))⟩
        · refine x_if_eq (t := 58) (q := 36) dX10_marry_33 (by decide) rfl (fun c33 => ?_) (fun c33 => absurd c33 (by decide))
          refine x_bipush (v := -4) (q := 60) dX10_marry_58 rfl (by decide) ?_
          refine x_iret dX10_marry_60 rfl rfl (Nat.le_refl _) ?_
          rw [if_pos (inT b2), if_pos (inT b10), if_neg c18]
          first
            | (rw [if_neg (mar_f1 b30)]; exact ⟨rfl, rfl⟩)
            | (rw [if_neg (mar_f2 b41)]; exact ⟨rfl, rfl⟩)
            | (rw [if_neg (mar_f3 b52)]; exact ⟨rfl, rfl⟩)
      · refine x_bipush (v := -2) (q := 23) dX10_marry_21 rfl (by decide) ?_
        refine x_iret dX10_marry_23 rfl rfl (Nat.le_refl _) ?_
        rw [if_pos (inT b2), if_pos (inT b10), if_pos c18]
        exact ⟨rfl, rfl⟩

