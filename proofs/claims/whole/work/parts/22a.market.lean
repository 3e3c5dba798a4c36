/-- the most that the set S brings with the day d, by what sets bring without it (g), over the first k goods -/
def skF (pr : Nat → Nat → Nat) (g : Nat → Nat) (d S : Nat) : Nat → Nat
  | 0 => g S
  | k + 1 => if S.testBit k then max (skF pr g d S k) (pr k d + g (S - 2 ^ k)) else skF pr g d S k
/-- the most that the set S of G goods brings in the first days, those of T taken -/
def msk (pr : Nat → Nat → Nat) (G T : Nat) : Nat → Nat → Nat
  | 0, _ => 0
  | d + 1, S => if T.testBit d then msk pr G T d S else skF pr (msk pr G T d) d S G
theorem skF_le {pr : Nat → Nat → Nat} {g : Nat → Nat} {c b : Nat} (hg : ∀ S, g S ≤ c) (d S : Nat) : ∀ k, (∀ j, j < k → pr j d ≤ b) → skF pr g d S k ≤ c + b
  | 0, _ => Nat.le_trans (hg _) (Nat.le_add_right _ _)
  | k + 1, hpr => by
    have ih := skF_le (pr := pr) hg d S k (fun j hj => hpr j (by omega))
    have h2 := hg (S - 2 ^ k)
    have h3 := hpr k (by omega)
    rw [skF]
    split
    · exact Nat.max_le.mpr ⟨ih, by omega⟩
    · exact ih
theorem msk_le {pr : Nat → Nat → Nat} {G n b : Nat} (T : Nat) (hpr : ∀ j, j < G → ∀ d, d < n → pr j d ≤ b) : ∀ d, d ≤ n → ∀ S, msk pr G T d S ≤ d * b
  | 0, _, _ => Nat.zero_le _
  | d + 1, hd, S => by
    have ih := fun S => msk_le T hpr d (by omega) S
    rw [msk]
    split
    · exact Nat.le_trans (ih S) (Nat.mul_le_mul_right _ (Nat.le_succ d))
    · rw [Nat.succ_mul]
      exact skF_le ih d S G (fun j hj => hpr j hj d (by omega))
theorem skF_0 (pr : Nat → Nat → Nat) (g : Nat → Nat) (d : Nat) : ∀ k, skF pr g d 0 k = g 0
  | 0 => rfl
  | k + 1 => by rw [skF, if_neg (by rw [Nat.zero_testBit]; decide), skF_0 pr g d k]
theorem sub_lt {S k : Nat} (h : S.testBit k = true) : 2 ^ k ≤ S := Nat.ge_two_pow_of_testBit h
def subB (S c U : Nat) : Bool := !(decide (c &&& S = c) && (decide (U &&& S = U) && decide (U < c))) || decide (U ≤ (c - 1) &&& S)
theorem subB_ok : ∀ S, S < 32 → ∀ c, c < 32 → ∀ U, U < 32 → subB S c U = true := by decide +kernel
theorem sub_next {S c U : Nat} (hS : S < 32) (hc : c < 32) (hU : U < 32) (h0 : c &&& S = c) (h1 : U &&& S = U) (h2 : U < c) : U ≤ (c - 1) &&& S := by
  have h := subB_ok S hS c hc U hU
  unfold subB at h
  rw [decide_eq_true h0, decide_eq_true h1, decide_eq_true h2] at h
  simpa using h
theorem msk_c0 {pr : Nat → Nat → Nat} {G T d U : Nat} (hTd : T.testBit d = false) : (if 0 < U then msk pr G T (d + 1) U else msk pr G T d U) = msk pr G T (d + 1) U := by
  by_cases h5 : 0 < U
  · rw [if_pos h5]
  · rw [if_neg h5, show U = 0 by omega, msk, if_neg (by rw [hTd]; decide), skF_0]
def subC (S c : Nat) : Bool := (List.range 5).all (fun k => !((decide (c &&& S = c)) && c.testBit k) || decide ((c - 2 ^ k) &&& S = c - 2 ^ k))
theorem subC_ok : ∀ S, S < 32 → ∀ c, c < 32 → subC S c = true := by decide +kernel
theorem sub_less {S c k : Nat} (hS : S < 32) (hc : c < 32) (hk : k < 5) (h1 : c &&& S = c) (h2 : c.testBit k = true) : (c - 2 ^ k) &&& S = c - 2 ^ k := by
  have h := List.all_eq_true.mp (subC_ok S hS c hc) k (List.mem_range.mpr hk)
  rw [decide_eq_true h1, h2] at h
  simpa using h
set_option maxHeartbeats 4000000 in
set_option maxRecDepth 100000 in
theorem l_Ma_with {n p d S G : Nat} {t : Nat → Nat → Int32} {pr : Nat → Nat → Nat} {g : Nat → Nat} {Q : Option Value → (Nat → xE) → Prop} (hp : p + 2 < n) (hd : d < 9) (hG : G ≤ 5) (hG0 : t 1 0 = nI G) (hS : S < 32) (hpr : ∀ j, j < G → t 3 (9 * j + d) = nI (pr j d) ∧ pr j d ≤ 20000) (hg : t 4 S = nI (g S)) (hg2 : ∀ k, k < G → S.testBit k = true → t 4 (S - 2 ^ k) = nI (g (S - 2 ^ k))) (hgl : ∀ S, g S ≤ 1000000) : ∀ (k i : Nat) (M : Nat → xE), i + k = G → (oX4 p t M) → (Q (some (.int (nI (skF pr g d S G)))) M) → X mX4_mostWith 0 0 10 [(4, .int (nI i)), (3, .int (nI (skF pr g d S i))), (0, .ref p), (1, .int (nI S)), (2, .int (nI d))] [] n M (Q) := by
  have hiX4 : ∀ w ∈ wsX40, w ∈ wsX4_mostWith := by decide +kernel
  intro k
  induction k with
  | zero =>
    intro i M hik hT hQ
    have hT0 := hT
    obtain ⟨tp0, tp1, tp2⟩ := hT
    rw [hG0] at tp0
    have hml : skF pr g d S i ≤ 1020000 := skF_le hgl d S i (fun j hj => (hpr j (by omega)).2)
    refine x_iload (q := 12) dX4_mostWith_10 rfl rfl ?_
    refine x_aload_n (q := 13) dX4_mostWith_12 rfl rfl ?_
    refine x_getf (C := RX4) (T := TX4) (N := 5) (k := 1) (q := 16) tp0 (by omega) rfl hiX4 (by decide) (by decide +kernel) rfl dX4_mostWith_13 rfl ?_
    refine x_icmp_ge (t := 64) (q := 19) dX4_mostWith_16 (by decide) rfl (fun c16 => ?_) (fun c16 => absurd (by rw [show i = G by omega]; exact nI_le (Nat.le_refl _) (by omega)) c16)
    refine x_iload_n (q := 65) dX4_mostWith_64 rfl rfl ?_
    refine x_iret dX4_mostWith_65 rfl rfl (Nat.le_refl _) ?_
    rw [show i = G by omega]
    exact hQ
  | succ k ih =>
    intro i M hik hT hQ
    have hT0 := hT
    obtain ⟨tp0, tp1, tp2⟩ := hT
    rw [hG0] at tp0
    have hml : skF pr g d S i ≤ 1020000 := skF_le hgl d S i (fun j hj => (hpr j (by omega)).2)
    refine x_iload (q := 12) dX4_mostWith_10 rfl rfl ?_
    refine x_aload_n (q := 13) dX4_mostWith_12 rfl rfl ?_
    refine x_getf (C := RX4) (T := TX4) (N := 5) (k := 1) (q := 16) tp0 (by omega) rfl hiX4 (by decide) (by decide +kernel) rfl dX4_mostWith_13 rfl ?_
    refine x_icmp_ge (t := 64) (q := 19) dX4_mostWith_16 (by decide) rfl (fun c16 => absurd c16 (nI_ge (a := i) (b := G) (by omega) (by omega))) (fun c16 => ?_)
    refine x_iload_n (q := 20) dX4_mostWith_19 rfl rfl ?_
    refine x_iload (q := 22) dX4_mostWith_20 rfl rfl ?_
    refine x_callSN (q := 25) c_bitOf eX4_mostWith_49 gX4_mostWith_X10_bitOf_n49 (by decide) (by decide +kernel) (by decide +kernel) rfl (Nat.le_of_ble_eq_true rfl) ⟨Nat.le_refl _, Nat.le_refl _⟩ dX4_mostWith_22 rfl rfl (fun r22 M22 p22 => ?_)
    obtain ⟨rfl, rfl⟩ := p22
    refine x_iconst (v := 1) (q := 26) dX4_mostWith_25 rfl (by decide) ?_
    have hbit : bo (nI S) (nI i) = 1 ↔ S.testBit i = true := bo_1 (by omega)
    refine x_icmp_ne (t := 58) (q := 29) dX4_mostWith_26 (by decide) rfl (fun c26 => ?_) (fun c26 => ?_)
    · refine x_iinc (L' := fun x4_58 => [(4, .int x4_58), (3, .int (nI (skF pr g d S i))), (0, .ref p), (1, .int (nI S)), (2, .int (nI d))]) (q := 61) dX4_mostWith_58 rfl rfl (by decide) (fun _ => rfl) (fun x4_58 ex4_58 => ?_)
      obtain rfl : x4_58 = nI (i + 1) := ex4_58.trans (nI_1 i)
      refine x_goto (q := 10) dX4_mostWith_61 (by decide) ?_
      rw [show nI (skF pr g d S i) = nI (skF pr g d S (i + 1)) by rw [skF, if_neg (fun h => c26 (hbit.mpr h))]]
      refine x_pick (L' := [(4, .int (nI (i + 1))), (3, .int (nI (skF pr g d S (i + 1)))), (0, .ref p), (1, .int (nI S)), (2, .int (nI d))]) [0, 1, 2, 3, 4] rfl ?_
      exact ih (i + 1) M (by omega) hT0 hQ
    · have hb2 : S.testBit i = true := hbit.mp c26
      have hge : 2 ^ i ≤ S := sub_lt hb2
      have hsh : nI S - (1 : Int32) <<< (nI i &&& 31) = nI (S - 2 ^ i) := by rw [xshl1 i (by omega)]; exact pk_sub hge
      have hlt : S - 2 ^ i < 32 := Nat.lt_of_le_of_lt (Nat.sub_le _ _) hS
      have hix : nI i * 9 + nI d = nI (9 * i + d) := by rw [show (9 : Int32) = nI 9 from rfl, pk_mul, nI_add, Nat.mul_comm]
      refine x_iload_n (q := 30) dX4_mostWith_29 rfl rfl ?_
      refine x_aload_n (q := 31) dX4_mostWith_30 rfl rfl ?_
      refine x_getf (C := RX4) (T := TX4) (N := 5) (k := 3) (q := 34) tp0 (by omega) rfl hiX4 (by decide) (by decide +kernel) rfl dX4_mostWith_31 rfl ?_
      refine x_iload (q := 36) dX4_mostWith_34 rfl rfl ?_
      refine x_bipush (v := 9) (q := 38) dX4_mostWith_36 rfl (by decide) ?_
      refine x_imul (q := 39) dX4_mostWith_38 rfl ?_
      refine x_iload_n (q := 40) dX4_mostWith_39 rfl rfl ?_
      refine x_iadd (q := 41) dX4_mostWith_40 rfl ?_
      refine x_iald (q := 42) tp1 (by omega) (by rw [hix]; exact vp_in_nI (by omega) (by decide)) dX4_mostWith_41 rfl ?_
      refine x_aload_n (q := 43) dX4_mostWith_42 rfl rfl ?_
      refine x_getf (C := RX4) (T := TX4) (N := 5) (k := 4) (q := 46) tp0 (by omega) rfl hiX4 (by decide) (by decide +kernel) rfl dX4_mostWith_43 rfl ?_
      refine x_iload_n (q := 47) dX4_mostWith_46 rfl rfl ?_
      refine x_iconst (v := 1) (q := 48) dX4_mostWith_47 rfl (by decide) ?_
      refine x_iload (q := 50) dX4_mostWith_48 rfl rfl ?_
      refine x_ishl (q := 51) dX4_mostWith_50 rfl ?_
      refine x_isub (q := 52) dX4_mostWith_51 rfl ?_
      refine x_iald (q := 53) tp2 (by omega) (by rw [hsh]; exact vp_in_nI hlt (by decide)) dX4_mostWith_52 rfl ?_
      refine x_iadd (q := 54) dX4_mostWith_53 rfl ?_
      refine x_mmax (q := 57) (by decide +kernel) (by decide +kernel) (by decide +kernel) (by decide +kernel) (by decide) (Nat.le_of_ble_eq_true rfl) ⟨Nat.zero_le _, Nat.zero_le _⟩ dX4_mostWith_54 rfl ?_
      refine x_istore_n (L' := fun x3_57 => [(3, .int x3_57), (4, .int (nI i)), (0, .ref p), (1, .int (nI S)), (2, .int (nI d))]) (q := 58) dX4_mostWith_57 rfl (by decide) (fun _ => rfl) (fun x3_57 ex3_57 => ?_)
      obtain rfl : x3_57 = nI (skF pr g d S (i + 1)) := ex3_57.trans (by rw [hsh, hix, nIc hlt (by decide), nI_clamp (show 9 * i + d < 2 ^ 31 by omega), hg2 i (by omega) hb2, (hpr i (by omega)).1, nI_add, nI_max (by omega) (by have := hgl (S - 2 ^ i); have := (hpr i (by omega)).2; omega), skF, if_pos hb2])
      refine x_iinc (L' := fun x4_58 => [(4, .int x4_58), (3, .int (nI (skF pr g d S (i + 1)))), (0, .ref p), (1, .int (nI S)), (2, .int (nI d))]) (q := 61) dX4_mostWith_58 rfl rfl (by decide) (fun _ => rfl) (fun x4_58 ex4_58 => ?_)
      obtain rfl : x4_58 = nI (i + 1) := ex4_58.trans (nI_1 i)
      refine x_goto (q := 10) dX4_mostWith_61 (by decide) ?_
      refine x_pick (L' := [(4, .int (nI (i + 1))), (3, .int (nI (skF pr g d S (i + 1)))), (0, .ref p), (1, .int (nI S)), (2, .int (nI d))]) [0, 1, 2, 3, 4] rfl ?_
      exact ih (i + 1) M (by omega) hT0 hQ

set_option maxHeartbeats 4000000 in
set_option maxRecDepth 100000 in
theorem c_Ma_with {n : Nat} {M : Nat → xE} {p d S G : Nat} {t : Nat → Nat → Int32} {pr : Nat → Nat → Nat} {g : Nat → Nat} (hp : p + 2 < n) (hd : d < 9) (hG : G ≤ 5) (hG0 : t 1 0 = nI G) (hS : S < 32) (hpr : ∀ j, j < G → t 3 (9 * j + d) = nI (pr j d) ∧ pr j d ≤ 20000) (hg : t 4 S = nI (g S)) (hg2 : ∀ k, k < G → S.testBit k = true → t 4 (S - 2 ^ k) = nI (g (S - 2 ^ k))) (hgl : ∀ S, g S ≤ 1000000) (hT : oX4 p t M) : xMet mX4_mostWith [.ref p, .int (nI S), .int (nI d)] n M (fun r M' => M = M' ∧ some (.int (nI (skF pr g d S G))) = r) := by
  have hT0 := hT
  obtain ⟨tp0, tp1, tp2⟩ := hT
  have hiX4 : ∀ w ∈ wsX40, w ∈ wsX4_mostWith := by decide +kernel
  refine xMet.of _ (by decide) rfl (Nat.le_of_ble_eq_true rfl) ?_
  refine x_aload_n (q := 1) dX4_mostWith_0 rfl rfl ?_
  refine x_getf (C := RX4) (T := TX4) (N := 5) (k := 4) (q := 4) tp0 (by omega) rfl hiX4 (by decide) (by decide +kernel) rfl dX4_mostWith_1 rfl ?_
  refine x_iload_n (q := 5) dX4_mostWith_4 rfl rfl ?_
  refine x_iald (q := 6) tp2 (by omega) (vp_in_nI hS (by decide)) dX4_mostWith_5 rfl ?_
  refine x_istore_n (L' := fun x3_6 => [(3, .int x3_6), (0, .ref p), (1, .int (nI S)), (2, .int (nI d))]) (q := 7) dX4_mostWith_6 rfl (by decide) (fun _ => rfl) (fun x3_6 ex3_6 => ?_)
  refine x_iconst (v := 0) (q := 8) dX4_mostWith_7 rfl (by decide) ?_
  refine x_istore (L' := fun x4_8 => [(4, .int x4_8), (3, .int x3_6), (0, .ref p), (1, .int (nI S)), (2, .int (nI d))]) (q := 10) dX4_mostWith_8 rfl (by decide) (fun _ => rfl) (fun x4_8 ex4_8 => ?_)
  obtain rfl : x3_6 = nI (skF pr g d S 0) := ex3_6.trans (by rw [nIc hS (by decide), hg]; rfl)
  subst ex4_8
  exact l_Ma_with hp hd hG hG0 hS hpr hg hg2 hgl G 0 M (by omega) hT0 ⟨rfl, rfl⟩

set_option maxHeartbeats 4000000 in
set_option maxRecDepth 100000 in
theorem l_Ma_of1 {n p d S T G D : Nat} {t : Nat → Nat → Int32} {pr : Nat → Nat → Nat} {Q : Option Value → (Nat → xE) → Prop} {M0 : Nat → xE} (hp : p + 2 < n) (hD9 : D ≤ 9) (hG : G ≤ 5) (hG0 : t 1 0 = nI G) (hD0 : t 2 0 = nI D) (hS : S < 32) (hpr : ∀ j, j < G → ∀ d, d < D → t 3 (9 * j + d) = nI (pr j d) ∧ pr j d ≤ 20000) (hd : d < D) (hTd : T.testBit d = false) (hk : ∀ (M : Nat → xE) (h : Nat → Int32), oX4 p (fun k => if k = 4 then h else t k) M → (∀ U, U < 32 → U &&& S = U → h U = nI (msk pr G T (d + 1) U)) → xfr p (p + 3) M0 M → X mX4_mostOf 0 0 59 [(3, .int (nI d)), (0, .ref p), (1, .int (nI S)), (2, .int (nI T))] [] n M Q) : ∀ (k c : Nat) (M : Nat → xE) (h : Nat → Int32), c ≤ k → oX4 p (fun k => if k = 4 then h else t k) M → c < 32 → c &&& S = c → (∀ U, U < 32 → U &&& S = U → h U = nI (if c < U then msk pr G T (d + 1) U else msk pr G T d U)) → xfr p (p + 3) M0 M → X mX4_mostOf 0 0 21 [(4, .int (nI c)), (0, .ref p), (1, .int (nI S)), (2, .int (nI T)), (3, .int (nI d))] [] n M Q := by
  have hiX4 : ∀ w ∈ wsX40, w ∈ wsX4_mostOf := by decide +kernel
  intro k
  induction k with
  | zero =>
    intro c M h hck hT hc hcS hi hf
    have hT0 := hT
    obtain ⟨tp0, tp1, tp2⟩ := hT
    refine x_iload (q := 23) dX4_mostOf_21 rfl rfl ?_
    refine x_if_le (t := 59) (q := 26) dX4_mostOf_23 (by decide) rfl (fun c23 => ?_) (fun c23 => absurd (show nI c ≤ 0 by rw [show c = 0 by omega]; decide) c23)
    have e9 : c = 0 := by omega
    subst e9
    exact x_pick (L' := [(3, .int (nI d)), (0, .ref p), (1, .int (nI S)), (2, .int (nI T))]) [4, 1, 2, 3] rfl (hk M h hT0 (fun U hU hUS => by rw [hi U hU hUS, msk_c0 hTd]) hf)
  | succ k ih =>
    intro c M h hck hT hc hcS hi hf
    have hT0 := hT
    obtain ⟨tp0, tp1, tp2⟩ := hT
    refine x_iload (q := 23) dX4_mostOf_21 rfl rfl ?_
    refine x_if_le (t := 59) (q := 26) dX4_mostOf_23 (by decide) rfl (fun c23 => ?_) (fun c23 => ?_)
    · have e9 : c = 0 := by
        rcases Nat.eq_zero_or_pos c with h | h
        · exact h
        · exact absurd c23 (nI_nle h (by omega))
      subst e9
      exact x_pick (L' := [(3, .int (nI d)), (0, .ref p), (1, .int (nI S)), (2, .int (nI T))]) [4, 1, 2, 3] rfl (hk M h hT0 (fun U hU hUS => by rw [hi U hU hUS, msk_c0 hTd]) hf)
    · refine x_iload_n (q := 27) dX4_mostOf_26 rfl rfl ?_
      refine x_iload_n (q := 28) dX4_mostOf_27 rfl rfl ?_
      refine x_callSN (q := 31) c_bitOf eX4_mostOf_49 gX4_mostOf_X10_bitOf_n49 (by decide) (by decide +kernel) (by decide +kernel) rfl (Nat.le_of_ble_eq_true rfl) ⟨Nat.le_refl _, Nat.le_refl _⟩ dX4_mostOf_28 rfl rfl (fun r28 M28 p28 => ?_)
      obtain ⟨rfl, rfl⟩ := p28
      refine x_if_ne (t := 59) (q := 34) dX4_mostOf_31 (by decide) rfl (fun c31 => absurd (bo_nI (by omega)) (fun e => c31 (e.trans (by rw [hTd]; rfl)))) (fun c31 => ?_)
      refine x_aload_n (q := 35) dX4_mostOf_34 rfl rfl ?_
      refine x_getf (C := RX4) (T := TX4) (N := 5) (k := 4) (q := 38) tp0 (by omega) rfl hiX4 (by decide) (by decide +kernel) rfl dX4_mostOf_35 rfl ?_
      refine x_iload (q := 40) dX4_mostOf_38 rfl rfl ?_
      refine x_aload_n (q := 41) dX4_mostOf_40 rfl rfl ?_
      refine x_iload (q := 43) dX4_mostOf_41 rfl rfl ?_
      refine x_iload_n (q := 44) dX4_mostOf_43 rfl rfl ?_
      have hle : ∀ U, msk pr G T d U ≤ 1000000 := fun U => Nat.le_trans (msk_le T (fun j hj e he => (hpr j hj e he).2) d (by omega) U) (Nat.le_trans (Nat.mul_le_mul_right 20000 (show d ≤ 9 by omega)) (by decide))
      refine x_callV (q := 47) (ci := 4) (c_Ma_with (t := (fun k => if k = 4 then h else t k)) (pr := pr) (g := msk pr G T d) hp (by omega) hG hG0 (by omega) (fun j hj => hpr j hj d hd) ((hi c (by omega) hcS).trans (by rw [if_neg (by omega)])) (fun k hk hb => (hi (c - 2 ^ k) (Nat.lt_of_le_of_lt (Nat.sub_le _ _) hc) (sub_less hS hc (by omega) hcS hb)).trans (by rw [if_neg (Nat.not_lt.mpr (Nat.sub_le _ _))])) hle hT0) eX4_mostOf_52 gX4_mostOf_X4_mostWith tp0 (by omega) rfl rfl rfl (Nat.le_of_ble_eq_true rfl) ⟨Nat.le_refl _, Nat.le_refl _⟩ dX4_mostOf_44 rfl rfl (fun r44 M44 p44 => ?_)
      obtain ⟨rfl, rfl⟩ := p44
      refine x_iast (q := 48) tp2 (by omega) (vp_in_nI (by omega) (by decide)) dX4_mostOf_47 rfl (fun M47 w47 o47 => ?_)
      refine x_iload (q := 50) dX4_mostOf_48 rfl rfl ?_
      refine x_iconst (v := 1) (q := 51) dX4_mostOf_50 rfl (by decide) ?_
      refine x_isub (q := 52) dX4_mostOf_51 rfl ?_
      refine x_iload_n (q := 53) dX4_mostOf_52 rfl rfl ?_
      refine x_iand (q := 54) dX4_mostOf_53 rfl ?_
      refine x_istore (L' := fun x4_54 => [(4, .int x4_54), (0, .ref p), (1, .int (nI S)), (2, .int (nI T)), (3, .int (nI d))]) (q := 56) dX4_mostOf_54 rfl (by decide) (fun _ => rfl) (fun x4_54 ex4_54 => ?_)
      refine x_goto (q := 21) dX4_mostOf_56 (by decide) ?_
      have hv1_1_p := ((o47 (p) (by omega)).trans tp0)
      have hv1_2_p1 := ((o47 (p + 1) (by omega)).trans tp1)
      rw [nI_clamp (by omega)] at w47
      have hc0 : 0 < c := Nat.pos_of_ne_zero (fun h => c23 (by rw [h]; decide))
      have hnx : nI c - 1 &&& nI S = nI ((c - 1) &&& S) := by
        rw [show nI c - 1 = nI (c - 1) from pk_sub (b := 1) (by omega), fa_and]
      have hnl : (c - 1) &&& S ≤ c - 1 := Nat.and_le_left
      obtain rfl : x4_54 = nI ((c - 1) &&& S) := ex4_54.trans hnx
      refine ih ((c - 1) &&& S) M47 (upd h c (nI (skF pr (msk pr G T d) d c G))) (by omega) ⟨hv1_1_p, hv1_2_p1, w47⟩ (Nat.lt_of_le_of_lt hnl (by omega)) (by rw [Nat.and_assoc, Nat.and_self]) (fun U hU hUS => ?_) (fun j hj => (o47 j (by omega)).trans (hf j hj))
      by_cases e : U = c
      · subst e
        rw [pk_us, if_pos (by omega), msk, if_neg (by rw [hTd]; decide)]
      · rw [pk_un e, hi U hU hUS]
        by_cases h5 : c < U
        · rw [if_pos h5, if_pos (by omega)]
        · rw [if_neg h5, if_neg (by have := sub_next hS hc hU hcS hUS (by omega); omega)]
set_option maxHeartbeats 4000000 in
set_option maxRecDepth 100000 in
theorem l_Ma_of2 {n p S T G D : Nat} {t : Nat → Nat → Int32} {pr : Nat → Nat → Nat} {Q : Option Value → (Nat → xE) → Prop} {M0 : Nat → xE} (hp : p + 2 < n) (hD9 : D ≤ 9) (hG : G ≤ 5) (hG0 : t 1 0 = nI G) (hD0 : t 2 0 = nI D) (hS : S < 32) (hpr : ∀ j, j < G → ∀ d, d < D → t 3 (9 * j + d) = nI (pr j d) ∧ pr j d ≤ 20000) (hQ : ∀ (M : Nat → xE) (h : Nat → Int32), oX4 p (fun k => if k = 4 then h else t k) M → xfr p (p + 3) M0 M → Q (some (.int (nI (msk pr G T D S)))) M) : ∀ (k i : Nat) (M : Nat → xE) (h : Nat → Int32), i + k = D → (oX4 p (fun k => if k = 4 then h else t k) M) → (∀ U, U < 32 → U &&& S = U → h U = nI (msk pr G T i U)) → (xfr p (p + 3) M0 M) → X mX4_mostOf 0 0 10 [(3, .int (nI i)), (0, .ref p), (1, .int (nI S)), (2, .int (nI T))] [] n M (Q) := by
  have hiX4 : ∀ w ∈ wsX40, w ∈ wsX4_mostOf := by decide +kernel
  intro k
  induction k with
  | zero =>
    intro i M h hik hT hi hf
    have hT0 := hT
    obtain ⟨tp0, tp1, tp2⟩ := hT
    have tp0 : M p = .inr (4, [.int (t 0 0), .int (t 1 0), .int (nI D), .ref (p + 1), .ref (p + 2)]) := by rw [tp0, ← hD0]; rfl
    refine x_iload_n (q := 11) dX4_mostOf_10 rfl rfl ?_
    refine x_aload_n (q := 12) dX4_mostOf_11 rfl rfl ?_
    refine x_getf (C := RX4) (T := TX4) (N := 5) (k := 2) (q := 15) tp0 (by omega) rfl hiX4 (by decide) (by decide +kernel) rfl dX4_mostOf_12 rfl ?_
    refine x_icmp_ge (t := 65) (q := 18) dX4_mostOf_15 (by decide) rfl (fun c15 => ?_) (fun c15 => absurd (by rw [show i = D by omega]; exact nI_le (Nat.le_refl _) (by omega)) c15)
    refine x_aload_n (q := 66) dX4_mostOf_65 rfl rfl ?_
    refine x_getf (C := RX4) (T := TX4) (N := 5) (k := 4) (q := 69) tp0 (by omega) rfl hiX4 (by decide) (by decide +kernel) rfl dX4_mostOf_66 rfl ?_
    refine x_iload_n (q := 70) dX4_mostOf_69 rfl rfl ?_
    refine x_iald (q := 71) tp2 (by omega) (vp_in_nI hS (by decide)) dX4_mostOf_70 rfl ?_
    refine x_iret dX4_mostOf_71 rfl rfl (Nat.le_refl _) ?_
    rw [nIc hS (by decide), show (fun k => if k = 4 then h else t k) 4 S = nI (msk pr G T i S) from hi S hS (Nat.and_self S), show i = D by omega]
    exact hQ M h hT0 hf
  | succ k ih =>
    intro i M h hik hT hi hf
    have hT0 := hT
    obtain ⟨tp0, tp1, tp2⟩ := hT
    have tp0 : M p = .inr (4, [.int (t 0 0), .int (t 1 0), .int (nI D), .ref (p + 1), .ref (p + 2)]) := by rw [tp0, ← hD0]; rfl
    refine x_iload_n (q := 11) dX4_mostOf_10 rfl rfl ?_
    refine x_aload_n (q := 12) dX4_mostOf_11 rfl rfl ?_
    refine x_getf (C := RX4) (T := TX4) (N := 5) (k := 2) (q := 15) tp0 (by omega) rfl hiX4 (by decide) (by decide +kernel) rfl dX4_mostOf_12 rfl ?_
    refine x_icmp_ge (t := 65) (q := 18) dX4_mostOf_15 (by decide) rfl (fun c15 => absurd c15 (nI_ge (a := i) (b := D) (by omega) (by omega))) (fun c15 => ?_)
    refine x_iload_n (q := 19) dX4_mostOf_18 rfl rfl ?_
    refine x_istore (L' := fun x4_19 => [(4, .int x4_19), (3, .int (nI i)), (0, .ref p), (1, .int (nI S)), (2, .int (nI T))]) (q := 21) dX4_mostOf_19 rfl (by decide) (fun _ => rfl) (fun x4_19 ex4_19 => ?_)
    rw [show x4_19 = nI S from ex4_19]
    refine x_pick (L' := [(4, .int (nI S)), (0, .ref p), (1, .int (nI S)), (2, .int (nI T)), (3, .int (nI i))]) [0, 2, 3, 4, 1] rfl ?_
    by_cases hTd : T.testBit i = true
    · refine x_iload (q := 23) dX4_mostOf_21 rfl rfl ?_
      refine x_if_le (t := 59) (q := 26) dX4_mostOf_23 (by decide) rfl (fun c23 => ?_) (fun c23 => ?_)
      · refine x_iinc (L' := fun x3_59 => [(3, .int x3_59), (4, .int (nI S)), (0, .ref p), (1, .int (nI S)), (2, .int (nI T))]) (q := 62) dX4_mostOf_59 rfl rfl (by decide) (fun _ => rfl) (fun x3_59 ex3_59 => ?_)
        obtain rfl : x3_59 = nI (i + 1) := ex3_59.trans (nI_1 i)
        refine x_goto (q := 10) dX4_mostOf_62 (by decide) ?_
        refine x_pick (L' := [(3, .int (nI (i + 1))), (0, .ref p), (1, .int (nI S)), (2, .int (nI T))]) [0, 2, 3, 4] rfl ?_
        exact ih (i + 1) M h (by omega) hT0 (fun U hU hUS => by rw [hi U hU hUS, msk, if_pos hTd]) hf
      · refine x_iload_n (q := 27) dX4_mostOf_26 rfl rfl ?_
        refine x_iload_n (q := 28) dX4_mostOf_27 rfl rfl ?_
        refine x_callSN (q := 31) c_bitOf eX4_mostOf_49 gX4_mostOf_X10_bitOf_n49 (by decide) (by decide +kernel) (by decide +kernel) rfl (Nat.le_of_ble_eq_true rfl) ⟨Nat.le_refl _, Nat.le_refl _⟩ dX4_mostOf_28 rfl rfl (fun r28 M28 p28 => ?_)
        obtain ⟨rfl, rfl⟩ := p28
        refine x_if_ne (t := 59) (q := 34) dX4_mostOf_31 (by decide) rfl (fun c31 => ?_) (fun c31 => absurd (bo_nI (a := T) (k := i) (by omega)) (fun e => by rw [hTd] at e; exact absurd (e.symm.trans c31) (by decide)))
        refine x_iinc (L' := fun x3_59 => [(3, .int x3_59), (4, .int (nI S)), (0, .ref p), (1, .int (nI S)), (2, .int (nI T))]) (q := 62) dX4_mostOf_59 rfl rfl (by decide) (fun _ => rfl) (fun x3_59 ex3_59 => ?_)
        obtain rfl : x3_59 = nI (i + 1) := ex3_59.trans (nI_1 i)
        refine x_goto (q := 10) dX4_mostOf_62 (by decide) ?_
        refine x_pick (L' := [(3, .int (nI (i + 1))), (0, .ref p), (1, .int (nI S)), (2, .int (nI T))]) [0, 2, 3, 4] rfl ?_
        exact ih (i + 1) M h (by omega) hT0 (fun U hU hUS => by rw [hi U hU hUS, msk, if_pos hTd]) hf
    · refine l_Ma_of1 (t := t) (M0 := M0) hp hD9 hG hG0 hD0 hS hpr (show i < D by omega) (by simpa using hTd) (fun M9 h9 g1 g2 g3 => ?_) S S M h (Nat.le_refl _) hT0 hS (Nat.and_self S) (fun U hU hUS => by rw [hi U hU hUS, if_neg (by have : U ≤ S := hUS ▸ Nat.and_le_right; omega)]) hf
      refine x_iinc (L' := fun x3_59 => [(3, .int x3_59), (0, .ref p), (1, .int (nI S)), (2, .int (nI T))]) (q := 62) dX4_mostOf_59 rfl rfl (by decide) (fun _ => rfl) (fun x3_59 ex3_59 => ?_)
      obtain rfl : x3_59 = nI (i + 1) := ex3_59.trans (nI_1 i)
      refine x_goto (q := 10) dX4_mostOf_62 (by decide) ?_
      refine x_pick (L' := [(3, .int (nI (i + 1))), (0, .ref p), (1, .int (nI S)), (2, .int (nI T))]) [0, 1, 2, 3] rfl ?_
      exact ih (i + 1) M9 _ (by omega) g1 g2 g3
    

set_option maxHeartbeats 4000000 in
set_option maxRecDepth 100000 in
theorem c_Ma_of {n : Nat} {M : Nat → xE} {p S T G D : Nat} {t : Nat → Nat → Int32} {pr : Nat → Nat → Nat} (hp : p + 2 < n) (hD9 : D ≤ 9) (hG : G ≤ 5) (hG0 : t 1 0 = nI G) (hD0 : t 2 0 = nI D) (hS : S < 32) (hpr : ∀ j, j < G → ∀ d, d < D → t 3 (9 * j + d) = nI (pr j d) ∧ pr j d ≤ 20000) (hT : oX4 p t M) : xMet mX4_mostOf [.ref p, .int (nI S), .int (nI T)] n M (fun r M' => some (.int (nI (msk pr G T D S))) = r ∧ (∃ h, oX4 p (fun k => if k = 4 then h else t k) M') ∧ xfr p (p + 3) M M') := by
  obtain ⟨tp0, tp1, tp2⟩ := hT
  have hiX4 : ∀ w ∈ wsX40, w ∈ wsX4_mostOf := by decide +kernel
  refine xMet.of _ (by decide) rfl (Nat.le_of_ble_eq_true rfl) ?_
  refine x_aload_n (q := 1) dX4_mostOf_0 rfl rfl ?_
  refine x_getf (C := RX4) (T := TX4) (N := 5) (k := 4) (q := 4) tp0 (by omega) rfl hiX4 (by decide) (by decide +kernel) rfl dX4_mostOf_1 rfl ?_
  refine x_iconst (v := 0) (q := 5) dX4_mostOf_4 rfl (by decide) ?_
  refine x_callS (q := 8) (c_fillI (by omega) (by decide) tp2) eX4_mostOf_43 gX4_mostOf_J7_fill_53178 rfl (Nat.le_of_ble_eq_true rfl) ⟨Nat.le_refl _, Nat.le_refl _⟩ dX4_mostOf_5 rfl rfl (fun r5 M5 p5 => ?_)
  obtain ⟨rfl, w5, o5⟩ := p5
  refine x_iconst (v := 0) (q := 9) dX4_mostOf_8 rfl (by decide) ?_
  refine x_istore_n (L' := fun x3_9 => [(3, .int x3_9), (0, .ref p), (1, .int (nI S)), (2, .int (nI T))]) (q := 10) dX4_mostOf_9 rfl (by decide) (fun _ => rfl) (fun x3_9 ex3_9 => ?_)
  subst ex3_9
  exact l_Ma_of2 (M0 := M) hp hD9 hG hG0 hD0 hS hpr (fun M h h1 h2 => ⟨rfl, ⟨h, h1⟩, h2⟩) D 0 M5 (fun _ => 0) (by omega) ⟨(o5 _ (by omega)).trans tp0, (o5 _ (by omega)).trans tp1, w5⟩ (fun U _ _ => rfl) (fun j hj => o5 j (by omega))

