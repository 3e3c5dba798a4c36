theorem mmk_put (E : Nat → Nat → Bool) {k P R : Nat} (hk : k < P) (hR : R < 2 ^ k) : mwF E (mmk E P) k R k = mmk E P (R + 2 ^ k) := by
  obtain ⟨j, rfl⟩ : ∃ j, P = k + 1 + j := ⟨P - (k + 1), by omega⟩
  rw [mmk_up E (k := k + 1) (S := R + 2 ^ k) (by rw [Nat.pow_succ]; omega) j, mmk_at E hR]
  refine mwF_cong (fun S hS => ?_) k
  rw [Nat.add_assoc, mmk_up E (Nat.lt_of_le_of_lt hS hR)]
theorem p2k : ∀ k, k < 5 → 2 ^ k ≤ 16 := by decide
theorem p2P : ∀ k, k ≤ 5 → 2 ^ k ≤ 32 ∧ 1 ≤ 2 ^ k := by decide
set_option maxHeartbeats 4000000 in
set_option maxRecDepth 100000 in
theorem l_Co_best1 {n p q d P : Nat} {most l0 g0 : Int32} {f : Nat → Int32} {τ δ : Nat → Nat → Int32} {Q : Option Value → (Nat → xE) → Prop} {M0 : Nat → xE} (hpq : p + 3 ≤ q ∨ q + 11 ≤ p) (hpd : p + 3 ≤ d ∨ d + 4 ≤ p) (hp : p + 2 < n) (hq : q + 10 < n) (hd : d + 3 < n) (hP : P ≤ 5) (h0 : τ 0 0 = nI P) (hF : ∀ a, a < P → f a = nI (fbits (eM τ δ) a P)) {a : Nat} (ha : a < P) (hk : ∀ (M : Nat → xE) (h : Nat → Int32), M p = .inr (2, [.int most, .int l0, .int g0, .ref (p + 1), .ref (p + 2)]) → M (p + 1) = .inl (0, 5, .inl f) → M (p + 2) = .inl (0, 32, .inl h) → (∀ S, S < 2 ^ (a + 1) → h S = nI (mmk (eM τ δ) P S)) → oX8 q τ M → oX3 d δ M → xfr p (p + 3) M0 M → X mX2_takeUp 0 0 142 [(3, .int (nI a)), (0, .ref p), (1, .ref q), (2, .ref d)] [] n M Q) : ∀ (k i : Nat) (M : Nat → xE) (h : Nat → Int32), i + k = 2 ^ a → (M p = .inr (2, [.int most, .int l0, .int g0, .ref (p + 1), .ref (p + 2)])) → (M (p + 1) = .inl (0, 5, .inl f)) → (M (p + 2) = .inl (0, 32, .inl h)) → (∀ S, S < 2 ^ a + i → h S = nI (mmk (eM τ δ) P S)) → (oX8 q τ M) → (oX3 d δ M) → (xfr p (p + 3) M0 M) → X mX2_takeUp 0 0 110 [(4, .int (nI i)), (3, .int (nI a)), (0, .ref p), (1, .ref q), (2, .ref d)] [] n M (Q) := by
  have hiX2 : ∀ w ∈ wsX20, w ∈ wsX2_takeUp := by decide +kernel
  intro k
  induction k with
  | zero =>
    intro i M h hik hA h1 h2 hh hS hDd hf
    have hS0 : M q = .inr (8, [.int (nI P), .ref (q + 1), .ref (q + 2), .int (τ 3 0), .ref (q + 3), .ref (q + 4), .ref (q + 5), .ref (q + 6), .int (τ 8 0), .int (τ 9 0), .ref (q + 7), .ref (q + 8), .int (τ 12 0), .ref (q + 9), .ref (q + 10)]) := by rw [← h0]; exact hS.1
    have hpa := p2k a (by omega)
    have hsh : (1 : Int32) <<< (nI a &&& 31) = nI (2 ^ a) := xshl1 a (by omega)
    have hidx : nI i + (1 : Int32) <<< (nI a &&& 31) = nI (i + 2 ^ a) := by rw [hsh, nI_add]
    refine x_iload (q := 112) dX2_takeUp_110 rfl rfl ?_
    refine x_iconst (v := 1) (q := 113) dX2_takeUp_112 rfl (by decide) ?_
    refine x_iload_n (q := 114) dX2_takeUp_113 rfl rfl ?_
    refine x_ishl (q := 115) dX2_takeUp_114 rfl ?_
    refine x_icmp_ge (t := 142) (q := 118) dX2_takeUp_115 (by decide) rfl (fun c115 => ?_) (fun c115 => absurd (by rw [hsh]; exact nI_le (show 2 ^ a ≤ i by omega) (by omega)) c115)
    refine x_pick (L' := [(3, .int (nI a)), (0, .ref p), (1, .ref q), (2, .ref d)]) [1, 2, 3, 4] rfl ?_
    exact hk M h hA h1 h2 (fun S hS => hh S (by rw [Nat.pow_succ] at hS; omega)) hS hDd hf
  | succ k ih =>
    intro i M h hik hA h1 h2 hh hS hDd hf
    have hS0 : M q = .inr (8, [.int (nI P), .ref (q + 1), .ref (q + 2), .int (τ 3 0), .ref (q + 3), .ref (q + 4), .ref (q + 5), .ref (q + 6), .int (τ 8 0), .int (τ 9 0), .ref (q + 7), .ref (q + 8), .int (τ 12 0), .ref (q + 9), .ref (q + 10)]) := by rw [← h0]; exact hS.1
    have hpa := p2k a (by omega)
    have hsh : (1 : Int32) <<< (nI a &&& 31) = nI (2 ^ a) := xshl1 a (by omega)
    have hidx : nI i + (1 : Int32) <<< (nI a &&& 31) = nI (i + 2 ^ a) := by rw [hsh, nI_add]
    refine x_iload (q := 112) dX2_takeUp_110 rfl rfl ?_
    refine x_iconst (v := 1) (q := 113) dX2_takeUp_112 rfl (by decide) ?_
    refine x_iload_n (q := 114) dX2_takeUp_113 rfl rfl ?_
    refine x_ishl (q := 115) dX2_takeUp_114 rfl ?_
    refine x_icmp_ge (t := 142) (q := 118) dX2_takeUp_115 (by decide) rfl (fun c115 => absurd c115 (by rw [hsh]; exact nI_ge (a := i) (b := 2 ^ a) (by omega) (by omega))) (fun c115 => ?_)
    refine x_aload_n (q := 119) dX2_takeUp_118 rfl rfl ?_
    refine x_getf (C := RX2) (T := TX2) (N := 5) (k := 4) (q := 122) hA (by omega) rfl hiX2 (by decide) (by decide +kernel) rfl dX2_takeUp_119 rfl ?_
    refine x_iload (q := 124) dX2_takeUp_122 rfl rfl ?_
    refine x_iconst (v := 1) (q := 125) dX2_takeUp_124 rfl (by decide) ?_
    refine x_iload_n (q := 126) dX2_takeUp_125 rfl rfl ?_
    refine x_ishl (q := 127) dX2_takeUp_126 rfl ?_
    refine x_iadd (q := 128) dX2_takeUp_127 rfl ?_
    refine x_aload_n (q := 129) dX2_takeUp_128 rfl rfl ?_
    refine x_iload_n (q := 130) dX2_takeUp_129 rfl rfl ?_
    refine x_iload (q := 132) dX2_takeUp_130 rfl rfl ?_
    have hT9 : oX2 p (fun k => if k = 0 then (fun _ => most) else if k = 1 then (fun _ => l0) else if k = 2 then (fun _ => g0) else if k = 3 then f else h) M := ⟨hA, h1, h2⟩
    refine x_callV (q := 135) (ci := 2) (c_Co_with (E := eM τ δ) (g := mmk (eM τ δ) P) (P := P) hp (by omega) ha hP (by omega) (hF a ha) (fun S hS => hh S (by omega)) (fun S => Nat.le_trans (mmk_le _ P S) hP) hT9) eX2_takeUp_34 gX2_takeUp_X2_mostWith hA (by omega) rfl rfl rfl (Nat.le_of_ble_eq_true rfl) ⟨Nat.le_refl _, Nat.le_refl _⟩ dX2_takeUp_132 rfl rfl (fun r132 M132 p132 => ?_)
    obtain ⟨rfl, rfl⟩ := p132
    refine x_iast (q := 136) h2 (by omega) (by rw [hidx]; exact vp_in_nI (by omega) (by decide)) dX2_takeUp_135 rfl (fun M135 w135 o135 => ?_)
    refine x_iinc (L' := fun x4_136 => [(4, .int x4_136), (3, .int (nI a)), (0, .ref p), (1, .ref q), (2, .ref d)]) (q := 139) dX2_takeUp_136 rfl rfl (by decide) (fun _ => rfl) (fun x4_136 ex4_136 => ?_)
    obtain rfl : x4_136 = nI (i + 1) := ex4_136.trans (nI_1 i)
    refine x_goto (q := 110) dX2_takeUp_139 (by decide) ?_
    rw [hidx, nI_clamp (by omega), mmk_put (eM τ δ) ha (show i < 2 ^ a by omega)] at w135
    have hh2 : ∀ S, S < 2 ^ a + (i + 1) → upd h (i + 2 ^ a) (nI (mmk (eM τ δ) P (i + 2 ^ a))) S = nI (mmk (eM τ δ) P S) := by
      intro S hS
      by_cases e : S = i + 2 ^ a
      · rw [e, pk_us]
      · rw [pk_un e]; exact hh S (by omega)
    refine x_pick (L' := [(4, .int (nI (i + 1))), (3, .int (nI a)), (0, .ref p), (1, .ref q), (2, .ref d)]) [0, 1, 2, 3, 4] rfl ?_
    exact ih (i + 1) M135 _ (by omega) ((o135 _ (by omega)).trans hA) ((o135 _ (by omega)).trans h1) w135 hh2 (hS.keep (fun j h1 h2 => o135 j (by omega))) (hDd.keep (fun j h1 h2 => o135 j (by omega))) (fun j hj => (o135 j (by omega)).trans (hf j hj))

set_option maxHeartbeats 4000000 in
set_option maxRecDepth 100000 in
theorem l_Co_best2 {n p q d P : Nat} {most l0 g0 : Int32} {f : Nat → Int32} {τ δ : Nat → Nat → Int32} {Q : Option Value → (Nat → xE) → Prop} {M0 : Nat → xE} (hpq : p + 3 ≤ q ∨ q + 11 ≤ p) (hpd : p + 3 ≤ d ∨ d + 4 ≤ p) (hp : p + 2 < n) (hq : q + 10 < n) (hd : d + 3 < n) (hP : P ≤ 5) (h0 : τ 0 0 = nI P) (hF : ∀ a, a < P → f a = nI (fbits (eM τ δ) a P)) (hk : ∀ (M : Nat → xE) (h : Nat → Int32), M p = .inr (2, [.int most, .int l0, .int g0, .ref (p + 1), .ref (p + 2)]) → M (p + 1) = .inl (0, 5, .inl f) → M (p + 2) = .inl (0, 32, .inl h) → (∀ S, S < 2 ^ P → h S = nI (mmk (eM τ δ) P S)) → oX8 q τ M → oX3 d δ M → xfr p (p + 3) M0 M → X mX2_takeUp 0 0 148 [(3, .int (nI P)), (0, .ref p), (1, .ref q), (2, .ref d)] [] n M Q) : ∀ (k i : Nat) (M : Nat → xE) (h : Nat → Int32), i + k = P → (M p = .inr (2, [.int most, .int l0, .int g0, .ref (p + 1), .ref (p + 2)])) → (M (p + 1) = .inl (0, 5, .inl f)) → (M (p + 2) = .inl (0, 32, .inl h)) → (∀ S, S < 2 ^ i → h S = nI (mmk (eM τ δ) P S)) → (oX8 q τ M) → (oX3 d δ M) → (xfr p (p + 3) M0 M) → X mX2_takeUp 0 0 99 [(3, .int (nI i)), (0, .ref p), (1, .ref q), (2, .ref d)] [] n M (Q) := by
  have hiX8 : ∀ w ∈ wsX80, w ∈ wsX2_takeUp := by decide +kernel
  intro k
  induction k with
  | zero =>
    intro i M h hik hA h1 h2 hh hS hDd hf
    have hS0 : M q = .inr (8, [.int (nI P), .ref (q + 1), .ref (q + 2), .int (τ 3 0), .ref (q + 3), .ref (q + 4), .ref (q + 5), .ref (q + 6), .int (τ 8 0), .int (τ 9 0), .ref (q + 7), .ref (q + 8), .int (τ 12 0), .ref (q + 9), .ref (q + 10)]) := by rw [← h0]; exact hS.1
    refine x_iload_n (q := 100) dX2_takeUp_99 rfl rfl ?_
    refine x_aload_n (q := 101) dX2_takeUp_100 rfl rfl ?_
    refine x_getf (C := RX8) (T := TX8) (N := 15) (k := 0) (q := 104) hS0 (by omega) rfl hiX8 (by decide) (by decide +kernel) rfl dX2_takeUp_101 rfl ?_
    refine x_icmp_ge (t := 148) (q := 107) dX2_takeUp_104 (by decide) rfl (fun c104 => ?_) (fun c104 => absurd (by rw [show i = P by omega]; exact nI_le (Nat.le_refl _) (by omega)) c104)
    have e9 : i = P := by omega
    subst e9
    exact hk M h hA h1 h2 hh hS hDd hf
  | succ k ih =>
    intro i M h hik hA h1 h2 hh hS hDd hf
    have hS0 : M q = .inr (8, [.int (nI P), .ref (q + 1), .ref (q + 2), .int (τ 3 0), .ref (q + 3), .ref (q + 4), .ref (q + 5), .ref (q + 6), .int (τ 8 0), .int (τ 9 0), .ref (q + 7), .ref (q + 8), .int (τ 12 0), .ref (q + 9), .ref (q + 10)]) := by rw [← h0]; exact hS.1
    refine x_iload_n (q := 100) dX2_takeUp_99 rfl rfl ?_
    refine x_aload_n (q := 101) dX2_takeUp_100 rfl rfl ?_
    refine x_getf (C := RX8) (T := TX8) (N := 15) (k := 0) (q := 104) hS0 (by omega) rfl hiX8 (by decide) (by decide +kernel) rfl dX2_takeUp_101 rfl ?_
    refine x_icmp_ge (t := 148) (q := 107) dX2_takeUp_104 (by decide) rfl (fun c104 => absurd c104 (nI_ge (a := i) (b := P) (by omega) (by omega))) (fun c104 => ?_)
    refine x_iconst (v := 0) (q := 108) dX2_takeUp_107 rfl (by decide) ?_
    refine x_istore (L' := fun x4_108 => [(4, .int x4_108), (3, .int (nI i)), (0, .ref p), (1, .ref q), (2, .ref d)]) (q := 110) dX2_takeUp_108 rfl (by decide) (fun _ => rfl) (fun x4_108 ex4_108 => ?_)
    subst ex4_108
    refine l_Co_best1 (a := i) (M0 := M0) hpq hpd hp hq hd hP h0 hF (show i < P by omega) (fun M9 h9 g1 g2 g3 g4 g5 g6 g7 => ?_) (2 ^ i) 0 M h (by omega) hA h1 h2 (by simpa using hh) hS hDd hf
    refine x_iinc (L' := fun x3_142 => [(3, .int x3_142), (0, .ref p), (1, .ref q), (2, .ref d)]) (q := 145) dX2_takeUp_142 rfl rfl (by decide) (fun _ => rfl) (fun x3_142 ex3_142 => ?_)
    obtain rfl : x3_142 = nI (i + 1) := ex3_142.trans (nI_1 i)
    refine x_goto (q := 99) dX2_takeUp_145 (by decide) ?_
    refine x_pick (L' := [(3, .int (nI (i + 1))), (0, .ref p), (1, .ref q), (2, .ref d)]) [0, 1, 2, 3] rfl ?_
    exact ih (i + 1) M9 _ (by omega) g1 g2 g3 g4 g5 g6 g7
    

theorem mmk_0 (E : Nat → Nat → Bool) : ∀ k, mmk E k 0 = 0
  | 0 => rfl
  | k + 1 => by rw [mmk, if_neg (by rw [Nat.zero_testBit]; decide), mmk_0 E k]
/-- what pairs() finds -/
def coM (τ δ : Nat → Nat → Int32) (P : Nat) : Nat := mmk (eM τ δ) P (2 ^ P - 1)
def coP (τ δ : Nat → Nat → Int32) (P : Nat) : Option (Nat × Nat) := fpOut (eM τ δ) (coM τ δ P) P P 0
set_option maxHeartbeats 4000000 in
set_option maxRecDepth 100000 in
theorem c_Co_take {n : Nat} {M : Nat → xE} {p q d P : Nat} {t τ δ : Nat → Nat → Int32} (hpq : p + 3 ≤ q ∨ q + 11 ≤ p) (hpd : p + 3 ≤ d ∨ d + 4 ≤ p) (hp : p + 2 < n) (hq : q + 10 < n) (hd : d + 3 < n) (hP : P ≤ 5) (h0 : τ 0 0 = nI P) (hb0 : t 4 0 = 0) (hT : oX2 p t M) (hS : oX8 q τ M) (hDd : oX3 d δ M) : xMet mX2_takeUp [.ref p, .ref q, .ref d] n M (fun r M' => none = r ∧ (∃ t', oX2 p t' M' ∧ t' 4 0 = 0 ∧ t' 0 0 = nI (coM τ δ P) ∧ t' 1 0 = fpA (coP τ δ P) ∧ t' 2 0 = fpB (coP τ δ P)) ∧ xfr p (p + 3) M M') := by
  obtain ⟨hA, h1, h2⟩ := hT
  have hiX2 : ∀ w ∈ wsX20, w ∈ wsX2_takeUp := by decide +kernel
  have hiX8 : ∀ w ∈ wsX80, w ∈ wsX2_takeUp := by decide +kernel
  refine xMet.of _ (by decide) rfl (Nat.le_of_ble_eq_true rfl) ?_
  refine x_iconst (v := 0) (q := 1) dX2_takeUp_0 rfl (by decide) ?_
  refine x_istore_n (L' := fun x3_1 => [(3, .int x3_1), (0, .ref p), (1, .ref q), (2, .ref d)]) (q := 2) dX2_takeUp_1 rfl (by decide) (fun _ => rfl) (fun x3_1 ex3_1 => ?_)
  subst ex3_1
  refine l_Co_fr2 (M0 := M) hpq hpd hp hq hd hP h0 (fun M97 k1 k2 k3 k4 k5 k6 => ?_) P 0 M (by omega) hA (by rw [h1]; rfl) h2 hS hDd (fun j _ => rfl)
  refine x_iconst (v := 0) (q := 98) dX2_takeUp_97 rfl (by decide) ?_
  refine x_istore_n (L' := fun x3_98 => [(3, .int x3_98), (0, .ref p), (1, .ref q), (2, .ref d)]) (q := 99) dX2_takeUp_98 rfl (by decide) (fun _ => rfl) (fun x3_98 ex3_98 => ?_)
  subst ex3_98
  refine l_Co_best2 (M0 := M) hpq hpd hp hq hd hP h0 (fun a ha => show fR (eM τ δ) P (t 3) P a = _ from if_pos ha) (fun M148 h148 g1 g2 g3 g4 g5 g6 g7 => ?_) P 0 M97 (t 4) (by omega) k1 k2 k3 (fun S hS => by rw [show S = 0 by have : S < 1 := hS; omega, hb0]; exact congrArg nI (mmk_0 (eM τ δ) P).symm) k4 k5 k6
  have q0 : M148 q = .inr (8, [.int (nI P), .ref (q + 1), .ref (q + 2), .int (τ 3 0), .ref (q + 3), .ref (q + 4), .ref (q + 5), .ref (q + 6), .int (τ 8 0), .int (τ 9 0), .ref (q + 7), .ref (q + 8), .int (τ 12 0), .ref (q + 9), .ref (q + 10)]) := by rw [← h0]; exact g5.1
  have hpp := p2P P hP
  have hsh : (1 : Int32) <<< (nI P &&& 31) - 1 = nI (2 ^ P - 1) := by rw [xshl1 P (by omega)]; exact pk_sub hpp.2
  refine x_aload_n (q := 149) dX2_takeUp_148 rfl rfl ?_
  refine x_aload_n (q := 150) dX2_takeUp_149 rfl rfl ?_
  refine x_getf (C := RX2) (T := TX2) (N := 5) (k := 4) (q := 153) g1 (by omega) rfl hiX2 (by decide) (by decide +kernel) rfl dX2_takeUp_150 rfl ?_
  refine x_iconst (v := 1) (q := 154) dX2_takeUp_153 rfl (by decide) ?_
  refine x_aload_n (q := 155) dX2_takeUp_154 rfl rfl ?_
  refine x_getf (C := RX8) (T := TX8) (N := 15) (k := 0) (q := 158) q0 (by omega) rfl hiX8 (by decide) (by decide +kernel) rfl dX2_takeUp_155 rfl ?_
  refine x_ishl (q := 159) dX2_takeUp_158 rfl ?_
  refine x_iconst (v := 1) (q := 160) dX2_takeUp_159 rfl (by decide) ?_
  refine x_isub (q := 161) dX2_takeUp_160 rfl ?_
  refine x_iald (q := 162) g3 (by omega) (by rw [hsh]; exact vp_in_nI (by omega) (by decide)) dX2_takeUp_161 rfl ?_
  refine x_put (C := RX2) (T := TX2) (N := 5) (k := 0) (q := 165) (ty := .int) tyX2_ok nmX2 g1 (by omega) rfl hiX2 (by decide) (by decide +kernel) rfl (by decide +kernel) (fun _ => rfl) (fun _ => rfl) (Nat.le_of_ble_eq_true rfl) dX2_takeUp_162 rfl (fun M162 w162 o162 => ?_)
  refine x_aload_n (q := 166) dX2_takeUp_165 rfl rfl ?_
  refine x_aload_n (q := 167) dX2_takeUp_166 rfl rfl ?_
  have hv1_1_q := ((o162 (q) (by omega)).trans q0)
  refine x_getf (C := RX8) (T := TX8) (N := 15) (k := 0) (q := 170) hv1_1_q (by omega) rfl hiX8 (by decide) (by decide +kernel) rfl dX2_takeUp_167 rfl ?_
  rw [hsh, nI_clamp (by omega), g4 _ (by omega)] at w162
  have hv1_2_p1 := ((o162 (p + 1) (by omega)).trans g2)
  have hv1_3_p2 := ((o162 (p + 2) (by omega)).trans g3)
  refine x_callV (q := 173) (ci := 2) (c_Co_first (E := eM τ δ) (most := mmk (eM τ δ) P (2 ^ P - 1)) hp hP (Nat.le_trans (mmk_le _ P _) hP) (fun a ha => show fR (eM τ δ) P (t 3) P a = _ from if_pos ha) g4 w162 hv1_2_p1 hv1_3_p2) eX2_takeUp_41 gX2_takeUp_X2_findFirstPair w162 (by omega) rfl rfl rfl (Nat.le_of_ble_eq_true rfl) ⟨Nat.le_refl _, Nat.le_refl _⟩ dX2_takeUp_170 rfl rfl (fun r170 M170 p170 => ?_)
  obtain ⟨rfl, z0, z1, z2, z3⟩ := p170
  refine x_vret dX2_takeUp_173 rfl rfl (Nat.le_refl _) ?_
  refine ⟨rfl, ⟨fun k => if k = 0 then (fun _ => nI (coM τ δ P)) else if k = 1 then (fun _ => fpA (coP τ δ P)) else if k = 2 then (fun _ => fpB (coP τ δ P)) else if k = 3 then fR (eM τ δ) P (t 3) P else h148, ⟨z0, z1, z2⟩, ?_, rfl, rfl, rfl⟩, fun j hj => (z3 j hj).trans ((o162 j (by omega)).trans (g7 j hj))⟩
  show h148 0 = 0
  rw [g4 0 (by omega), mmk_0]; rfl
  
  

