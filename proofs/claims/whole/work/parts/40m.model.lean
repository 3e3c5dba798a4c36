def e1 (w j : Nat) : Nat := if j = w then 1 else 0
theorem gN_le {τ : Nat → Nat → Int32} {P W G C : Nat} (hk : TOK τ P W G) {f : Nat → Nat} (h : ∀ j, f j ≤ C) (j : Nat) : gN τ f j ≤ 40 * C := by
  have h2 : gNk τ f 4 j ≤ 4 * (10 * C) := by
    apply fb_sm_bound
    intro i hi
    have hc := ch_lt hk hi
    have hm : f i * 10 ≤ C * 10 := Nat.mul_le_mul (h i) (Nat.le_refl _)
    have e : f i * chN τ i + f i * (10 - chN τ i) = f i * 10 := by rw [← Nat.mul_add]; congr 1; omega
    split <;> split <;> omega
  show gNk τ f 4 j ≤ _
  omega
theorem gNi_le {τ : Nat → Nat → Int32} {P W G C : Nat} (hk : TOK τ P W G) {f : Nat → Nat} (h : ∀ j, f j ≤ C) : ∀ k j, gNi τ f k j ≤ 40 ^ k * C := by
  intro k
  induction k with
  | zero => intro j; rw [Nat.pow_zero, Nat.one_mul]; exact h j
  | succ k ih =>
    intro j
    have := gN_le hk ih j
    rw [Nat.pow_succ, Nat.mul_comm (40 ^ k) 40, Nat.mul_assoc]
    exact this
def mOdds (τ δ : Nat → Nat → Int32) (a b c : Int32) : Int64 := if inB a 4 = true then (if inB b 10 = true then (if inB c 2 = true then (if c = 0 then lN (gNi τ (e1 (δ 1 0).toNatClampNeg) b.toNatClampNeg a.toNatClampNeg / Nat.gcd (gNi τ (e1 (δ 1 0).toNatClampNeg) b.toNatClampNeg a.toNatClampNeg) (10 ^ b.toNatClampNeg)) else lN (10 ^ b.toNatClampNeg / Nat.gcd (gNi τ (e1 (δ 1 0).toNatClampNeg) b.toNatClampNeg a.toNatClampNeg) (10 ^ b.toNatClampNeg))) else -3) else -3) else -2
theorem pw63 {k : Nat} (h : k ≤ 10) : 40 ^ k * 1 < 2 ^ 62 ∧ 10 ^ k < 2 ^ 62 ∧ 0 < 10 ^ k ∧ 4 * 40 ^ k * 1 < 2 ^ 62 := by
  have h1 : 40 ^ k ≤ 40 ^ 10 := Nat.pow_le_pow_right (by decide) h
  have h2 : 10 ^ k ≤ 10 ^ 10 := Nat.pow_le_pow_right (by decide) h
  have h3 : 0 < 10 ^ k := Nat.pow_pos (by decide)
  have e1 : 40 ^ 10 < 2 ^ 58 := by decide
  have e2 : 10 ^ 10 < 2 ^ 58 := by decide
  omega
set_option maxHeartbeats 4000000 in
set_option maxRecDepth 100000 in
theorem l_m_odds1 {n P W G wd a1 b1 : Nat} {c : Int32} {t τ δ : Nat → Nat → Int32} {u : Nat → Nat → Int64} {Q : Option Value → (Nat → xE) → Prop} {M0 : Nat → xE} (hn : 113 < n) (hw : RT τ P W G (t 0)) (hd : ∀ k, k < 22 → t 1 k = dv δ k) (hk : TOK τ P W G) (hwd : wd < 4) (hwd0 : δ 1 0 = nI wd) (hb1 : b1 < 10) (hk1 : ∀ M, oX11 99 t (uT u (ldJ (fun j => lN (e1 wd j)) (u 14) 4) (u 15)) M → xfr 99 114 M0 M → X mX11_odds 0 0 76 [(6, .int (nI 4)), (4, .long 1), (0, .ref 99), (1, .int (nI a1)), (2, .int (nI b1)), (3, .int c)] [] n M Q) : ∀ (k i : Nat) (M : Nat → xE), i + k = 4 → (oX11 99 t (uT u (ldJ (fun j => lN (e1 wd j)) (u 14) i) (u 15)) M) → (xfr 99 114 M0 M) → X mX11_odds 0 0 40 [(6, .int (nI i)), (4, .long 1), (0, .ref 99), (1, .int (nI a1)), (2, .int (nI b1)), (3, .int c)] [] n M (Q) := by
  have hiX11 : ∀ w ∈ wsX110, w ∈ wsX11_odds := by decide +kernel
  intro k
  induction k with
  | zero =>
    intro i M hik hM hf
    have hM0 := hM
    obtain ⟨mp0, mp1, mp2, mp3, mp4, mp5, mp6, mp7, mp8, mp9, mp10, mp11, mp12, mp13, mp14⟩ := hM
    have mp6 : M (99 + 6) = .inl (1, 4, .inr (.inl (ldJ (fun j => lN (e1 wd j)) (u 14) i))) := mp6
    refine x_iload (q := 42) dX11_odds_40 rfl rfl ?_
    refine x_iconst (v := 4) (q := 43) dX11_odds_42 rfl (by decide) ?_
    refine x_icmp_ge (t := 76) (q := 46) dX11_odds_43 (by decide) rfl (fun c43 => ?_) (fun c43 => absurd (by rw [show i = 4 by omega]; exact nI_le (Nat.le_refl _) (by omega)) c43)
    have e9 : i = 4 := by omega
    subst e9
    exact hk1 M hM0 hf
  | succ k ih =>
    intro i M hik hM hf
    have hM0 := hM
    obtain ⟨mp0, mp1, mp2, mp3, mp4, mp5, mp6, mp7, mp8, mp9, mp10, mp11, mp12, mp13, mp14⟩ := hM
    have mp6 : M (99 + 6) = .inl (1, 4, .inr (.inl (ldJ (fun j => lN (e1 wd j)) (u 14) i))) := mp6
    refine x_iload (q := 42) dX11_odds_40 rfl rfl ?_
    refine x_iconst (v := 4) (q := 43) dX11_odds_42 rfl (by decide) ?_
    refine x_icmp_ge (t := 76) (q := 46) dX11_odds_43 (by decide) rfl (fun c43 => absurd c43 (nI_ge (a := i) (b := 4) (by omega) (by omega))) (fun c43 => ?_)
    refine x_aload_n (q := 47) dX11_odds_46 rfl rfl ?_
    refine x_getf (C := RX11) (T := TX11) (N := 29) (k := 14) (q := 50) mp0 (by omega) rfl hiX11 (by decide) (by decide +kernel) rfl dX11_odds_47 rfl ?_
    refine x_iload (q := 52) dX11_odds_50 rfl rfl ?_
    refine x_iload (q := 54) dX11_odds_52 rfl rfl ?_
    refine x_aload_n (q := 55) dX11_odds_54 rfl rfl ?_
    refine x_getf (C := RX11) (T := TX11) (N := 29) (k := 1) (q := 58) mp0 (by omega) rfl hiX11 (by decide) (by decide +kernel) rfl dX11_odds_55 rfl ?_
    refine x_bipush (v := 21) (q := 60) dX11_odds_58 rfl (by decide) ?_
    refine x_iald (q := 61) mp2 (by omega) (ixI (show (21 : Int32) = nI 21 from rfl) (by omega) (by decide)) dX11_odds_60 rfl ?_
    rw [ixC (show (21 : Int32) = nI 21 from rfl) (by omega)]
    rw [show t 1 21 = nI wd from (rdworld hd).trans hwd0]
    refine x_icmp_ne (t := 68) (q := 64) dX11_odds_61 (by decide) rfl (fun c61 => ?_) (fun c61 => ?_)
    · refine x_lconst (v := 0) (q := 69) dX11_odds_68 rfl (by decide) ?_
      refine x_last (q := 70) mp6 (by omega) (ixI (show (nI i : Int32) = nI i from rfl) (by omega) (by decide)) dX11_odds_69 rfl (fun M69 w69 o69 => ?_)
      rw [ixC (show (nI i : Int32) = nI i from rfl) (by omega)] at w69
      refine x_iinc (L' := fun x6_70 => [(6, .int x6_70), (4, .long 1), (0, .ref 99), (1, .int (nI a1)), (2, .int (nI b1)), (3, .int c)]) (q := 73) dX11_odds_70 rfl rfl (by decide) (fun _ => rfl) (fun x6_70 ex6_70 => ?_)
      obtain rfl : x6_70 = nI (i + 1) := ex6_70.trans (nI_1 i)
      refine x_goto (q := 40) dX11_odds_73 (by decide) ?_
      rw [ldJ_s (fun j => lN (e1 wd j)) (u 14) i (by show _ = lN (e1 wd i); unfold e1; first | (rw [if_pos ((nIne (by omega) (by omega)).mp c61)]; rfl) | (rw [if_neg (fun h => c61 (by rw [h]))]; rfl))] at w69
      have hv1_1_99 := ((o69 (99) (by omega)).trans mp0)
      have hv1_2_100 := ((o69 (100) (by omega)).trans mp1)
      have hv1_3_101 := ((o69 (101) (by omega)).trans mp2)
      have hv1_4_102 := ((o69 (102) (by omega)).trans mp3)
      have hv1_5_103 := ((o69 (103) (by omega)).trans mp4)
      have hv1_6_104 := ((o69 (104) (by omega)).trans mp5)
      have hv1_7_106 := ((o69 (106) (by omega)).trans mp7)
      have hv1_8_107 := ((o69 (107) (by omega)).trans mp8)
      have hv1_9_108 := ((o69 (108) (by omega)).trans mp9)
      have hv1_10_109 := ((o69 (109) (by omega)).trans mp10)
      have hv1_11_110 := ((o69 (110) (by omega)).trans mp11)
      have hv1_12_111 := ((o69 (111) (by omega)).trans mp12)
      have hv1_13_112 := ((o69 (112) (by omega)).trans mp13)
      have hv1_14_113 := ((o69 (113) (by omega)).trans mp14)
      refine x_pick (L' := [(6, .int (nI (i + 1))), (4, .long 1), (0, .ref 99), (1, .int (nI a1)), (2, .int (nI b1)), (3, .int c)]) [0, 1, 2, 3, 4, 5] rfl ?_
      exact ih (i + 1) M69 (by omega) ⟨hv1_1_99, hv1_2_100, hv1_3_101, hv1_4_102, hv1_5_103, hv1_6_104, w69, hv1_7_106, hv1_8_107, hv1_9_108, hv1_10_109, hv1_11_110, hv1_12_111, hv1_13_112, hv1_14_113⟩ (fun j hj => ((o69 j (by omega)).trans (hf j hj)))
    · refine x_lconst (v := 1) (q := 65) dX11_odds_64 rfl (by decide) ?_
      refine x_goto (q := 69) dX11_odds_65 (by decide) ?_
      refine x_last (q := 70) mp6 (by omega) (ixI (show (nI i : Int32) = nI i from rfl) (by omega) (by decide)) dX11_odds_69 rfl (fun M69 w69 o69 => ?_)
      rw [ixC (show (nI i : Int32) = nI i from rfl) (by omega)] at w69
      refine x_iinc (L' := fun x6_70 => [(6, .int x6_70), (4, .long 1), (0, .ref 99), (1, .int (nI a1)), (2, .int (nI b1)), (3, .int c)]) (q := 73) dX11_odds_70 rfl rfl (by decide) (fun _ => rfl) (fun x6_70 ex6_70 => ?_)
      obtain rfl : x6_70 = nI (i + 1) := ex6_70.trans (nI_1 i)
      refine x_goto (q := 40) dX11_odds_73 (by decide) ?_
      rw [ldJ_s (fun j => lN (e1 wd j)) (u 14) i (by show _ = lN (e1 wd i); unfold e1; first | (rw [if_pos ((nIne (by omega) (by omega)).mp c61)]; rfl) | (rw [if_neg (fun h => c61 (by rw [h]))]; rfl))] at w69
      have hv1_1_99 := ((o69 (99) (by omega)).trans mp0)
      have hv1_2_100 := ((o69 (100) (by omega)).trans mp1)
      have hv1_3_101 := ((o69 (101) (by omega)).trans mp2)
      have hv1_4_102 := ((o69 (102) (by omega)).trans mp3)
      have hv1_5_103 := ((o69 (103) (by omega)).trans mp4)
      have hv1_6_104 := ((o69 (104) (by omega)).trans mp5)
      have hv1_7_106 := ((o69 (106) (by omega)).trans mp7)
      have hv1_8_107 := ((o69 (107) (by omega)).trans mp8)
      have hv1_9_108 := ((o69 (108) (by omega)).trans mp9)
      have hv1_10_109 := ((o69 (109) (by omega)).trans mp10)
      have hv1_11_110 := ((o69 (110) (by omega)).trans mp11)
      have hv1_12_111 := ((o69 (111) (by omega)).trans mp12)
      have hv1_13_112 := ((o69 (112) (by omega)).trans mp13)
      have hv1_14_113 := ((o69 (113) (by omega)).trans mp14)
      refine x_pick (L' := [(6, .int (nI (i + 1))), (4, .long 1), (0, .ref 99), (1, .int (nI a1)), (2, .int (nI b1)), (3, .int c)]) [0, 1, 2, 3, 4, 5] rfl ?_
      exact ih (i + 1) M69 (by omega) ⟨hv1_1_99, hv1_2_100, hv1_3_101, hv1_4_102, hv1_5_103, hv1_6_104, w69, hv1_7_106, hv1_8_107, hv1_9_108, hv1_10_109, hv1_11_110, hv1_12_111, hv1_13_112, hv1_14_113⟩ (fun j hj => ((o69 j (by omega)).trans (hf j hj)))

set_option maxHeartbeats 4000000 in
set_option maxRecDepth 100000 in
theorem l_m_odds2 {n P W G wd a1 b1 : Nat} {c : Int32} {t τ δ : Nat → Nat → Int32} {u : Nat → Nat → Int64} {Q : Option Value → (Nat → xE) → Prop} {M0 : Nat → xE} (hn : 113 < n) (hw : RT τ P W G (t 0)) (hd : ∀ k, k < 22 → t 1 k = dv δ k) (hk : TOK τ P W G) (hwd : wd < 4) (hwd0 : δ 1 0 = nI wd) (hb1 : b1 < 10) (hk1 : ∀ M h, oX11 99 t (uT u (fun j => lN (gNi τ (e1 wd) b1 j)) h) M → xfr 99 114 M0 M → X mX11_odds 0 0 103 [(6, .int (nI b1)), (4, .long (lN (10 ^ b1))), (0, .ref 99), (1, .int (nI a1)), (2, .int (nI b1)), (3, .int c)] [] n M Q) : ∀ (k i : Nat) (M : Nat → xE) (h : Nat → Int64), i + k = b1 → (oX11 99 t (uT u (fun j => lN (gNi τ (e1 wd) i j)) h) M) → (xfr 99 114 M0 M) → X mX11_odds 0 0 79 [(6, .int (nI i)), (4, .long (lN (10 ^ i))), (0, .ref 99), (1, .int (nI a1)), (2, .int (nI b1)), (3, .int c)] [] n M (Q) := by
  intro k
  induction k with
  | zero =>
    intro i M h hik hM hf
    have hM0 := hM
    obtain ⟨mp0, mp1, mp2, mp3, mp4, mp5, mp6, mp7, mp8, mp9, mp10, mp11, mp12, mp13, mp14⟩ := hM
    refine x_iload (q := 81) dX11_odds_79 rfl rfl ?_
    refine x_iload_n (q := 82) dX11_odds_81 rfl rfl ?_
    refine x_icmp_ge (t := 103) (q := 85) dX11_odds_82 (by decide) rfl (fun c82 => ?_) (fun c82 => absurd (by rw [show i = b1 by omega]; exact nI_le (Nat.le_refl _) (by omega)) c82)
    have e9 : i = b1 := by omega
    subst e9
    exact hk1 M h hM0 hf
  | succ k ih =>
    intro i M h hik hM hf
    have hM0 := hM
    obtain ⟨mp0, mp1, mp2, mp3, mp4, mp5, mp6, mp7, mp8, mp9, mp10, mp11, mp12, mp13, mp14⟩ := hM
    refine x_iload (q := 81) dX11_odds_79 rfl rfl ?_
    refine x_iload_n (q := 82) dX11_odds_81 rfl rfl ?_
    refine x_icmp_ge (t := 103) (q := 85) dX11_odds_82 (by decide) rfl (fun c82 => absurd c82 (nI_ge (a := i) (b := b1) (by omega) (by omega))) (fun c82 => ?_)
    refine x_aload_n (q := 86) dX11_odds_85 rfl rfl ?_
    refine x_callV (q := 89) (ci := 11) (c_m_spreads (t := t) (u := uT u (fun j => lN (gNi τ (e1 wd) i j)) h) (f := gNi τ (e1 wd) i) hn hM0 hw hk (fun j hj => rfl)) eX11_odds_251 gX11_odds_X11_spreads mp0 (by omega) rfl rfl rfl (Nat.le_of_ble_eq_true rfl) ⟨Nat.le_refl _, Nat.le_refl _⟩ dX11_odds_86 rfl rfl (fun r86 M86 p86 => ?_)
    obtain ⟨rfl, ⟨h2, hV86⟩, fr86⟩ := p86
    have hU86 := hV86
    obtain ⟨y86_0, y86_1, y86_2, y86_3, y86_4, y86_5, y86_6, y86_7, y86_8, y86_9, y86_10, y86_11, y86_12, y86_13, y86_14⟩ := hV86
    refine x_lload (q := 91) dX11_odds_89 rfl rfl ?_
    refine x_ldc2 (v := 10) (q := 94) (by decide +kernel) dX11_odds_91 rfl ?_
    refine x_lmul (q := 95) dX11_odds_94 rfl ?_
    refine x_lstore (L' := fun x4_95 => [(4, .long x4_95), (6, .int (nI i)), (0, .ref 99), (1, .int (nI a1)), (2, .int (nI b1)), (3, .int c)]) (q := 97) dX11_odds_95 rfl (by decide) (fun _ => rfl) (fun x4_95 ex4_95 => ?_)
    obtain rfl : x4_95 = lN (10 ^ (i + 1)) := ex4_95.trans (by rw [show (10 : Int64) = lN 10 from rfl, lN_mul, Nat.pow_succ])
    refine x_iinc (L' := fun x6_97 => [(6, .int x6_97), (4, .long (lN (10 ^ (i + 1)))), (0, .ref 99), (1, .int (nI a1)), (2, .int (nI b1)), (3, .int c)]) (q := 100) dX11_odds_97 rfl rfl (by decide) (fun _ => rfl) (fun x6_97 ex6_97 => ?_)
    obtain rfl : x6_97 = nI (i + 1) := ex6_97.trans (nI_1 i)
    refine x_goto (q := 79) dX11_odds_100 (by decide) ?_
    refine x_pick (L' := [(6, .int (nI (i + 1))), (4, .long (lN (10 ^ (i + 1)))), (0, .ref 99), (1, .int (nI a1)), (2, .int (nI b1)), (3, .int c)]) [0, 1, 2, 3, 4, 5] rfl ?_
    exact ih (i + 1) M86 h2 (by omega) hU86 (fun j hj => (fr86 j hj).trans (hf j hj))

set_option maxHeartbeats 4000000 in
set_option maxRecDepth 100000 in
theorem c_m_odds {n : Nat} {M : Nat → xE} {t : Nat → Nat → Int32} {u : Nat → Nat → Int64} (hn : 113 < n) (hM : oX11 99 t u M) {τ : Nat → Nat → Int32} {P W G : Nat} (hw : RT τ P W G (t 0)) {δ : Nat → Nat → Int32} (hd : ∀ k, k < 22 → t 1 k = dv δ k) (hk : TOK τ P W G) {wd : Nat} (hwd : wd < 4) (hwd0 : δ 1 0 = nI wd) {a b c : Int32} : xMet mX11_odds [.ref 99, .int a, .int b, .int c] n M (fun r M' => some (.long (mOdds τ δ a b c)) = r ∧ (∃ u', oX11 99 t u' M') ∧ xfr 99 114 M M') := by
  have hM0 := hM
  obtain ⟨mp0, mp1, mp2, mp3, mp4, mp5, mp6, mp7, mp8, mp9, mp10, mp11, mp12, mp13, mp14⟩ := hM
  have hiX11 : ∀ w ∈ wsX110, w ∈ wsX11_odds := by decide +kernel
  refine xMet.of _ (by decide) rfl (Nat.le_of_ble_eq_true rfl) ?_
  refine x_iload_n (q := 1) dX11_odds_0 rfl rfl ?_
  refine x_callS (q := 4) c_m_isWorld eX11_odds_244 gX11_odds_X11_isWorld rfl (Nat.le_of_ble_eq_true rfl) ⟨Nat.le_refl _, Nat.le_refl _⟩ dX11_odds_1 rfl rfl (fun r1 M1 p1 => ?_)
  obtain ⟨rfl, p1⟩ := p1
  rcases p1 with ⟨b1, rfl⟩ | ⟨b1, rfl⟩
  · have hA1 := b1
    obtain ⟨a1, ha1, ea1⟩ := vp_in_of (inB_t.mp (b1)) (by decide)
    subst ea1
    refine x_if_ne (t := 11) (q := 7) dX11_odds_4 (by decide) rfl (fun c4 => ?_) (fun c4 => absurd c4 (by decide))
    refine x_iload_n (q := 12) dX11_odds_11 rfl rfl ?_
    refine x_i2l (q := 13) dX11_odds_12 rfl ?_
    refine x_lconst (v := 0) (q := 14) dX11_odds_13 rfl (by decide) ?_
    refine x_ldc2 (v := 9) (q := 17) (by decide +kernel) dX11_odds_14 rfl ?_
    refine x_callS (q := 20) c_m_in eX11_odds_65 gX11_odds_X11_in rfl (Nat.le_of_ble_eq_true rfl) ⟨Nat.le_refl _, Nat.le_refl _⟩ dX11_odds_17 rfl rfl (fun r17 M17 p17 => ?_)
    obtain ⟨rfl, p17⟩ := p17
    rcases p17 with ⟨b17, rfl⟩ | ⟨b17, rfl⟩
    · obtain ⟨b1, hb1, rfl⟩ := vp_in_of (inB_t.mp ((mIn2 (k := 9) (by decide) rfl).mp b17)) (by decide)
      refine x_if_eq (t := 30) (q := 23) dX11_odds_20 (by decide) rfl (fun c20 => absurd c20 (by decide)) (fun c20 => ?_)
      refine x_iload_n (q := 24) dX11_odds_23 rfl rfl ?_
      refine x_callS (q := 27) c_m_isFlag eX11_odds_181 gX11_odds_X11_isFlag rfl (Nat.le_of_ble_eq_true rfl) ⟨Nat.le_refl _, Nat.le_refl _⟩ dX11_odds_24 rfl rfl (fun r24 M24 p24 => ?_)
      obtain ⟨rfl, p24⟩ := p24
      rcases p24 with ⟨b24, rfl⟩ | ⟨b24, rfl⟩
      · refine x_if_ne (t := 34) (q := 30) dX11_odds_27 (by decide) rfl (fun c27 => ?_) (fun c27 => absurd c27 (by decide))
        refine x_lconst (v := 1) (q := 35) dX11_odds_34 rfl (by decide) ?_
        refine x_lstore (L' := fun x4_35 => [(4, .long x4_35), (0, .ref 99), (1, .int (nI a1)), (2, .int (nI b1)), (3, .int c)]) (q := 37) dX11_odds_35 rfl (by decide) (fun _ => rfl) (fun x4_35 ex4_35 => ?_)
        refine x_iconst (v := 0) (q := 38) dX11_odds_37 rfl (by decide) ?_
        refine x_istore (L' := fun x6_38 => [(6, .int x6_38), (4, .long x4_35), (0, .ref 99), (1, .int (nI a1)), (2, .int (nI b1)), (3, .int c)]) (q := 40) dX11_odds_38 rfl (by decide) (fun _ => rfl) (fun x6_38 ex6_38 => ?_)
        subst ex6_38
        obtain rfl : x4_35 = 1 := ex4_35
        refine l_m_odds1 (t := t) (u := u) (M0 := M) hn hw hd hk hwd hwd0 hb1 (fun M76 k1 k2 => ?_) 4 0 M (by omega) ⟨mp0, mp1, mp2, mp3, mp4, mp5, by rw [mp6]; show _ = Sum.inl (1, 4, Sum.inr (Sum.inl (ldJ (fun j => lN (e1 wd j)) (u 14) 0))); rw [ldJ_0], mp7, mp8, mp9, mp10, mp11, mp12, mp13, mp14⟩ (fun j _ => rfl)
        obtain ⟨kp0, kp1, kp2, kp3, kp4, kp5, kp6, kp7, kp8, kp9, kp10, kp11, kp12, kp13, kp14⟩ := k1
        have kp6 : M76 (99 + 6) = .inl (1, 4, .inr (.inl (ldJ (fun j => lN (e1 wd j)) (u 14) 4))) := kp6
        refine x_fixJ (f' := (fun j => lN (e1 wd j))) kp6 (by omega) (fun j hj => (show ldJ (fun j => lN (e1 wd j)) (u 14) 4 j = lN (e1 wd j) from if_pos hj)) (fun M9 w9 o9 => ?_)
        refine x_iconst (v := 0) (q := 77) dX11_odds_76 rfl (by decide) ?_
        refine x_istore (L' := fun x6_77 => [(6, .int x6_77), (4, .long 1), (0, .ref 99), (1, .int (nI a1)), (2, .int (nI b1)), (3, .int c)]) (q := 79) dX11_odds_77 rfl (by decide) (fun _ => rfl) (fun x6_77 ex6_77 => ?_)
        subst ex6_77
        have hv1_1_99 := ((o9 (99) (by omega)).trans kp0)
        have hv1_2_100 := ((o9 (100) (by omega)).trans kp1)
        have hv1_3_101 := ((o9 (101) (by omega)).trans kp2)
        have hv1_4_102 := ((o9 (102) (by omega)).trans kp3)
        have hv1_5_103 := ((o9 (103) (by omega)).trans kp4)
        have hv1_6_104 := ((o9 (104) (by omega)).trans kp5)
        have hv1_7_106 := ((o9 (106) (by omega)).trans kp7)
        have hv1_8_107 := ((o9 (107) (by omega)).trans kp8)
        have hv1_9_108 := ((o9 (108) (by omega)).trans kp9)
        have hv1_10_109 := ((o9 (109) (by omega)).trans kp10)
        have hv1_11_110 := ((o9 (110) (by omega)).trans kp11)
        have hv1_12_111 := ((o9 (111) (by omega)).trans kp12)
        have hv1_13_112 := ((o9 (112) (by omega)).trans kp13)
        have hv1_14_113 := ((o9 (113) (by omega)).trans kp14)
        refine l_m_odds2 (t := t) (u := u) (M0 := M9) hn hw hd hk hwd hwd0 hb1 (fun M103 h103 q1 q2 => ?_) b1 0 M9 (u 15) (by omega) ⟨hv1_1_99, hv1_2_100, hv1_3_101, hv1_4_102, hv1_5_103, hv1_6_104, w9, hv1_7_106, hv1_8_107, hv1_9_108, hv1_10_109, hv1_11_110, hv1_12_111, hv1_13_112, hv1_14_113⟩ (fun j _ => rfl)
        have q1x := q1
        obtain ⟨lp0, lp1, lp2, lp3, lp4, lp5, lp6, lp7, lp8, lp9, lp10, lp11, lp12, lp13, lp14⟩ := q1
        have lp6 : M103 (99 + 6) = .inl (1, 4, .inr (.inl ((fun j => lN (gNi τ (e1 wd) b1 j))))) := lp6
        have hpw := pw63 (show b1 ≤ 10 by omega)
        have hgl := gNi_le hk (f := e1 wd) (C := 1) (fun j => by unfold e1; split <;> omega) b1 a1
        refine x_aload_n (q := 104) dX11_odds_103 rfl rfl ?_
        refine x_aload_n (q := 105) dX11_odds_104 rfl rfl ?_
        refine x_getf (C := RX11) (T := TX11) (N := 29) (k := 14) (q := 108) lp0 (by omega) rfl hiX11 (by decide) (by decide +kernel) rfl dX11_odds_105 rfl ?_
        refine x_iload_n (q := 109) dX11_odds_108 rfl rfl ?_
        refine x_lald (q := 110) lp6 (by omega) (ixI (show (nI a1 : Int32) = nI a1 from rfl) (by omega) (by decide)) dX11_odds_109 rfl ?_
        rw [ixC (show (nI a1 : Int32) = nI a1 from rfl) (by omega)]
        refine x_lload (q := 112) dX11_odds_110 rfl rfl ?_
        refine x_callV (q := 115) (ci := 11) (c_m_tells (t := t) (u := uT u (fun j => lN (gNi τ (e1 wd) b1 j)) h103) (a := gNi τ (e1 wd) b1 a1) (b := 10 ^ b1) hn q1x (by omega) (by omega) (by omega)) eX11_odds_254 gX11_odds_X11_tells lp0 (by omega) rfl rfl rfl (Nat.le_of_ble_eq_true rfl) ⟨Nat.le_refl _, Nat.le_refl _⟩ dX11_odds_112 rfl rfl (fun r112 M112 p112 => ?_)
        obtain ⟨rfl, hV112, fr112⟩ := p112
        have hU112 := hV112
        obtain ⟨y112_0, y112_1, y112_2, y112_3, y112_4, y112_5, y112_6, y112_7, y112_8, y112_9, y112_10, y112_11, y112_12, y112_13, y112_14⟩ := hV112
        refine x_iload_n (q := 116) dX11_odds_115 rfl rfl ?_
        refine x_if_ne (t := 126) (q := 119) dX11_odds_116 (by decide) rfl (fun c116 => ?_) (fun c116 => ?_)
        · refine x_aload_n (q := 127) dX11_odds_126 rfl rfl ?_
          refine x_getf (C := RX11) (T := TX11) (N := 29) (k := 17) (q := 130) y112_0 (by omega) rfl hiX11 (by decide) (by decide +kernel) rfl dX11_odds_127 rfl ?_
          refine x_lret dX11_odds_130 rfl rfl (Nat.le_refl _) ?_
          refine ⟨?_, ⟨_, hU112⟩, fun j hj => (fr112 j hj).trans ((q2 j hj).trans ((o9 j (by omega)).trans (k2 j hj)))⟩
          unfold mOdds
          rw [if_pos hA1, if_pos ((mIn2 (k := 9) (by decide) rfl).mp b17), if_pos b24, hwd0, nI_clamp (show wd < 2 ^ 31 by omega), nI_clamp (show a1 < 2 ^ 31 by omega), nI_clamp (show b1 < 2 ^ 31 by omega)]
          first
            | (rw [if_pos c116]; rfl)
            | (rw [if_neg c116]; rfl)
        · refine x_aload_n (q := 120) dX11_odds_119 rfl rfl ?_
          refine x_getf (C := RX11) (T := TX11) (N := 29) (k := 16) (q := 123) y112_0 (by omega) rfl hiX11 (by decide) (by decide +kernel) rfl dX11_odds_120 rfl ?_
          refine x_goto (q := 130) dX11_odds_123 (by decide) ?_
          refine x_lret dX11_odds_130 rfl rfl (Nat.le_refl _) ?_
          refine ⟨?_, ⟨_, hU112⟩, fun j hj => (fr112 j hj).trans ((q2 j hj).trans ((o9 j (by omega)).trans (k2 j hj)))⟩
          unfold mOdds
          rw [if_pos hA1, if_pos ((mIn2 (k := 9) (by decide) rfl).mp b17), if_pos b24, hwd0, nI_clamp (show wd < 2 ^ 31 by omega), nI_clamp (show a1 < 2 ^ 31 by omega), nI_clamp (show b1 < 2 ^ 31 by omega)]
          first
            | (rw [if_pos c116]; rfl)
            | (rw [if_neg c116]; rfl)
        
        
      · refine x_if_ne (t := 34) (q := 30) dX11_odds_27 (by decide) rfl (fun c27 => absurd c27 (by decide)) (fun c27 => ?_)
        refine x_ldc2 (v := -3) (q := 33) (by decide +kernel) dX11_odds_30 rfl ?_
        refine x_lret dX11_odds_33 rfl rfl (Nat.le_refl _) ?_
        refine ⟨?_, ⟨u, hM0⟩, fun j hj => rfl⟩
        unfold mOdds
        rw [if_pos hA1, if_pos ((mIn2 (k := 9) (by decide) rfl).mp b17), if_neg b24]
        first | done | rfl
    · refine x_if_eq (t := 30) (q := 23) dX11_odds_20 (by decide) rfl (fun c20 => ?_) (fun c20 => absurd c20 (by decide))
      refine x_ldc2 (v := -3) (q := 33) (by decide +kernel) dX11_odds_30 rfl ?_
      refine x_lret dX11_odds_33 rfl rfl (Nat.le_refl _) ?_
      refine ⟨?_, ⟨u, hM0⟩, fun j hj => rfl⟩
      unfold mOdds
      rw [if_pos hA1, if_neg (fun h => b17 ((mIn2 (k := 9) (by decide) rfl).mpr h))]
      first | done | rfl
  · refine x_if_ne (t := 11) (q := 7) dX11_odds_4 (by decide) rfl (fun c4 => absurd c4 (by decide)) (fun c4 => ?_)
    refine x_ldc2 (v := -2) (q := 10) (by decide +kernel) dX11_odds_7 rfl ?_
    refine x_lret dX11_odds_10 rfl rfl (Nat.le_refl _) ?_
    refine ⟨?_, ⟨u, hM0⟩, fun j hj => rfl⟩
    unfold mOdds
    rw [if_neg b1]
    first | done | rfl

def mkB (t : Nat → Nat → Int32) (B : Nat) (wv tv : Int32) (ago a : Nat) : Bool := soR t (nI a) (nI ago) B && (decide (wv < 0) || (decide (¬ nI ago = tv) || decide (nI a = wv)))
theorem mkB_iff {t : Nat → Nat → Int32} {B : Nat} {wv tv : Int32} {ago a : Nat} : mkB t B wv tv ago a = true ↔ (soR t (nI a) (nI ago) B = true ∧ (wv < 0 ∨ ¬ nI ago = tv ∨ nI a = wv)) := by
  unfold mkB; simp only [Bool.and_eq_true, Bool.or_eq_true, decide_eq_true_iff]
def mkN (t : Nat → Nat → Int32) (B : Nat) (wv tv : Int32) (ago : Nat) (f : Nat → Nat) : Nat → Nat := fun a => if mkB t B wv tv ago a = true then f a else 0
def wyR (τ t : Nat → Nat → Int32) (B : Nat) (wv tv : Int32) : Nat → (Nat → Nat) → Nat → Nat
  | 0, _, s => s
  | k + 1, f, _ => wyR τ t B wv tv k (if 0 < k then gN τ (mkN t B wv tv k f) else mkN t B wv tv k f) (fb_sm (mkN t B wv tv k f) 4)
theorem mkN_le {t : Nat → Nat → Int32} {B : Nat} {wv tv : Int32} {ago : Nat} {f : Nat → Nat} {C : Nat} (h : ∀ j, f j ≤ C) (j : Nat) : mkN t B wv tv ago f j ≤ C := by
  unfold mkN
  split
  · exact h j
  · exact Nat.zero_le _
theorem wyR_le {τ t : Nat → Nat → Int32} {P W G : Nat} (hk : TOK τ P W G) {B : Nat} {wv tv : Int32} : ∀ (k : Nat) (f : Nat → Nat) (s C : Nat), (∀ j, f j ≤ C) → s ≤ 4 * C → wyR τ t B wv tv k f s ≤ 4 * 40 ^ k * C := by
  intro k
  induction k with
  | zero => intro f s C _ h; rw [wyR, Nat.pow_zero]; simpa using h
  | succ k ih =>
    intro f s C h hs
    rw [wyR]
    have hm := fun j => mkN_le (t := t) (B := B) (wv := wv) (tv := tv) (ago := k) h j
    have h2 := ih (if 0 < k then gN τ (mkN t B wv tv k f) else mkN t B wv tv k f) (fb_sm (mkN t B wv tv k f) 4) (40 * C) (by
      intro j
      split
      · exact gN_le hk hm j
      · have := hm j; omega) (by have := fb_sm_bound (f := mkN t B wv tv k f) (c := C) (n := 4) (fun j _ => hm j); omega)
    have e : 4 * 40 ^ k * (40 * C) = 4 * 40 ^ (k + 1) * C := by rw [Nat.pow_succ, ← Nat.mul_assoc, Nat.mul_assoc 4 (40 ^ k) 40]
    omega
set_option maxHeartbeats 4000000 in
set_option maxRecDepth 100000 in
theorem l_m_ways0 {n P W G B : Nat} {wv tv : Int32} {f : Nat → Nat} {t τ : Nat → Nat → Int32} {u : Nat → Nat → Int64} {Q : Option Value → (Nat → xE) → Prop} {M0 : Nat → xE} (hn : 113 < n) (hw : RT τ P W G (t 0)) (hk : TOK τ P W G) (hB : B ≤ 6) (hB0 : t 18 0 = nI B) (hk1 : ∀ M, oX11 99 t (uT u (ldJ (fun _ => lN 1) (u 14) 4) (u 15)) M → xfr 99 114 M0 M → X mX11_ways 0 0 20 [(3, .int (nI 4)), (0, .ref 99), (1, .int wv), (2, .int tv)] [] n M Q) : ∀ (k i : Nat) (M : Nat → xE), i + k = 4 → (oX11 99 t (uT u (ldJ (fun _ => lN 1) (u 14) i) (u 15)) M) → (xfr 99 114 M0 M) → X mX11_ways 0 0 2 [(3, .int (nI i)), (0, .ref 99), (1, .int wv), (2, .int tv)] [] n M (Q) := by
  have hiX11 : ∀ w ∈ wsX110, w ∈ wsX11_ways := by decide +kernel
  intro k
  induction k with
  | zero =>
    intro i M hik hM hf
    have hM0 := hM
    obtain ⟨mp0, mp1, mp2, mp3, mp4, mp5, mp6, mp7, mp8, mp9, mp10, mp11, mp12, mp13, mp14⟩ := hM
    have mp6 : M (99 + 6) = .inl (1, 4, .inr (.inl (ldJ (fun _ => lN 1) (u 14) i))) := mp6
    refine x_iload_n (q := 3) dX11_ways_2 rfl rfl ?_
    refine x_iconst (v := 4) (q := 4) dX11_ways_3 rfl (by decide) ?_
    refine x_icmp_ge (t := 20) (q := 7) dX11_ways_4 (by decide) rfl (fun c4 => ?_) (fun c4 => absurd (by rw [show i = 4 by omega]; exact nI_le (Nat.le_refl _) (by omega)) c4)
    have e9 : i = 4 := by omega
    subst e9
    exact hk1 M hM0 hf
  | succ k ih =>
    intro i M hik hM hf
    have hM0 := hM
    obtain ⟨mp0, mp1, mp2, mp3, mp4, mp5, mp6, mp7, mp8, mp9, mp10, mp11, mp12, mp13, mp14⟩ := hM
    have mp6 : M (99 + 6) = .inl (1, 4, .inr (.inl (ldJ (fun _ => lN 1) (u 14) i))) := mp6
    refine x_iload_n (q := 3) dX11_ways_2 rfl rfl ?_
    refine x_iconst (v := 4) (q := 4) dX11_ways_3 rfl (by decide) ?_
    refine x_icmp_ge (t := 20) (q := 7) dX11_ways_4 (by decide) rfl (fun c4 => absurd c4 (nI_ge (a := i) (b := 4) (by omega) (by omega))) (fun c4 => ?_)
    refine x_aload_n (q := 8) dX11_ways_7 rfl rfl ?_
    refine x_getf (C := RX11) (T := TX11) (N := 29) (k := 14) (q := 11) mp0 (by omega) rfl hiX11 (by decide) (by decide +kernel) rfl dX11_ways_8 rfl ?_
    refine x_iload_n (q := 12) dX11_ways_11 rfl rfl ?_
    refine x_lconst (v := 1) (q := 13) dX11_ways_12 rfl (by decide) ?_
    refine x_last (q := 14) mp6 (by omega) (ixI (show (nI i : Int32) = nI i from rfl) (by omega) (by decide)) dX11_ways_13 rfl (fun M13 w13 o13 => ?_)
    rw [ixC (show (nI i : Int32) = nI i from rfl) (by omega)] at w13
    refine x_iinc (L' := fun x3_14 => [(3, .int x3_14), (0, .ref 99), (1, .int wv), (2, .int tv)]) (q := 17) dX11_ways_14 rfl rfl (by decide) (fun _ => rfl) (fun x3_14 ex3_14 => ?_)
    obtain rfl : x3_14 = nI (i + 1) := ex3_14.trans (nI_1 i)
    refine x_goto (q := 2) dX11_ways_17 (by decide) ?_
    rw [ldJ_s (fun _ => lN 1) (u 14) i (v := 1) rfl] at w13
    have hv1_1_99 := ((o13 (99) (by omega)).trans mp0)
    have hv1_2_100 := ((o13 (100) (by omega)).trans mp1)
    have hv1_3_101 := ((o13 (101) (by omega)).trans mp2)
    have hv1_4_102 := ((o13 (102) (by omega)).trans mp3)
    have hv1_5_103 := ((o13 (103) (by omega)).trans mp4)
    have hv1_6_104 := ((o13 (104) (by omega)).trans mp5)
    have hv1_7_106 := ((o13 (106) (by omega)).trans mp7)
    have hv1_8_107 := ((o13 (107) (by omega)).trans mp8)
    have hv1_9_108 := ((o13 (108) (by omega)).trans mp9)
    have hv1_10_109 := ((o13 (109) (by omega)).trans mp10)
    have hv1_11_110 := ((o13 (110) (by omega)).trans mp11)
    have hv1_12_111 := ((o13 (111) (by omega)).trans mp12)
    have hv1_13_112 := ((o13 (112) (by omega)).trans mp13)
    have hv1_14_113 := ((o13 (113) (by omega)).trans mp14)
    refine x_pick (L' := [(3, .int (nI (i + 1))), (0, .ref 99), (1, .int wv), (2, .int tv)]) [0, 1, 2, 3] rfl ?_
    exact ih (i + 1) M13 (by omega) ⟨hv1_1_99, hv1_2_100, hv1_3_101, hv1_4_102, hv1_5_103, hv1_6_104, w13, hv1_7_106, hv1_8_107, hv1_9_108, hv1_10_109, hv1_11_110, hv1_12_111, hv1_13_112, hv1_14_113⟩ (fun j hj => ((o13 j (by omega)).trans (hf j hj)))

set_option maxHeartbeats 4000000 in
set_option maxRecDepth 100000 in
theorem l_m_ways1 {n P W G B : Nat} {wv tv : Int32} {f : Nat → Nat} {t τ : Nat → Nat → Int32} {u : Nat → Nat → Int64} {Q : Option Value → (Nat → xE) → Prop} {M0 : Nat → xE} (hn : 113 < n) (hw : RT τ P W G (t 0)) (hk : TOK τ P W G) (hB : B ≤ 6) (hB0 : t 18 0 = nI B) {g : Nat} (hg : g < 10) {h : Nat → Int64} (hk1 : ∀ M, oX11 99 t (uT u (ldJ (fun j => lN ((mkN t B wv tv g f) j)) (fun j => lN (f j)) 4) h) M → xfr 99 114 M0 M → X mX11_ways 0 0 115 [(6, .int (nI 4)), (5, .int (nI g)), (3, .long (lN (fb_sm (mkN t B wv tv g f) 4))), (0, .ref 99), (1, .int wv), (2, .int tv)] [] n M Q) : ∀ (k i : Nat) (M : Nat → xE), i + k = 4 → (oX11 99 t (uT u (ldJ (fun j => lN ((mkN t B wv tv g f) j)) (fun j => lN (f j)) i) h) M) → (xfr 99 114 M0 M) → X mX11_ways 0 0 36 [(6, .int (nI i)), (5, .int (nI g)), (3, .long (lN (fb_sm (mkN t B wv tv g f) i))), (0, .ref 99), (1, .int wv), (2, .int tv)] [] n M (Q) := by
  have hiX11 : ∀ w ∈ wsX110, w ∈ wsX11_ways := by decide +kernel
  intro k
  induction k with
  | zero =>
    intro i M hik hM hf
    have hM0 := hM
    obtain ⟨mp0, mp1, mp2, mp3, mp4, mp5, mp6, mp7, mp8, mp9, mp10, mp11, mp12, mp13, mp14⟩ := hM
    have mp6 : M (99 + 6) = .inl (1, 4, .inr (.inl (ldJ (fun j => lN ((mkN t B wv tv g f) j)) (fun j => lN (f j)) i))) := mp6
    refine x_iload (q := 38) dX11_ways_36 rfl rfl ?_
    refine x_iconst (v := 4) (q := 39) dX11_ways_38 rfl (by decide) ?_
    refine x_icmp_ge (t := 115) (q := 42) dX11_ways_39 (by decide) rfl (fun c39 => ?_) (fun c39 => absurd (by rw [show i = 4 by omega]; exact nI_le (Nat.le_refl _) (by omega)) c39)
    have e9 : i = 4 := by omega
    subst e9
    exact hk1 M hM0 hf
  | succ k ih =>
    intro i M hik hM hf
    have hM0 := hM
    obtain ⟨mp0, mp1, mp2, mp3, mp4, mp5, mp6, mp7, mp8, mp9, mp10, mp11, mp12, mp13, mp14⟩ := hM
    have mp6 : M (99 + 6) = .inl (1, 4, .inr (.inl (ldJ (fun j => lN ((mkN t B wv tv g f) j)) (fun j => lN (f j)) i))) := mp6
    refine x_iload (q := 38) dX11_ways_36 rfl rfl ?_
    refine x_iconst (v := 4) (q := 39) dX11_ways_38 rfl (by decide) ?_
    refine x_icmp_ge (t := 115) (q := 42) dX11_ways_39 (by decide) rfl (fun c39 => absurd c39 (nI_ge (a := i) (b := 4) (by omega) (by omega))) (fun c39 => ?_)
    refine x_aload_n (q := 43) dX11_ways_42 rfl rfl ?_
    refine x_iload (q := 45) dX11_ways_43 rfl rfl ?_
    refine x_iload (q := 47) dX11_ways_45 rfl rfl ?_
    refine x_callV (q := 50) (ci := 11) (c_m_isSo (t := t) (u := uT u (ldJ (fun j => lN ((mkN t B wv tv g f) j)) (fun j => lN (f j)) i) h) hn hM0 hB hB0) eX11_ways_258 gX11_ways_X11_isSo mp0 (by omega) rfl rfl rfl (Nat.le_of_ble_eq_true rfl) ⟨Nat.le_refl _, Nat.le_refl _⟩ dX11_ways_47 rfl rfl (fun r47 M47 p47 => ?_)
    obtain ⟨rfl, p47⟩ := p47
    rcases p47 with ⟨b47, rfl⟩ | ⟨b47, rfl⟩
    · refine x_if_eq (t := 73) (q := 53) dX11_ways_50 (by decide) rfl (fun c50 => absurd c50 (by decide)) (fun c50 => ?_)
      refine x_iload_n (q := 54) dX11_ways_53 rfl rfl ?_
      refine x_if_lt (t := 69) (q := 57) dX11_ways_54 (by decide) rfl (fun c54 => ?_) (fun c54 => ?_)
      · have hm : mkB t B wv tv g i = true := mkB_iff.mpr ⟨b47, by first | exact Or.inl c54 | exact Or.inr (Or.inl c60) | exact Or.inr (Or.inr c66)⟩
        refine x_iconst (v := 1) (q := 70) dX11_ways_69 rfl (by decide) ?_
        refine x_goto (q := 74) dX11_ways_70 (by decide) ?_
        refine x_istore (L' := fun x7_74 => [(7, .int x7_74), (6, .int (nI i)), (5, .int (nI g)), (3, .long (lN (fb_sm (mkN t B wv tv g f) i))), (0, .ref 99), (1, .int wv), (2, .int tv)]) (q := 76) dX11_ways_74 rfl (by decide) (fun _ => rfl) (fun x7_74 ex7_74 => ?_)
        rw [show x7_74 = 1 from ex7_74]
        refine x_aload_n (q := 77) dX11_ways_76 rfl rfl ?_
        refine x_getf (C := RX11) (T := TX11) (N := 29) (k := 14) (q := 80) mp0 (by omega) rfl hiX11 (by decide) (by decide +kernel) rfl dX11_ways_77 rfl ?_
        refine x_iload (q := 82) dX11_ways_80 rfl rfl ?_
        refine x_iload (q := 84) dX11_ways_82 rfl rfl ?_
        refine x_if_eq (t := 97) (q := 87) dX11_ways_84 (by decide) rfl (fun c84 => absurd c84 (by decide)) (fun c84 => ?_)
        refine x_aload_n (q := 88) dX11_ways_87 rfl rfl ?_
        refine x_getf (C := RX11) (T := TX11) (N := 29) (k := 14) (q := 91) mp0 (by omega) rfl hiX11 (by decide) (by decide +kernel) rfl dX11_ways_88 rfl ?_
        refine x_iload (q := 93) dX11_ways_91 rfl rfl ?_
        refine x_lald (q := 94) mp6 (by omega) (ixI (show (nI i : Int32) = nI i from rfl) (by omega) (by decide)) dX11_ways_93 rfl ?_
        rw [ixC (show (nI i : Int32) = nI i from rfl) (by omega)]
        rw [show ldJ (fun j => lN ((mkN t B wv tv g f) j)) (fun j => lN (f j)) i i = lN (f i) from if_neg (by omega)]
        refine x_goto (q := 98) dX11_ways_94 (by decide) ?_
        refine x_last (q := 99) mp6 (by omega) (ixI (show (nI i : Int32) = nI i from rfl) (by omega) (by decide)) dX11_ways_98 rfl (fun M98 w98 o98 => ?_)
        rw [ixC (show (nI i : Int32) = nI i from rfl) (by omega)] at w98
        rw [ldJ_s (fun j => lN ((mkN t B wv tv g f) j)) (fun j => lN (f j)) i (by show _ = lN (mkN t B wv tv g f i); unfold mkN; rw [if_pos hm]; first | done | rfl)] at w98
        refine x_lload_n (q := 100) dX11_ways_99 rfl rfl ?_
        refine x_aload_n (q := 101) dX11_ways_100 rfl rfl ?_
        have hv1_1_99 := ((o98 (99) (by omega)).trans mp0)
        refine x_getf (C := RX11) (T := TX11) (N := 29) (k := 14) (q := 104) hv1_1_99 (by omega) rfl hiX11 (by decide) (by decide +kernel) rfl dX11_ways_101 rfl ?_
        refine x_iload (q := 106) dX11_ways_104 rfl rfl ?_
        refine x_lald (q := 107) w98 (by omega) (ixI (show (nI i : Int32) = nI i from rfl) (by omega) (by decide)) dX11_ways_106 rfl ?_
        rw [ixC (show (nI i : Int32) = nI i from rfl) (by omega)]
        rw [show ldJ (fun j => lN ((mkN t B wv tv g f) j)) (fun j => lN (f j)) (i + 1) i = lN (mkN t B wv tv g f i) from if_pos (by omega)]
        refine x_ladd (q := 108) dX11_ways_107 rfl ?_
        refine x_lstore_n (L' := fun x3_108 => [(3, .long x3_108), (7, .int (1)), (6, .int (nI i)), (5, .int (nI g)), (0, .ref 99), (1, .int wv), (2, .int tv)]) (q := 109) dX11_ways_108 rfl (by decide) (fun _ => rfl) (fun x3_108 ex3_108 => ?_)
        obtain rfl : x3_108 = lN (fb_sm (mkN t B wv tv g f) (i + 1)) := ex3_108.trans (by rw [lN_add]; rfl)
        refine x_iinc (L' := fun x6_109 => [(6, .int x6_109), (3, .long (lN (fb_sm (mkN t B wv tv g f) (i + 1)))), (7, .int (1)), (5, .int (nI g)), (0, .ref 99), (1, .int wv), (2, .int tv)]) (q := 112) dX11_ways_109 rfl rfl (by decide) (fun _ => rfl) (fun x6_109 ex6_109 => ?_)
        obtain rfl : x6_109 = nI (i + 1) := ex6_109.trans (nI_1 i)
        refine x_goto (q := 36) dX11_ways_112 (by decide) ?_
        have hv1_2_100 := ((o98 (100) (by omega)).trans mp1)
        have hv1_3_101 := ((o98 (101) (by omega)).trans mp2)
        have hv1_4_102 := ((o98 (102) (by omega)).trans mp3)
        have hv1_5_103 := ((o98 (103) (by omega)).trans mp4)
        have hv1_6_104 := ((o98 (104) (by omega)).trans mp5)
        have hv1_7_106 := ((o98 (106) (by omega)).trans mp7)
        have hv1_8_107 := ((o98 (107) (by omega)).trans mp8)
        have hv1_9_108 := ((o98 (108) (by omega)).trans mp9)
        have hv1_10_109 := ((o98 (109) (by omega)).trans mp10)
        have hv1_11_110 := ((o98 (110) (by omega)).trans mp11)
        have hv1_12_111 := ((o98 (111) (by omega)).trans mp12)
        have hv1_13_112 := ((o98 (112) (by omega)).trans mp13)
        have hv1_14_113 := ((o98 (113) (by omega)).trans mp14)
        refine x_pick (L' := [(6, .int (nI (i + 1))), (5, .int (nI g)), (3, .long (lN (fb_sm (mkN t B wv tv g f) (i + 1)))), (0, .ref 99), (1, .int wv), (2, .int tv)]) [0, 3, 1, 4, 5, 6] rfl ?_
        exact ih (i + 1) M98 (by omega) ⟨hv1_1_99, hv1_2_100, hv1_3_101, hv1_4_102, hv1_5_103, hv1_6_104, w98, hv1_7_106, hv1_8_107, hv1_9_108, hv1_10_109, hv1_11_110, hv1_12_111, hv1_13_112, hv1_14_113⟩ (fun j hj => ((o98 j (by omega)).trans (hf j hj)))
      · refine x_iload (q := 59) dX11_ways_57 rfl rfl ?_
        refine x_iload_n (q := 60) dX11_ways_59 rfl rfl ?_
        refine x_icmp_ne (t := 69) (q := 63) dX11_ways_60 (by decide) rfl (fun c60 => ?_) (fun c60 => ?_)
        · have hm : mkB t B wv tv g i = true := mkB_iff.mpr ⟨b47, by first | exact Or.inl c54 | exact Or.inr (Or.inl c60) | exact Or.inr (Or.inr c66)⟩
          refine x_iconst (v := 1) (q := 70) dX11_ways_69 rfl (by decide) ?_
          refine x_goto (q := 74) dX11_ways_70 (by decide) ?_
          refine x_istore (L' := fun x7_74 => [(7, .int x7_74), (6, .int (nI i)), (5, .int (nI g)), (3, .long (lN (fb_sm (mkN t B wv tv g f) i))), (0, .ref 99), (1, .int wv), (2, .int tv)]) (q := 76) dX11_ways_74 rfl (by decide) (fun _ => rfl) (fun x7_74 ex7_74 => ?_)
          rw [show x7_74 = 1 from ex7_74]
          refine x_aload_n (q := 77) dX11_ways_76 rfl rfl ?_
          refine x_getf (C := RX11) (T := TX11) (N := 29) (k := 14) (q := 80) mp0 (by omega) rfl hiX11 (by decide) (by decide +kernel) rfl dX11_ways_77 rfl ?_
          refine x_iload (q := 82) dX11_ways_80 rfl rfl ?_
          refine x_iload (q := 84) dX11_ways_82 rfl rfl ?_
          refine x_if_eq (t := 97) (q := 87) dX11_ways_84 (by decide) rfl (fun c84 => absurd c84 (by decide)) (fun c84 => ?_)
          refine x_aload_n (q := 88) dX11_ways_87 rfl rfl ?_
          refine x_getf (C := RX11) (T := TX11) (N := 29) (k := 14) (q := 91) mp0 (by omega) rfl hiX11 (by decide) (by decide +kernel) rfl dX11_ways_88 rfl ?_
          refine x_iload (q := 93) dX11_ways_91 rfl rfl ?_
          refine x_lald (q := 94) mp6 (by omega) (ixI (show (nI i : Int32) = nI i from rfl) (by omega) (by decide)) dX11_ways_93 rfl ?_
          rw [ixC (show (nI i : Int32) = nI i from rfl) (by omega)]
          rw [show ldJ (fun j => lN ((mkN t B wv tv g f) j)) (fun j => lN (f j)) i i = lN (f i) from if_neg (by omega)]
          refine x_goto (q := 98) dX11_ways_94 (by decide) ?_
          refine x_last (q := 99) mp6 (by omega) (ixI (show (nI i : Int32) = nI i from rfl) (by omega) (by decide)) dX11_ways_98 rfl (fun M98 w98 o98 => ?_)
          rw [ixC (show (nI i : Int32) = nI i from rfl) (by omega)] at w98
          rw [ldJ_s (fun j => lN ((mkN t B wv tv g f) j)) (fun j => lN (f j)) i (by show _ = lN (mkN t B wv tv g f i); unfold mkN; rw [if_pos hm]; first | done | rfl)] at w98
          refine x_lload_n (q := 100) dX11_ways_99 rfl rfl ?_
          refine x_aload_n (q := 101) dX11_ways_100 rfl rfl ?_
          have hv1_1_99 := ((o98 (99) (by omega)).trans mp0)
          refine x_getf (C := RX11) (T := TX11) (N := 29) (k := 14) (q := 104) hv1_1_99 (by omega) rfl hiX11 (by decide) (by decide +kernel) rfl dX11_ways_101 rfl ?_
          refine x_iload (q := 106) dX11_ways_104 rfl rfl ?_
          refine x_lald (q := 107) w98 (by omega) (ixI (show (nI i : Int32) = nI i from rfl) (by omega) (by decide)) dX11_ways_106 rfl ?_
          rw [ixC (show (nI i : Int32) = nI i from rfl) (by omega)]
          rw [show ldJ (fun j => lN ((mkN t B wv tv g f) j)) (fun j => lN (f j)) (i + 1) i = lN (mkN t B wv tv g f i) from if_pos (by omega)]
          refine x_ladd (q := 108) dX11_ways_107 rfl ?_
          refine x_lstore_n (L' := fun x3_108 => [(3, .long x3_108), (7, .int (1)), (6, .int (nI i)), (5, .int (nI g)), (0, .ref 99), (1, .int wv), (2, .int tv)]) (q := 109) dX11_ways_108 rfl (by decide) (fun _ => rfl) (fun x3_108 ex3_108 => ?_)
          obtain rfl : x3_108 = lN (fb_sm (mkN t B wv tv g f) (i + 1)) := ex3_108.trans (by rw [lN_add]; rfl)
          refine x_iinc (L' := fun x6_109 => [(6, .int x6_109), (3, .long (lN (fb_sm (mkN t B wv tv g f) (i + 1)))), (7, .int (1)), (5, .int (nI g)), (0, .ref 99), (1, .int wv), (2, .int tv)]) (q := 112) dX11_ways_109 rfl rfl (by decide) (fun _ => rfl) (fun x6_109 ex6_109 => ?_)
          obtain rfl : x6_109 = nI (i + 1) := ex6_109.trans (nI_1 i)
          refine x_goto (q := 36) dX11_ways_112 (by decide) ?_
          have hv1_2_100 := ((o98 (100) (by omega)).trans mp1)
          have hv1_3_101 := ((o98 (101) (by omega)).trans mp2)
          have hv1_4_102 := ((o98 (102) (by omega)).trans mp3)
          have hv1_5_103 := ((o98 (103) (by omega)).trans mp4)
          have hv1_6_104 := ((o98 (104) (by omega)).trans mp5)
          have hv1_7_106 := ((o98 (106) (by omega)).trans mp7)
          have hv1_8_107 := ((o98 (107) (by omega)).trans mp8)
          have hv1_9_108 := ((o98 (108) (by omega)).trans mp9)
          have hv1_10_109 := ((o98 (109) (by omega)).trans mp10)
          have hv1_11_110 := ((o98 (110) (by omega)).trans mp11)
          have hv1_12_111 := ((o98 (111) (by omega)).trans mp12)
          have hv1_13_112 := ((o98 (112) (by omega)).trans mp13)
          have hv1_14_113 := ((o98 (113) (by omega)).trans mp14)
          refine x_pick (L' := [(6, .int (nI (i + 1))), (5, .int (nI g)), (3, .long (lN (fb_sm (mkN t B wv tv g f) (i + 1)))), (0, .ref 99), (1, .int wv), (2, .int tv)]) [0, 3, 1, 4, 5, 6] rfl ?_
          exact ih (i + 1) M98 (by omega) ⟨hv1_1_99, hv1_2_100, hv1_3_101, hv1_4_102, hv1_5_103, hv1_6_104, w98, hv1_7_106, hv1_8_107, hv1_9_108, hv1_10_109, hv1_11_110, hv1_12_111, hv1_13_112, hv1_14_113⟩ (fun j hj => ((o98 j (by omega)).trans (hf j hj)))
        · refine x_iload (q := 65) dX11_ways_63 rfl rfl ?_
          refine x_iload_n (q := 66) dX11_ways_65 rfl rfl ?_
          refine x_icmp_ne (t := 73) (q := 69) dX11_ways_66 (by decide) rfl (fun c66 => ?_) (fun c66 => ?_)
          · have hm : ¬ mkB t B wv tv g i = true := fun h => by
              have h2 := mkB_iff.mp h
              first | exact b47 h2.1 | exact h2.2.elim c54 (fun q => q.elim (fun q => q c60) c66)
            refine x_iconst (v := 0) (q := 74) dX11_ways_73 rfl (by decide) ?_
            refine x_istore (L' := fun x7_74 => [(7, .int x7_74), (6, .int (nI i)), (5, .int (nI g)), (3, .long (lN (fb_sm (mkN t B wv tv g f) i))), (0, .ref 99), (1, .int wv), (2, .int tv)]) (q := 76) dX11_ways_74 rfl (by decide) (fun _ => rfl) (fun x7_74 ex7_74 => ?_)
            rw [show x7_74 = 0 from ex7_74]
            refine x_aload_n (q := 77) dX11_ways_76 rfl rfl ?_
            refine x_getf (C := RX11) (T := TX11) (N := 29) (k := 14) (q := 80) mp0 (by omega) rfl hiX11 (by decide) (by decide +kernel) rfl dX11_ways_77 rfl ?_
            refine x_iload (q := 82) dX11_ways_80 rfl rfl ?_
            refine x_iload (q := 84) dX11_ways_82 rfl rfl ?_
            refine x_if_eq (t := 97) (q := 87) dX11_ways_84 (by decide) rfl (fun c84 => ?_) (fun c84 => absurd rfl c84)
            refine x_lconst (v := 0) (q := 98) dX11_ways_97 rfl (by decide) ?_
            refine x_last (q := 99) mp6 (by omega) (ixI (show (nI i : Int32) = nI i from rfl) (by omega) (by decide)) dX11_ways_98 rfl (fun M98 w98 o98 => ?_)
            rw [ixC (show (nI i : Int32) = nI i from rfl) (by omega)] at w98
            rw [ldJ_s (fun j => lN ((mkN t B wv tv g f) j)) (fun j => lN (f j)) i (by show _ = lN (mkN t B wv tv g f i); unfold mkN; rw [if_neg hm]; first | done | rfl)] at w98
            refine x_lload_n (q := 100) dX11_ways_99 rfl rfl ?_
            refine x_aload_n (q := 101) dX11_ways_100 rfl rfl ?_
            have hv1_1_99 := ((o98 (99) (by omega)).trans mp0)
            refine x_getf (C := RX11) (T := TX11) (N := 29) (k := 14) (q := 104) hv1_1_99 (by omega) rfl hiX11 (by decide) (by decide +kernel) rfl dX11_ways_101 rfl ?_
            refine x_iload (q := 106) dX11_ways_104 rfl rfl ?_
            refine x_lald (q := 107) w98 (by omega) (ixI (show (nI i : Int32) = nI i from rfl) (by omega) (by decide)) dX11_ways_106 rfl ?_
            rw [ixC (show (nI i : Int32) = nI i from rfl) (by omega)]
            rw [show ldJ (fun j => lN ((mkN t B wv tv g f) j)) (fun j => lN (f j)) (i + 1) i = lN (mkN t B wv tv g f i) from if_pos (by omega)]
            refine x_ladd (q := 108) dX11_ways_107 rfl ?_
            refine x_lstore_n (L' := fun x3_108 => [(3, .long x3_108), (7, .int (0)), (6, .int (nI i)), (5, .int (nI g)), (0, .ref 99), (1, .int wv), (2, .int tv)]) (q := 109) dX11_ways_108 rfl (by decide) (fun _ => rfl) (fun x3_108 ex3_108 => ?_)
            obtain rfl : x3_108 = lN (fb_sm (mkN t B wv tv g f) (i + 1)) := ex3_108.trans (by rw [lN_add]; rfl)
            refine x_iinc (L' := fun x6_109 => [(6, .int x6_109), (3, .long (lN (fb_sm (mkN t B wv tv g f) (i + 1)))), (7, .int (0)), (5, .int (nI g)), (0, .ref 99), (1, .int wv), (2, .int tv)]) (q := 112) dX11_ways_109 rfl rfl (by decide) (fun _ => rfl) (fun x6_109 ex6_109 => ?_)
            obtain rfl : x6_109 = nI (i + 1) := ex6_109.trans (nI_1 i)
            refine x_goto (q := 36) dX11_ways_112 (by decide) ?_
            have hv1_2_100 := ((o98 (100) (by omega)).trans mp1)
            have hv1_3_101 := ((o98 (101) (by omega)).trans mp2)
            have hv1_4_102 := ((o98 (102) (by omega)).trans mp3)
            have hv1_5_103 := ((o98 (103) (by omega)).trans mp4)
            have hv1_6_104 := ((o98 (104) (by omega)).trans mp5)
            have hv1_7_106 := ((o98 (106) (by omega)).trans mp7)
            have hv1_8_107 := ((o98 (107) (by omega)).trans mp8)
            have hv1_9_108 := ((o98 (108) (by omega)).trans mp9)
            have hv1_10_109 := ((o98 (109) (by omega)).trans mp10)
            have hv1_11_110 := ((o98 (110) (by omega)).trans mp11)
            have hv1_12_111 := ((o98 (111) (by omega)).trans mp12)
            have hv1_13_112 := ((o98 (112) (by omega)).trans mp13)
            have hv1_14_113 := ((o98 (113) (by omega)).trans mp14)
            refine x_pick (L' := [(6, .int (nI (i + 1))), (5, .int (nI g)), (3, .long (lN (fb_sm (mkN t B wv tv g f) (i + 1)))), (0, .ref 99), (1, .int wv), (2, .int tv)]) [0, 3, 1, 4, 5, 6] rfl ?_
            exact ih (i + 1) M98 (by omega) ⟨hv1_1_99, hv1_2_100, hv1_3_101, hv1_4_102, hv1_5_103, hv1_6_104, w98, hv1_7_106, hv1_8_107, hv1_9_108, hv1_10_109, hv1_11_110, hv1_12_111, hv1_13_112, hv1_14_113⟩ (fun j hj => ((o98 j (by omega)).trans (hf j hj)))
          · have hm : mkB t B wv tv g i = true := mkB_iff.mpr ⟨b47, by first | exact Or.inl c54 | exact Or.inr (Or.inl c60) | exact Or.inr (Or.inr c66)⟩
            refine x_iconst (v := 1) (q := 70) dX11_ways_69 rfl (by decide) ?_
            refine x_goto (q := 74) dX11_ways_70 (by decide) ?_
            refine x_istore (L' := fun x7_74 => [(7, .int x7_74), (6, .int (nI i)), (5, .int (nI g)), (3, .long (lN (fb_sm (mkN t B wv tv g f) i))), (0, .ref 99), (1, .int wv), (2, .int tv)]) (q := 76) dX11_ways_74 rfl (by decide) (fun _ => rfl) (fun x7_74 ex7_74 => ?_)
            rw [show x7_74 = 1 from ex7_74]
            refine x_aload_n (q := 77) dX11_ways_76 rfl rfl ?_
            refine x_getf (C := RX11) (T := TX11) (N := 29) (k := 14) (q := 80) mp0 (by omega) rfl hiX11 (by decide) (by decide +kernel) rfl dX11_ways_77 rfl ?_
            refine x_iload (q := 82) dX11_ways_80 rfl rfl ?_
            refine x_iload (q := 84) dX11_ways_82 rfl rfl ?_
            refine x_if_eq (t := 97) (q := 87) dX11_ways_84 (by decide) rfl (fun c84 => absurd c84 (by decide)) (fun c84 => ?_)
            refine x_aload_n (q := 88) dX11_ways_87 rfl rfl ?_
            refine x_getf (C := RX11) (T := TX11) (N := 29) (k := 14) (q := 91) mp0 (by omega) rfl hiX11 (by decide) (by decide +kernel) rfl dX11_ways_88 rfl ?_
            refine x_iload (q := 93) dX11_ways_91 rfl rfl ?_
            refine x_lald (q := 94) mp6 (by omega) (ixI (show (nI i : Int32) = nI i from rfl) (by omega) (by decide)) dX11_ways_93 rfl ?_
            rw [ixC (show (nI i : Int32) = nI i from rfl) (by omega)]
            rw [show ldJ (fun j => lN ((mkN t B wv tv g f) j)) (fun j => lN (f j)) i i = lN (f i) from if_neg (by omega)]
            refine x_goto (q := 98) dX11_ways_94 (by decide) ?_
            refine x_last (q := 99) mp6 (by omega) (ixI (show (nI i : Int32) = nI i from rfl) (by omega) (by decide)) dX11_ways_98 rfl (fun M98 w98 o98 => ?_)
            rw [ixC (show (nI i : Int32) = nI i from rfl) (by omega)] at w98
            rw [ldJ_s (fun j => lN ((mkN t B wv tv g f) j)) (fun j => lN (f j)) i (by show _ = lN (mkN t B wv tv g f i); unfold mkN; rw [if_pos hm]; first | done | rfl)] at w98
            refine x_lload_n (q := 100) dX11_ways_99 rfl rfl ?_
            refine x_aload_n (q := 101) dX11_ways_100 rfl rfl ?_
            have hv1_1_99 := ((o98 (99) (by omega)).trans mp0)
            refine x_getf (C := RX11) (T := TX11) (N := 29) (k := 14) (q := 104) hv1_1_99 (by omega) rfl hiX11 (by decide) (by decide +kernel) rfl dX11_ways_101 rfl ?_
            refine x_iload (q := 106) dX11_ways_104 rfl rfl ?_
            refine x_lald (q := 107) w98 (by omega) (ixI (show (nI i : Int32) = nI i from rfl) (by omega) (by decide)) dX11_ways_106 rfl ?_
            rw [ixC (show (nI i : Int32) = nI i from rfl) (by omega)]
            rw [show ldJ (fun j => lN ((mkN t B wv tv g f) j)) (fun j => lN (f j)) (i + 1) i = lN (mkN t B wv tv g f i) from if_pos (by omega)]
            refine x_ladd (q := 108) dX11_ways_107 rfl ?_
            refine x_lstore_n (L' := fun x3_108 => [(3, .long x3_108), (7, .int (1)), (6, .int (nI i)), (5, .int (nI g)), (0, .ref 99), (1, .int wv), (2, .int tv)]) (q := 109) dX11_ways_108 rfl (by decide) (fun _ => rfl) (fun x3_108 ex3_108 => ?_)
            obtain rfl : x3_108 = lN (fb_sm (mkN t B wv tv g f) (i + 1)) := ex3_108.trans (by rw [lN_add]; rfl)
            refine x_iinc (L' := fun x6_109 => [(6, .int x6_109), (3, .long (lN (fb_sm (mkN t B wv tv g f) (i + 1)))), (7, .int (1)), (5, .int (nI g)), (0, .ref 99), (1, .int wv), (2, .int tv)]) (q := 112) dX11_ways_109 rfl rfl (by decide) (fun _ => rfl) (fun x6_109 ex6_109 => ?_)
            obtain rfl : x6_109 = nI (i + 1) := ex6_109.trans (nI_1 i)
            refine x_goto (q := 36) dX11_ways_112 (by decide) ?_
            have hv1_2_100 := ((o98 (100) (by omega)).trans mp1)
            have hv1_3_101 := ((o98 (101) (by omega)).trans mp2)
            have hv1_4_102 := ((o98 (102) (by omega)).trans mp3)
            have hv1_5_103 := ((o98 (103) (by omega)).trans mp4)
            have hv1_6_104 := ((o98 (104) (by omega)).trans mp5)
            have hv1_7_106 := ((o98 (106) (by omega)).trans mp7)
            have hv1_8_107 := ((o98 (107) (by omega)).trans mp8)
            have hv1_9_108 := ((o98 (108) (by omega)).trans mp9)
            have hv1_10_109 := ((o98 (109) (by omega)).trans mp10)
            have hv1_11_110 := ((o98 (110) (by omega)).trans mp11)
            have hv1_12_111 := ((o98 (111) (by omega)).trans mp12)
            have hv1_13_112 := ((o98 (112) (by omega)).trans mp13)
            have hv1_14_113 := ((o98 (113) (by omega)).trans mp14)
            refine x_pick (L' := [(6, .int (nI (i + 1))), (5, .int (nI g)), (3, .long (lN (fb_sm (mkN t B wv tv g f) (i + 1)))), (0, .ref 99), (1, .int wv), (2, .int tv)]) [0, 3, 1, 4, 5, 6] rfl ?_
            exact ih (i + 1) M98 (by omega) ⟨hv1_1_99, hv1_2_100, hv1_3_101, hv1_4_102, hv1_5_103, hv1_6_104, w98, hv1_7_106, hv1_8_107, hv1_9_108, hv1_10_109, hv1_11_110, hv1_12_111, hv1_13_112, hv1_14_113⟩ (fun j hj => ((o98 j (by omega)).trans (hf j hj)))
    · refine x_if_eq (t := 73) (q := 53) dX11_ways_50 (by decide) rfl (fun c50 => ?_) (fun c50 => absurd c50 (by decide))
      have hm : ¬ mkB t B wv tv g i = true := fun h => by
        have h2 := mkB_iff.mp h
        first | exact b47 h2.1 | exact h2.2.elim c54 (fun q => q.elim (fun q => q c60) c66)
      refine x_iconst (v := 0) (q := 74) dX11_ways_73 rfl (by decide) ?_
      refine x_istore (L' := fun x7_74 => [(7, .int x7_74), (6, .int (nI i)), (5, .int (nI g)), (3, .long (lN (fb_sm (mkN t B wv tv g f) i))), (0, .ref 99), (1, .int wv), (2, .int tv)]) (q := 76) dX11_ways_74 rfl (by decide) (fun _ => rfl) (fun x7_74 ex7_74 => ?_)
      rw [show x7_74 = 0 from ex7_74]
      refine x_aload_n (q := 77) dX11_ways_76 rfl rfl ?_
      refine x_getf (C := RX11) (T := TX11) (N := 29) (k := 14) (q := 80) mp0 (by omega) rfl hiX11 (by decide) (by decide +kernel) rfl dX11_ways_77 rfl ?_
      refine x_iload (q := 82) dX11_ways_80 rfl rfl ?_
      refine x_iload (q := 84) dX11_ways_82 rfl rfl ?_
      refine x_if_eq (t := 97) (q := 87) dX11_ways_84 (by decide) rfl (fun c84 => ?_) (fun c84 => absurd rfl c84)
      refine x_lconst (v := 0) (q := 98) dX11_ways_97 rfl (by decide) ?_
      refine x_last (q := 99) mp6 (by omega) (ixI (show (nI i : Int32) = nI i from rfl) (by omega) (by decide)) dX11_ways_98 rfl (fun M98 w98 o98 => ?_)
      rw [ixC (show (nI i : Int32) = nI i from rfl) (by omega)] at w98
      rw [ldJ_s (fun j => lN ((mkN t B wv tv g f) j)) (fun j => lN (f j)) i (by show _ = lN (mkN t B wv tv g f i); unfold mkN; rw [if_neg hm]; first | done | rfl)] at w98
      refine x_lload_n (q := 100) dX11_ways_99 rfl rfl ?_
      refine x_aload_n (q := 101) dX11_ways_100 rfl rfl ?_
      have hv1_1_99 := ((o98 (99) (by omega)).trans mp0)
      refine x_getf (C := RX11) (T := TX11) (N := 29) (k := 14) (q := 104) hv1_1_99 (by omega) rfl hiX11 (by decide) (by decide +kernel) rfl dX11_ways_101 rfl ?_
      refine x_iload (q := 106) dX11_ways_104 rfl rfl ?_
      refine x_lald (q := 107) w98 (by omega) (ixI (show (nI i : Int32) = nI i from rfl) (by omega) (by decide)) dX11_ways_106 rfl ?_
      rw [ixC (show (nI i : Int32) = nI i from rfl) (by omega)]
      rw [show ldJ (fun j => lN ((mkN t B wv tv g f) j)) (fun j => lN (f j)) (i + 1) i = lN (mkN t B wv tv g f i) from if_pos (by omega)]
      refine x_ladd (q := 108) dX11_ways_107 rfl ?_
      refine x_lstore_n (L' := fun x3_108 => [(3, .long x3_108), (7, .int (0)), (6, .int (nI i)), (5, .int (nI g)), (0, .ref 99), (1, .int wv), (2, .int tv)]) (q := 109) dX11_ways_108 rfl (by decide) (fun _ => rfl) (fun x3_108 ex3_108 => ?_)
      obtain rfl : x3_108 = lN (fb_sm (mkN t B wv tv g f) (i + 1)) := ex3_108.trans (by rw [lN_add]; rfl)
      refine x_iinc (L' := fun x6_109 => [(6, .int x6_109), (3, .long (lN (fb_sm (mkN t B wv tv g f) (i + 1)))), (7, .int (0)), (5, .int (nI g)), (0, .ref 99), (1, .int wv), (2, .int tv)]) (q := 112) dX11_ways_109 rfl rfl (by decide) (fun _ => rfl) (fun x6_109 ex6_109 => ?_)
      obtain rfl : x6_109 = nI (i + 1) := ex6_109.trans (nI_1 i)
      refine x_goto (q := 36) dX11_ways_112 (by decide) ?_
      have hv1_2_100 := ((o98 (100) (by omega)).trans mp1)
      have hv1_3_101 := ((o98 (101) (by omega)).trans mp2)
      have hv1_4_102 := ((o98 (102) (by omega)).trans mp3)
      have hv1_5_103 := ((o98 (103) (by omega)).trans mp4)
      have hv1_6_104 := ((o98 (104) (by omega)).trans mp5)
      have hv1_7_106 := ((o98 (106) (by omega)).trans mp7)
      have hv1_8_107 := ((o98 (107) (by omega)).trans mp8)
      have hv1_9_108 := ((o98 (108) (by omega)).trans mp9)
      have hv1_10_109 := ((o98 (109) (by omega)).trans mp10)
      have hv1_11_110 := ((o98 (110) (by omega)).trans mp11)
      have hv1_12_111 := ((o98 (111) (by omega)).trans mp12)
      have hv1_13_112 := ((o98 (112) (by omega)).trans mp13)
      have hv1_14_113 := ((o98 (113) (by omega)).trans mp14)
      refine x_pick (L' := [(6, .int (nI (i + 1))), (5, .int (nI g)), (3, .long (lN (fb_sm (mkN t B wv tv g f) (i + 1)))), (0, .ref 99), (1, .int wv), (2, .int tv)]) [0, 3, 1, 4, 5, 6] rfl ?_
      exact ih (i + 1) M98 (by omega) ⟨hv1_1_99, hv1_2_100, hv1_3_101, hv1_4_102, hv1_5_103, hv1_6_104, w98, hv1_7_106, hv1_8_107, hv1_9_108, hv1_10_109, hv1_11_110, hv1_12_111, hv1_13_112, hv1_14_113⟩ (fun j hj => ((o98 j (by omega)).trans (hf j hj)))

set_option maxHeartbeats 4000000 in
set_option maxRecDepth 100000 in
theorem l_m_ways {n P W G B : Nat} {wv tv : Int32} {t τ : Nat → Nat → Int32} {u : Nat → Nat → Int64} {Q : Option Value → (Nat → xE) → Prop} {M0 : Nat → xE} (hn : 113 < n) (hw : RT τ P W G (t 0)) (hk : TOK τ P W G) (hB : B ≤ 6) (hB0 : t 18 0 = nI B) : ∀ (k : Nat) (M : Nat → xE) (f : Nat → Nat) (s : Nat) (h : Nat → Int64), (k ≤ 10) → (oX11 99 t (uT u (fun j => lN (f j)) h) M) → (xfr 99 114 M0 M) → (∀ M' u', oX11 99 t u' M' → xfr 99 114 M0 M' → Q (some (.long (lN (wyR τ t B wv tv k f s)))) M') → X mX11_ways 0 0 26 [(5, .int (nI k - 1)), (3, .long (lN s)), (0, .ref 99), (1, .int wv), (2, .int tv)] [] n M (Q) := by
  intro k
  induction k with
  | zero =>
    intro M f s h hk9 hM hf hQ
    have hM0 := hM
    obtain ⟨mp0, mp1, mp2, mp3, mp4, mp5, mp6, mp7, mp8, mp9, mp10, mp11, mp12, mp13, mp14⟩ := hM
    have mp6 : M (99 + 6) = .inl (1, 4, .inr (.inl ((fun j => lN (f j))))) := mp6
    refine x_iload (q := 28) dX11_ways_26 rfl rfl ?_
    refine x_if_lt (t := 130) (q := 31) dX11_ways_28 (by decide) rfl (fun c28 => ?_) (fun c28 => absurd (show nI 0 - 1 < 0 by decide) c28)
    refine x_lload_n (q := 131) dX11_ways_130 rfl rfl ?_
    refine x_lret dX11_ways_131 rfl rfl (Nat.le_refl _) ?_
    exact hQ M _ hM0 hf
  | succ k ih =>
    intro M f s h hk9 hM hf hQ
    have hM0 := hM
    obtain ⟨mp0, mp1, mp2, mp3, mp4, mp5, mp6, mp7, mp8, mp9, mp10, mp11, mp12, mp13, mp14⟩ := hM
    have mp6 : M (99 + 6) = .inl (1, 4, .inr (.inl ((fun j => lN (f j))))) := mp6
    rw [nIk1]
    refine x_iload (q := 28) dX11_ways_26 rfl rfl ?_
    refine x_if_lt (t := 130) (q := 31) dX11_ways_28 (by decide) rfl (fun c28 => absurd c28 (by rw [fa_lt, nI_toInt (by omega)]; show ¬ (k : Int) < 0; omega)) (fun c28 => ?_)
    refine x_lconst (v := 0) (q := 32) dX11_ways_31 rfl (by decide) ?_
    refine x_lstore_n (L' := fun x3_32 => [(3, .long x3_32), (5, .int (nI k)), (0, .ref 99), (1, .int wv), (2, .int tv)]) (q := 33) dX11_ways_32 rfl (by decide) (fun _ => rfl) (fun x3_32 ex3_32 => ?_)
    refine x_iconst (v := 0) (q := 34) dX11_ways_33 rfl (by decide) ?_
    refine x_istore (L' := fun x6_34 => [(6, .int x6_34), (3, .long x3_32), (5, .int (nI k)), (0, .ref 99), (1, .int wv), (2, .int tv)]) (q := 36) dX11_ways_34 rfl (by decide) (fun _ => rfl) (fun x6_34 ex6_34 => ?_)
    obtain rfl : x6_34 = 0 := ex6_34
    obtain rfl : x3_32 = 0 := ex3_32
    refine x_pick (L' := [(6, .int (nI 0)), (5, .int (nI k)), (3, .long (lN (fb_sm (mkN t B wv tv k f) 0))), (0, .ref 99), (1, .int wv), (2, .int tv)]) [0, 2, 1, 3, 4, 5] rfl ?_
    refine l_m_ways1 (t := t) (u := u) (f := f) (M0 := M) (h := h) hn hw hk hB hB0 (g := k) (by omega) (fun M115 k1 k2 => ?_) 4 0 M (by omega) ⟨mp0, mp1, mp2, mp3, mp4, mp5, by rw [mp6]; show _ = Sum.inl (1, 4, Sum.inr (Sum.inl (ldJ (fun j => lN ((mkN t B wv tv k f) j)) (fun j => lN (f j)) 0))); rw [ldJ_0], mp7, mp8, mp9, mp10, mp11, mp12, mp13, mp14⟩ (fun j _ => rfl)
    obtain ⟨kp0, kp1, kp2, kp3, kp4, kp5, kp6, kp7, kp8, kp9, kp10, kp11, kp12, kp13, kp14⟩ := k1
    have kp6 : M115 (99 + 6) = .inl (1, 4, .inr (.inl (ldJ (fun j => lN ((mkN t B wv tv k f) j)) (fun j => lN (f j)) 4))) := kp6
    refine x_fixJ (f' := (fun j => lN ((mkN t B wv tv k f) j))) kp6 (by omega) (fun j hj => (show ldJ (fun j => lN ((mkN t B wv tv k f) j)) (fun j => lN (f j)) 4 j = lN ((mkN t B wv tv k f) j) from if_pos hj)) (fun M9 w9 o9 => ?_)
    refine x_iload (q := 117) dX11_ways_115 rfl rfl ?_
    refine x_if_le (t := 124) (q := 120) dX11_ways_117 (by decide) rfl (fun c117 => ?_) (fun c117 => ?_)
    · refine x_iinc (L' := fun x5_124 => [(5, .int x5_124), (6, .int (nI 4)), (3, .long (lN (fb_sm (mkN t B wv tv k f) 4))), (0, .ref 99), (1, .int wv), (2, .int tv)]) (q := 127) dX11_ways_124 rfl rfl (by decide) (fun _ => rfl) (fun x5_124 ex5_124 => ?_)
      obtain rfl : x5_124 = nI k - 1 := ex5_124.trans (nIp k)
      refine x_goto (q := 26) dX11_ways_127 (by decide) ?_
      have hk0 : ¬ 0 < k := fun h => nI_ge (a := 0) h (by omega) c117
      have hst : wyR τ t B wv tv (k + 1) f s = wyR τ t B wv tv k (mkN t B wv tv k f) (fb_sm (mkN t B wv tv k f) 4) := by rw [wyR, if_neg hk0]
      rw [hst] at hQ
      have hv1_1_99 := ((o9 (99) (by omega)).trans kp0)
      have hv1_2_100 := ((o9 (100) (by omega)).trans kp1)
      have hv1_3_101 := ((o9 (101) (by omega)).trans kp2)
      have hv1_4_102 := ((o9 (102) (by omega)).trans kp3)
      have hv1_5_103 := ((o9 (103) (by omega)).trans kp4)
      have hv1_6_104 := ((o9 (104) (by omega)).trans kp5)
      have hv1_7_106 := ((o9 (106) (by omega)).trans kp7)
      have hv1_8_107 := ((o9 (107) (by omega)).trans kp8)
      have hv1_9_108 := ((o9 (108) (by omega)).trans kp9)
      have hv1_10_109 := ((o9 (109) (by omega)).trans kp10)
      have hv1_11_110 := ((o9 (110) (by omega)).trans kp11)
      have hv1_12_111 := ((o9 (111) (by omega)).trans kp12)
      have hv1_13_112 := ((o9 (112) (by omega)).trans kp13)
      have hv1_14_113 := ((o9 (113) (by omega)).trans kp14)
      refine x_pick (L' := [(5, .int (nI k - 1)), (3, .long (lN (fb_sm (mkN t B wv tv k f) 4))), (0, .ref 99), (1, .int wv), (2, .int tv)]) [0, 2, 3, 4, 5] rfl ?_
      exact ih M9 (mkN t B wv tv k f) (fb_sm (mkN t B wv tv k f) 4) h (by omega) ⟨hv1_1_99, hv1_2_100, hv1_3_101, hv1_4_102, hv1_5_103, hv1_6_104, w9, hv1_7_106, hv1_8_107, hv1_9_108, hv1_10_109, hv1_11_110, hv1_12_111, hv1_13_112, hv1_14_113⟩ (fun j hj => ((o9 j (by omega)).trans ((k2 j hj).trans (hf j hj)))) hQ
    · refine x_aload_n (q := 121) dX11_ways_120 rfl rfl ?_
      have hv1_1_99 := ((o9 (99) (by omega)).trans kp0)
      have hv1_2_100 := ((o9 (100) (by omega)).trans kp1)
      have hv1_3_101 := ((o9 (101) (by omega)).trans kp2)
      have hv1_4_102 := ((o9 (102) (by omega)).trans kp3)
      have hv1_5_103 := ((o9 (103) (by omega)).trans kp4)
      have hv1_6_104 := ((o9 (104) (by omega)).trans kp5)
      have hv1_7_106 := ((o9 (106) (by omega)).trans kp7)
      have hv1_8_107 := ((o9 (107) (by omega)).trans kp8)
      have hv1_9_108 := ((o9 (108) (by omega)).trans kp9)
      have hv1_10_109 := ((o9 (109) (by omega)).trans kp10)
      have hv1_11_110 := ((o9 (110) (by omega)).trans kp11)
      have hv1_12_111 := ((o9 (111) (by omega)).trans kp12)
      have hv1_13_112 := ((o9 (112) (by omega)).trans kp13)
      have hv1_14_113 := ((o9 (113) (by omega)).trans kp14)
      have hob : oX11 99 t (uT u (fun j => lN ((mkN t B wv tv k f) j)) h) M9 := ⟨hv1_1_99, hv1_2_100, hv1_3_101, hv1_4_102, hv1_5_103, hv1_6_104, w9, hv1_7_106, hv1_8_107, hv1_9_108, hv1_10_109, hv1_11_110, hv1_12_111, hv1_13_112, hv1_14_113⟩
      refine x_callV (q := 124) (ci := 11) (c_m_spreads (t := t) (u := uT u (fun j => lN ((mkN t B wv tv k f) j)) h) (f := (mkN t B wv tv k f)) hn hob hw hk (fun j hj => rfl)) eX11_ways_251 gX11_ways_X11_spreads hv1_1_99 (by omega) rfl rfl rfl (Nat.le_of_ble_eq_true rfl) ⟨Nat.le_refl _, Nat.le_refl _⟩ dX11_ways_121 rfl rfl (fun r121 M121 p121 => ?_)
      obtain ⟨rfl, ⟨h2, hV121⟩, fr121⟩ := p121
      have hU121 := hV121
      obtain ⟨y121_0, y121_1, y121_2, y121_3, y121_4, y121_5, y121_6, y121_7, y121_8, y121_9, y121_10, y121_11, y121_12, y121_13, y121_14⟩ := hV121
      refine x_iinc (L' := fun x5_124 => [(5, .int x5_124), (6, .int (nI 4)), (3, .long (lN (fb_sm (mkN t B wv tv k f) 4))), (0, .ref 99), (1, .int wv), (2, .int tv)]) (q := 127) dX11_ways_124 rfl rfl (by decide) (fun _ => rfl) (fun x5_124 ex5_124 => ?_)
      obtain rfl : x5_124 = nI k - 1 := ex5_124.trans (nIp k)
      refine x_goto (q := 26) dX11_ways_127 (by decide) ?_
      have hk0 : 0 < k := Nat.pos_of_ne_zero (fun h => c117 (by rw [h]; decide))
      have hst : wyR τ t B wv tv (k + 1) f s = wyR τ t B wv tv k (gN τ (mkN t B wv tv k f)) (fb_sm (mkN t B wv tv k f) 4) := by rw [wyR, if_pos hk0]
      rw [hst] at hQ
      refine x_pick (L' := [(5, .int (nI k - 1)), (3, .long (lN (fb_sm (mkN t B wv tv k f) 4))), (0, .ref 99), (1, .int wv), (2, .int tv)]) [0, 2, 3, 4, 5] rfl ?_
      exact ih M121 (gN τ (mkN t B wv tv k f)) (fb_sm (mkN t B wv tv k f) 4) h2 (by omega) ⟨y121_0, y121_1, y121_2, y121_3, y121_4, y121_5, y121_6, y121_7, y121_8, y121_9, y121_10, y121_11, y121_12, y121_13, y121_14⟩ (fun j hj => ((fr121 j (by omega)).trans ((o9 j (by omega)).trans ((k2 j hj).trans (hf j hj))))) hQ
    

set_option maxHeartbeats 4000000 in
set_option maxRecDepth 100000 in
theorem c_m_ways {n : Nat} {M : Nat → xE} {t : Nat → Nat → Int32} {u : Nat → Nat → Int64} (hn : 113 < n) (hM : oX11 99 t u M) {τ : Nat → Nat → Int32} {P W G : Nat} (hw : RT τ P W G (t 0)) (hk : TOK τ P W G) {B : Nat} (hB : B ≤ 6) (hB0 : t 18 0 = nI B) {wv tv : Int32} : xMet mX11_ways [.ref 99, .int wv, .int tv] n M (fun r M' => some (.long (lN (wyR τ t B wv tv 10 (fun _ => 1) 0))) = r ∧ (∃ u', oX11 99 t u' M') ∧ xfr 99 114 M M') := by
  have hM0 := hM
  obtain ⟨mp0, mp1, mp2, mp3, mp4, mp5, mp6, mp7, mp8, mp9, mp10, mp11, mp12, mp13, mp14⟩ := hM
  refine xMet.of _ (by decide) rfl (Nat.le_of_ble_eq_true rfl) ?_
  refine x_iconst (v := 0) (q := 1) dX11_ways_0 rfl (by decide) ?_
  refine x_istore_n (L' := fun x3_1 => [(3, .int x3_1), (0, .ref 99), (1, .int wv), (2, .int tv)]) (q := 2) dX11_ways_1 rfl (by decide) (fun _ => rfl) (fun x3_1 ex3_1 => ?_)
  subst ex3_1
  refine l_m_ways0 (f := fun _ => 1) (t := t) (u := u) (M0 := M) hn hw hk hB hB0 (fun M20 k1 k2 => ?_) 4 0 M (by omega) ⟨mp0, mp1, mp2, mp3, mp4, mp5, by rw [mp6]; show _ = Sum.inl (1, 4, Sum.inr (Sum.inl (ldJ (fun _ => lN 1) (u 14) 0))); rw [ldJ_0], mp7, mp8, mp9, mp10, mp11, mp12, mp13, mp14⟩ (fun j _ => rfl)
  obtain ⟨kp0, kp1, kp2, kp3, kp4, kp5, kp6, kp7, kp8, kp9, kp10, kp11, kp12, kp13, kp14⟩ := k1
  have kp6 : M20 (99 + 6) = .inl (1, 4, .inr (.inl (ldJ (fun _ => lN 1) (u 14) 4))) := kp6
  refine x_fixJ (f' := (fun _ => lN 1)) kp6 (by omega) (fun j hj => (show ldJ (fun _ => lN 1) (u 14) 4 j = lN 1 from if_pos hj)) (fun M9 w9 o9 => ?_)
  refine x_lconst (v := 0) (q := 21) dX11_ways_20 rfl (by decide) ?_
  refine x_lstore_n (L' := fun x3_21 => [(3, .long x3_21), (0, .ref 99), (1, .int wv), (2, .int tv)]) (q := 22) dX11_ways_21 rfl (by decide) (fun _ => rfl) (fun x3_21 ex3_21 => ?_)
  refine x_bipush (v := 9) (q := 24) dX11_ways_22 rfl (by decide) ?_
  refine x_istore (L' := fun x5_24 => [(5, .int x5_24), (3, .long x3_21), (0, .ref 99), (1, .int wv), (2, .int tv)]) (q := 26) dX11_ways_24 rfl (by decide) (fun _ => rfl) (fun x5_24 ex5_24 => ?_)
  obtain rfl : x5_24 = 9 := ex5_24
  obtain rfl : x3_21 = 0 := ex3_21
  refine x_pick (L' := [(5, .int (nI 10 - 1)), (3, .long (lN 0)), (0, .ref 99), (1, .int wv), (2, .int tv)]) [0, 1, 2, 3, 4] rfl ?_
  have hv1_1_99 := ((o9 (99) (by omega)).trans kp0)
  have hv1_2_100 := ((o9 (100) (by omega)).trans kp1)
  have hv1_3_101 := ((o9 (101) (by omega)).trans kp2)
  have hv1_4_102 := ((o9 (102) (by omega)).trans kp3)
  have hv1_5_103 := ((o9 (103) (by omega)).trans kp4)
  have hv1_6_104 := ((o9 (104) (by omega)).trans kp5)
  have hv1_7_106 := ((o9 (106) (by omega)).trans kp7)
  have hv1_8_107 := ((o9 (107) (by omega)).trans kp8)
  have hv1_9_108 := ((o9 (108) (by omega)).trans kp9)
  have hv1_10_109 := ((o9 (109) (by omega)).trans kp10)
  have hv1_11_110 := ((o9 (110) (by omega)).trans kp11)
  have hv1_12_111 := ((o9 (111) (by omega)).trans kp12)
  have hv1_13_112 := ((o9 (112) (by omega)).trans kp13)
  have hv1_14_113 := ((o9 (113) (by omega)).trans kp14)
  exact l_m_ways (t := t) (u := u) (M0 := M9) hn hw hk hB hB0 10 M9 (fun _ => 1) 0 (u 15) (by omega) ⟨hv1_1_99, hv1_2_100, hv1_3_101, hv1_4_102, hv1_5_103, hv1_6_104, w9, hv1_7_106, hv1_8_107, hv1_9_108, hv1_10_109, hv1_11_110, hv1_12_111, hv1_13_112, hv1_14_113⟩ (fun j _ => rfl) (fun M' u' h1 h3 => ⟨rfl, ⟨u', h1⟩, fun j hj => (h3 j hj).trans ((o9 j (by omega)).trans (k2 j hj))⟩)
  

def mLikely (τ t : Nat → Nat → Int32) (B : Nat) (a b c : Int32) : Int64 := if inB a 4 = true then (if inB b 10 = true then (if inB c 2 = true then (if wyR τ t B (-1) b 10 (fun _ => 1) 0 = 0 then -4 else if c = 0 then lN (wyR τ t B a b 10 (fun _ => 1) 0 / Nat.gcd (wyR τ t B a b 10 (fun _ => 1) 0) (wyR τ t B (-1) b 10 (fun _ => 1) 0)) else lN (wyR τ t B (-1) b 10 (fun _ => 1) 0 / Nat.gcd (wyR τ t B a b 10 (fun _ => 1) 0) (wyR τ t B (-1) b 10 (fun _ => 1) 0))) else -3) else -3) else -2
set_option maxHeartbeats 4000000 in
set_option maxRecDepth 100000 in
theorem c_m_likely {n : Nat} {M : Nat → xE} {t : Nat → Nat → Int32} {u : Nat → Nat → Int64} (hn : 113 < n) (hM : oX11 99 t u M) {τ : Nat → Nat → Int32} {P W G : Nat} (hw : RT τ P W G (t 0)) (hk : TOK τ P W G) {B : Nat} (hB : B ≤ 6) (hB0 : t 18 0 = nI B) {a b c : Int32} : xMet mX11_likely [.ref 99, .int a, .int b, .int c] n M (fun r M' => some (.long (mLikely τ t B a b c)) = r ∧ (∃ u', oX11 99 t u' M') ∧ xfr 99 114 M M') := by
  have hM0 := hM
  obtain ⟨mp0, mp1, mp2, mp3, mp4, mp5, mp6, mp7, mp8, mp9, mp10, mp11, mp12, mp13, mp14⟩ := hM
  have hiX11 : ∀ w ∈ wsX110, w ∈ wsX11_likely := by decide +kernel
  refine xMet.of _ (by decide) rfl (Nat.le_of_ble_eq_true rfl) ?_
  refine x_iload_n (q := 1) dX11_likely_0 rfl rfl ?_
  refine x_callS (q := 4) c_m_isWorld eX11_likely_244 gX11_likely_X11_isWorld rfl (Nat.le_of_ble_eq_true rfl) ⟨Nat.le_refl _, Nat.le_refl _⟩ dX11_likely_1 rfl rfl (fun r1 M1 p1 => ?_)
  obtain ⟨rfl, p1⟩ := p1
  rcases p1 with ⟨b1, rfl⟩ | ⟨b1, rfl⟩
  · refine x_if_ne (t := 11) (q := 7) dX11_likely_4 (by decide) rfl (fun c4 => ?_) (fun c4 => absurd c4 (by decide))
    refine x_iload_n (q := 12) dX11_likely_11 rfl rfl ?_
    refine x_i2l (q := 13) dX11_likely_12 rfl ?_
    refine x_lconst (v := 0) (q := 14) dX11_likely_13 rfl (by decide) ?_
    refine x_ldc2 (v := 9) (q := 17) (by decide +kernel) dX11_likely_14 rfl ?_
    refine x_callS (q := 20) c_m_in eX11_likely_65 gX11_likely_X11_in rfl (Nat.le_of_ble_eq_true rfl) ⟨Nat.le_refl _, Nat.le_refl _⟩ dX11_likely_17 rfl rfl (fun r17 M17 p17 => ?_)
    obtain ⟨rfl, p17⟩ := p17
    rcases p17 with ⟨b17, rfl⟩ | ⟨b17, rfl⟩
    · refine x_if_eq (t := 30) (q := 23) dX11_likely_20 (by decide) rfl (fun c20 => absurd c20 (by decide)) (fun c20 => ?_)
      refine x_iload_n (q := 24) dX11_likely_23 rfl rfl ?_
      refine x_callS (q := 27) c_m_isFlag eX11_likely_181 gX11_likely_X11_isFlag rfl (Nat.le_of_ble_eq_true rfl) ⟨Nat.le_refl _, Nat.le_refl _⟩ dX11_likely_24 rfl rfl (fun r24 M24 p24 => ?_)
      obtain ⟨rfl, p24⟩ := p24
      rcases p24 with ⟨b24, rfl⟩ | ⟨b24, rfl⟩
      · refine x_if_ne (t := 34) (q := 30) dX11_likely_27 (by decide) rfl (fun c27 => ?_) (fun c27 => absurd c27 (by decide))
        refine x_aload_n (q := 35) dX11_likely_34 rfl rfl ?_
        refine x_iconst (v := -1) (q := 36) dX11_likely_35 rfl (by decide) ?_
        refine x_iload_n (q := 37) dX11_likely_36 rfl rfl ?_
        refine x_callV (q := 40) (ci := 11) (c_m_ways (t := t) (u := u) hn hM0 hw hk hB hB0) eX11_likely_261 gX11_likely_X11_ways mp0 (by omega) rfl rfl rfl (Nat.le_of_ble_eq_true rfl) ⟨Nat.le_refl _, Nat.le_refl _⟩ dX11_likely_37 rfl rfl (fun r37 M37 p37 => ?_)
        obtain ⟨rfl, ⟨u37, hV37⟩, fr37⟩ := p37
        have hU37 := hV37
        obtain ⟨y37_0, y37_1, y37_2, y37_3, y37_4, y37_5, y37_6, y37_7, y37_8, y37_9, y37_10, y37_11, y37_12, y37_13, y37_14⟩ := hV37
        refine x_lstore (L' := fun x4_40 => [(4, .long x4_40), (0, .ref 99), (1, .int a), (2, .int b), (3, .int c)]) (q := 42) dX11_likely_40 rfl (by decide) (fun _ => rfl) (fun x4_40 ex4_40 => ?_)
        obtain rfl : x4_40 = lN (wyR τ t B (-1) b 10 (fun _ => 1) 0) := ex4_40
        refine x_lload (q := 44) dX11_likely_42 rfl rfl ?_
        refine x_lconst (v := 0) (q := 45) dX11_likely_44 rfl (by decide) ?_
        refine x_lcmp (q := 46) dX11_likely_45 rfl ?_
        refine x_if_ne (t := 53) (q := 49) dX11_likely_46 (by decide) rfl (fun c46 => ?_) (fun c46 => ?_)
        · refine x_aload_n (q := 54) dX11_likely_53 rfl rfl ?_
          refine x_aload_n (q := 55) dX11_likely_54 rfl rfl ?_
          refine x_iload_n (q := 56) dX11_likely_55 rfl rfl ?_
          refine x_iload_n (q := 57) dX11_likely_56 rfl rfl ?_
          refine x_callV (q := 60) (ci := 11) (c_m_ways (t := t) (u := u37) hn hU37 hw hk hB hB0) eX11_likely_261 gX11_likely_X11_ways y37_0 (by omega) rfl rfl rfl (Nat.le_of_ble_eq_true rfl) ⟨Nat.le_refl _, Nat.le_refl _⟩ dX11_likely_57 rfl rfl (fun r57 M57 p57 => ?_)
          obtain ⟨rfl, ⟨u57, hV57⟩, fr57⟩ := p57
          have hU57 := hV57
          obtain ⟨y57_0, y57_1, y57_2, y57_3, y57_4, y57_5, y57_6, y57_7, y57_8, y57_9, y57_10, y57_11, y57_12, y57_13, y57_14⟩ := hV57
          refine x_lload (q := 62) dX11_likely_60 rfl rfl ?_
          have hpw := pw63 (show 10 ≤ 10 by omega)
          have hl1 := wyR_le (t := t) (B := B) (wv := -1) (tv := b) hk 10 (fun _ => 1) 0 1 (fun _ => Nat.le_refl _) (by omega)
          have hl2 := wyR_le (t := t) (B := B) (wv := a) (tv := b) hk 10 (fun _ => 1) 0 1 (fun _ => Nat.le_refl _) (by omega)
          have hn0 : ¬ wyR τ t B (-1) b 10 (fun _ => 1) 0 = 0 := fun h => c46 (lcmp0.mpr (by rw [h]; rfl))
          refine x_callV (q := 65) (ci := 11) (c_m_tells (t := t) (u := u57) (a := wyR τ t B a b 10 (fun _ => 1) 0) (b := wyR τ t B (-1) b 10 (fun _ => 1) 0) hn hU57 (by omega) (by omega) (by omega)) eX11_likely_254 gX11_likely_X11_tells y57_0 (by omega) rfl rfl rfl (Nat.le_of_ble_eq_true rfl) ⟨Nat.le_refl _, Nat.le_refl _⟩ dX11_likely_62 rfl rfl (fun r62 M62 p62 => ?_)
          obtain ⟨rfl, hV62, fr62⟩ := p62
          have hU62 := hV62
          obtain ⟨y62_0, y62_1, y62_2, y62_3, y62_4, y62_5, y62_6, y62_7, y62_8, y62_9, y62_10, y62_11, y62_12, y62_13, y62_14⟩ := hV62
          refine x_iload_n (q := 66) dX11_likely_65 rfl rfl ?_
          refine x_if_ne (t := 76) (q := 69) dX11_likely_66 (by decide) rfl (fun c66 => ?_) (fun c66 => ?_)
          · refine x_aload_n (q := 77) dX11_likely_76 rfl rfl ?_
            refine x_getf (C := RX11) (T := TX11) (N := 29) (k := 17) (q := 80) y62_0 (by omega) rfl hiX11 (by decide) (by decide +kernel) rfl dX11_likely_77 rfl ?_
            refine x_lret dX11_likely_80 rfl rfl (Nat.le_refl _) ?_
            refine ⟨?_, ⟨_, hU62⟩, fun j hj => (fr62 j hj).trans ((fr57 j hj).trans (fr37 j hj))⟩
            unfold mLikely
            rw [if_pos b1, if_pos ((mIn2 (k := 9) (by decide) rfl).mp b17), if_pos b24, if_neg hn0]
            first
              | (rw [if_pos c66]; rfl)
              | (rw [if_neg c66]; rfl)
          · refine x_aload_n (q := 70) dX11_likely_69 rfl rfl ?_
            refine x_getf (C := RX11) (T := TX11) (N := 29) (k := 16) (q := 73) y62_0 (by omega) rfl hiX11 (by decide) (by decide +kernel) rfl dX11_likely_70 rfl ?_
            refine x_goto (q := 80) dX11_likely_73 (by decide) ?_
            refine x_lret dX11_likely_80 rfl rfl (Nat.le_refl _) ?_
            refine ⟨?_, ⟨_, hU62⟩, fun j hj => (fr62 j hj).trans ((fr57 j hj).trans (fr37 j hj))⟩
            unfold mLikely
            rw [if_pos b1, if_pos ((mIn2 (k := 9) (by decide) rfl).mp b17), if_pos b24, if_neg hn0]
            first
              | (rw [if_pos c66]; rfl)
              | (rw [if_neg c66]; rfl)
        · refine x_ldc2 (v := -4) (q := 52) (by decide +kernel) dX11_likely_49 rfl ?_
          refine x_lret dX11_likely_52 rfl rfl (Nat.le_refl _) ?_
          refine ⟨?_, ⟨_, hU37⟩, fr37⟩
          unfold mLikely
          have hl1 := wyR_le (t := t) (B := B) (wv := -1) (tv := b) hk 10 (fun _ => 1) 0 1 (fun _ => Nat.le_refl _) (by omega)
          have hpw := pw63 (show 10 ≤ 10 by omega)
          rw [if_pos b1, if_pos ((mIn2 (k := 9) (by decide) rfl).mp b17), if_pos b24, if_pos ((pk_lEQ (by omega) (show 0 < 2 ^ 63 by decide)).mp (lcmp0.mp c46))]
          first | done | rfl
      · refine x_if_ne (t := 34) (q := 30) dX11_likely_27 (by decide) rfl (fun c27 => absurd c27 (by decide)) (fun c27 => ?_)
        refine x_ldc2 (v := -3) (q := 33) (by decide +kernel) dX11_likely_30 rfl ?_
        refine x_lret dX11_likely_33 rfl rfl (Nat.le_refl _) ?_
        refine ⟨?_, ⟨u, hM0⟩, fun j hj => rfl⟩
        unfold mLikely
        rw [if_pos b1, if_pos ((mIn2 (k := 9) (by decide) rfl).mp b17), if_neg b24]
        first | done | rfl
    · refine x_if_eq (t := 30) (q := 23) dX11_likely_20 (by decide) rfl (fun c20 => ?_) (fun c20 => absurd c20 (by decide))
      refine x_ldc2 (v := -3) (q := 33) (by decide +kernel) dX11_likely_30 rfl ?_
      refine x_lret dX11_likely_33 rfl rfl (Nat.le_refl _) ?_
      refine ⟨?_, ⟨u, hM0⟩, fun j hj => rfl⟩
      unfold mLikely
      rw [if_pos b1, if_neg (fun h => b17 ((mIn2 (k := 9) (by decide) rfl).mpr h))]
      first | done | rfl
  · refine x_if_ne (t := 11) (q := 7) dX11_likely_4 (by decide) rfl (fun c4 => absurd c4 (by decide)) (fun c4 => ?_)
    refine x_ldc2 (v := -2) (q := 10) (by decide +kernel) dX11_likely_7 rfl ?_
    refine x_lret dX11_likely_10 rfl rfl (Nat.le_refl _) ?_
    refine ⟨?_, ⟨u, hM0⟩, fun j hj => rfl⟩
    unfold mLikely
    rw [if_neg b1]
    first | done | rfl

