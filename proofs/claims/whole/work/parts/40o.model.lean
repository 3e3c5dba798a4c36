/-- the place of one on a ballot: the first -/
def plF (s : Nat → Int32) (b : Nat) (p : Int32) : Nat → Nat → Nat
  | 0, i => i
  | k + 1, i => if s (5 * b + i) = p then i else plF s b p k (i + 1)
theorem plF_le (s : Nat → Int32) (b : Nat) (p : Int32) : ∀ k i, plF s b p k i ≤ i + k := by
  intro k
  induction k with
  | zero => intro i; exact Nat.le_refl _
  | succ k ih =>
    intro i
    rw [plF]
    split
    · omega
    · have := ih (i + 1); omega
theorem plF_lt (s : Nat → Int32) (b : Nat) (p : Int32) : ∀ k i, (∃ j, i ≤ j ∧ j < i + k ∧ s (5 * b + j) = p) → plF s b p k i < i + k ∧ i ≤ plF s b p k i ∧ s (5 * b + plF s b p k i) = p ∧ ∀ j, i ≤ j → j < plF s b p k i → ¬ s (5 * b + j) = p := by
  intro k
  induction k with
  | zero => rintro i ⟨j, h1, h2, _⟩; omega
  | succ k ih =>
    rintro i ⟨j, h1, h2, h3⟩
    rw [plF]
    by_cases h : s (5 * b + i) = p
    · rw [if_pos h]; exact ⟨by omega, by omega, h, fun j h1 h2 => by omega⟩
    · rw [if_neg h]
      have hij : ¬ j = i := fun e => h (by rw [← e]; exact h3)
      obtain ⟨g1, g2, g3, g4⟩ := ih (i + 1) ⟨j, by omega, by omega, h3⟩
      refine ⟨by omega, by omega, g3, fun j' h1' h2' => ?_⟩
      by_cases e : j' = i
      · rw [e]; exact h
      · exact g4 j' (by omega) h2'
/-- all people stand on every ballot -/
def BOK (s : Nat → Int32) (B P : Nat) : Prop := (∀ b, b < B → ∀ p, p < P → ∃ j, 0 ≤ j ∧ j < 0 + P ∧ s (5 * b + j) = nI p) ∧ (∀ b, b < B → ∀ j, j < P → vp_in (s (5 * b + j)) P) ∧ (B = 0 ∨ 0 < P)
set_option maxHeartbeats 4000000 in
set_option maxRecDepth 100000 in
theorem l_m_placeOn {n P W G b : Nat} {p : Int32} {t τ : Nat → Nat → Int32} {u : Nat → Nat → Int64} {Q : Option Value → (Nat → xE) → Prop} (hn : 113 < n) (hw : RT τ P W G (t 0)) (hb : b < 9) : ∀ (k i : Nat) (M : Nat → xE), i + k = P → (oX11 99 t u M) → (∃ j, i ≤ j ∧ j < i + k ∧ t 28 (5 * b + j) = p) → (Q (some (.int (nI (plF (t 28) b p k i)))) M) → X mX11_placeOn 0 0 2 [(3, .int (nI i)), (0, .ref 99), (1, .int (nI b)), (2, .int p)] [] n M (Q) := by
  have hiX11 : ∀ w ∈ wsX110, w ∈ wsX11_placeOn := by decide +kernel
  intro k
  induction k with
  | zero =>
    intro i M hik hM hx hQ
    obtain ⟨j, h1, h2, _⟩ := hx; omega
  | succ k ih =>
    intro i M hik hM hx hQ
    have hM0 := hM
    obtain ⟨mp0, mp1, mp2, mp3, mp4, mp5, mp6, mp7, mp8, mp9, mp10, mp11, mp12, mp13, mp14⟩ := hM
    have hP5 := rtP hw
    refine x_aload_n (q := 3) dX11_placeOn_2 rfl rfl ?_
    refine x_getf (C := RX11) (T := TX11) (N := 29) (k := 28) (q := 6) mp0 (by omega) rfl hiX11 (by decide) (by decide +kernel) rfl dX11_placeOn_3 rfl ?_
    refine x_iconst (v := 5) (q := 7) dX11_placeOn_6 rfl (by decide) ?_
    refine x_iload_n (q := 8) dX11_placeOn_7 rfl rfl ?_
    refine x_imul (q := 9) dX11_placeOn_8 rfl ?_
    refine x_iload_n (q := 10) dX11_placeOn_9 rfl rfl ?_
    refine x_iadd (q := 11) dX11_placeOn_10 rfl ?_
    refine x_iald (q := 12) mp14 (by omega) (ixI (show (((5 * nI b) + nI i) : Int32) = nI ((5 * b) + i) from (nIs (nIm rfl rfl) rfl)) (by omega) (by decide)) dX11_placeOn_11 rfl ?_
    rw [ixC (show (((5 * nI b) + nI i) : Int32) = nI ((5 * b) + i) from (nIs (nIm rfl rfl) rfl)) (by omega)]
    refine x_iload_n (q := 13) dX11_placeOn_12 rfl rfl ?_
    refine x_icmp_eq (t := 22) (q := 16) dX11_placeOn_13 (by decide) rfl (fun c13 => ?_) (fun c13 => ?_)
    · refine x_iload_n (q := 23) dX11_placeOn_22 rfl rfl ?_
      refine x_iret dX11_placeOn_23 rfl rfl (Nat.le_refl _) ?_
      rw [plF, if_pos c13] at hQ
      exact hQ
    · refine x_iinc (L' := fun x3_16 => [(3, .int x3_16), (0, .ref 99), (1, .int (nI b)), (2, .int p)]) (q := 19) dX11_placeOn_16 rfl rfl (by decide) (fun _ => rfl) (fun x3_16 ex3_16 => ?_)
      obtain rfl : x3_16 = nI (i + 1) := ex3_16.trans (nI_1 i)
      refine x_goto (q := 2) dX11_placeOn_19 (by decide) ?_
      refine x_pick (L' := [(3, .int (nI (i + 1))), (0, .ref 99), (1, .int (nI b)), (2, .int p)]) [0, 1, 2, 3] rfl ?_
      exact ih (i + 1) M (by omega) hM0 (by obtain ⟨j, h1, h2, h3⟩ := hx; exact ⟨j, Nat.lt_of_le_of_ne h1 (fun e => c13 (by rw [e]; exact h3)), by omega, h3⟩) (by rw [plF, if_neg c13] at hQ; exact hQ)

set_option maxHeartbeats 4000000 in
set_option maxRecDepth 100000 in
theorem c_m_placeOn {n : Nat} {M : Nat → xE} {t : Nat → Nat → Int32} {u : Nat → Nat → Int64} (hn : 113 < n) (hM : oX11 99 t u M) {τ : Nat → Nat → Int32} {P W G : Nat} (hw : RT τ P W G (t 0)) {b : Nat} (hb : b < 9) {p : Int32} (hx : ∃ j, 0 ≤ j ∧ j < 0 + P ∧ t 28 (5 * b + j) = p) : xMet mX11_placeOn [.ref 99, .int (nI b), .int p] n M (fun r M' => M = M' ∧ some (.int (nI (plF (t 28) b p P 0))) = r) := by
  have hM0 := hM
  obtain ⟨mp0, mp1, mp2, mp3, mp4, mp5, mp6, mp7, mp8, mp9, mp10, mp11, mp12, mp13, mp14⟩ := hM
  refine xMet.of _ (by decide) rfl (Nat.le_of_ble_eq_true rfl) ?_
  refine x_iconst (v := 0) (q := 1) dX11_placeOn_0 rfl (by decide) ?_
  refine x_istore_n (L' := fun x3_1 => [(3, .int x3_1), (0, .ref 99), (1, .int (nI b)), (2, .int p)]) (q := 2) dX11_placeOn_1 rfl (by decide) (fun _ => rfl) (fun x3_1 ex3_1 => ?_)
  subst ex3_1
  exact l_m_placeOn hn hw hb P 0 M (by omega) hM0 hx ⟨rfl, rfl⟩

def fcN (s : Nat → Int32) (bv ov : Int32) (p : Nat) : Nat → Nat
  | 0 => 0
  | k + 1 => fcN s bv ov p k + (if (if nI k = bv then ov else s (5 * k)) = nI p then 1 else 0)
theorem fcN_s {s : Nat → Int32} {bv ov : Int32} {p k : Nat} : nI (fcN s bv ov p (k + 1)) = nI (fcN s bv ov p k) + (if (if nI k = bv then ov else s (5 * k)) = nI p then 1 else 0) := by
  rw [fcN]
  generalize (if nI k = bv then ov else s (5 * k)) = y
  by_cases h : y = nI p
  · rw [if_pos h, if_pos h, nI_1]
  · rw [if_neg h, if_neg h, Int32.add_zero, Nat.add_zero]
def fbN (s : Nat → Int32) (B P : Nat) (bv ov : Int32) : Nat := (pbF (fun p => nI (fcN s bv ov p B)) P).2
theorem fbN_lt {s : Nat → Int32} {B P : Nat} {bv ov : Int32} (h : 0 < P) : fbN s B P bv ov < P := by
  unfold fbN
  have : ∀ n, 0 < n → (pbF (fun p => nI (fcN s bv ov p B)) n).2 < n := by
    intro n
    induction n with
    | zero => intro h; omega
    | succ n ih =>
      intro _
      rw [pbF]
      by_cases h : (pbF (fun p => nI (fcN s bv ov p B)) n).1 < nI (fcN s bv ov n B)
      · rw [if_pos h]; exact Nat.lt_succ_self n
      · rw [if_neg h]
        rcases Nat.eq_zero_or_pos n with e | e
        · subst e; exact Nat.lt_succ_self 0
        · have := ih e; omega
  exact this P h
set_option maxHeartbeats 4000000 in
set_option maxRecDepth 100000 in
theorem l_m_first1 {n P W G B : Nat} {bv ov m bs : Int32} {g : Nat} {t τ : Nat → Nat → Int32} {u : Nat → Nat → Int64} {Q : Option Value → (Nat → xE) → Prop} (hn : 113 < n) (hw : RT τ P W G (t 0)) (hB : B ≤ 9) (hB0 : t 27 0 = nI B) : ∀ (k i : Nat) (M : Nat → xE), i + k = B → (oX11 99 t u M) → (X mX11_firstBy 0 0 74 [(7, .int (nI B)), (6, .int (nI (fcN (t 28) bv ov g B))), (5, .int (nI g)), (4, .int m), (3, .int bs), (0, .ref 99), (1, .int bv), (2, .int ov)] [] n M Q) → X mX11_firstBy 0 0 25 [(7, .int (nI i)), (6, .int (nI (fcN (t 28) bv ov g i))), (5, .int (nI g)), (4, .int m), (3, .int bs), (0, .ref 99), (1, .int bv), (2, .int ov)] [] n M (Q) := by
  have hiX11 : ∀ w ∈ wsX110, w ∈ wsX11_firstBy := by decide +kernel
  intro k
  induction k with
  | zero =>
    intro i M hik hM hk1
    have hM0 := hM
    obtain ⟨mp0, mp1, mp2, mp3, mp4, mp5, mp6, mp7, mp8, mp9, mp10, mp11, mp12, mp13, mp14⟩ := hM
    have hP5 := rtP hw
    refine x_iload (q := 27) dX11_firstBy_25 rfl rfl ?_
    refine x_aload_n (q := 28) dX11_firstBy_27 rfl rfl ?_
    refine x_getf (C := RX11) (T := TX11) (N := 29) (k := 27) (q := 31) mp0 (by omega) rfl hiX11 (by decide) (by decide +kernel) rfl dX11_firstBy_28 rfl ?_
    rw [hB0]
    refine x_icmp_ge (t := 74) (q := 34) dX11_firstBy_31 (by decide) rfl (fun c31 => ?_) (fun c31 => absurd (by rw [show i = B by omega]; exact nI_le (Nat.le_refl _) (by omega)) c31)
    have e9 : i = B := by omega
    subst e9
    exact hk1
  | succ k ih =>
    intro i M hik hM hk1
    have hM0 := hM
    obtain ⟨mp0, mp1, mp2, mp3, mp4, mp5, mp6, mp7, mp8, mp9, mp10, mp11, mp12, mp13, mp14⟩ := hM
    have hP5 := rtP hw
    refine x_iload (q := 27) dX11_firstBy_25 rfl rfl ?_
    refine x_aload_n (q := 28) dX11_firstBy_27 rfl rfl ?_
    refine x_getf (C := RX11) (T := TX11) (N := 29) (k := 27) (q := 31) mp0 (by omega) rfl hiX11 (by decide) (by decide +kernel) rfl dX11_firstBy_28 rfl ?_
    rw [hB0]
    refine x_icmp_ge (t := 74) (q := 34) dX11_firstBy_31 (by decide) rfl (fun c31 => absurd c31 (nI_ge (a := i) (b := B) (by omega) (by omega))) (fun c31 => ?_)
    refine x_iload (q := 36) dX11_firstBy_34 rfl rfl ?_
    refine x_iload (q := 38) dX11_firstBy_36 rfl rfl ?_
    refine x_iload_n (q := 39) dX11_firstBy_38 rfl rfl ?_
    refine x_icmp_ne (t := 46) (q := 42) dX11_firstBy_39 (by decide) rfl (fun c39 => ?_) (fun c39 => ?_)
    · refine x_aload_n (q := 47) dX11_firstBy_46 rfl rfl ?_
      refine x_getf (C := RX11) (T := TX11) (N := 29) (k := 28) (q := 50) mp0 (by omega) rfl hiX11 (by decide) (by decide +kernel) rfl dX11_firstBy_47 rfl ?_
      refine x_iconst (v := 5) (q := 51) dX11_firstBy_50 rfl (by decide) ?_
      refine x_iload (q := 53) dX11_firstBy_51 rfl rfl ?_
      refine x_imul (q := 54) dX11_firstBy_53 rfl ?_
      refine x_iald (q := 55) mp14 (by omega) (ixI (show ((5 * nI i) : Int32) = nI (5 * i) from (nIm rfl rfl)) (by omega) (by decide)) dX11_firstBy_54 rfl ?_
      rw [ixC (show ((5 * nI i) : Int32) = nI (5 * i) from (nIm rfl rfl)) (by omega)]
      refine x_iload (q := 57) dX11_firstBy_55 rfl rfl ?_
      refine x_icmp_ne (t := 64) (q := 60) dX11_firstBy_57 (by decide) rfl (fun c57 => ?_) (fun c57 => ?_)
      · refine x_iconst (v := 0) (q := 65) dX11_firstBy_64 rfl (by decide) ?_
        refine x_iadd (q := 66) dX11_firstBy_65 rfl ?_
        refine x_istore (L' := fun x6_66 => [(6, .int x6_66), (7, .int (nI i)), (5, .int (nI g)), (4, .int m), (3, .int bs), (0, .ref 99), (1, .int bv), (2, .int ov)]) (q := 68) dX11_firstBy_66 rfl (by decide) (fun _ => rfl) (fun x6_66 ex6_66 => ?_)
        obtain rfl : x6_66 = nI (fcN (t 28) bv ov g (i + 1)) := ex6_66.trans (by rw [fcN_s]; first | (rw [if_pos c39, if_pos c57]; done) | (rw [if_pos c39, if_neg c57]; done) | (rw [if_neg c39, if_pos c57]; done) | (rw [if_neg c39, if_neg c57]; done))
        refine x_iinc (L' := fun x7_68 => [(7, .int x7_68), (6, .int (nI (fcN (t 28) bv ov g (i + 1)))), (5, .int (nI g)), (4, .int m), (3, .int bs), (0, .ref 99), (1, .int bv), (2, .int ov)]) (q := 71) dX11_firstBy_68 rfl rfl (by decide) (fun _ => rfl) (fun x7_68 ex7_68 => ?_)
        obtain rfl : x7_68 = nI (i + 1) := ex7_68.trans (nI_1 i)
        refine x_goto (q := 25) dX11_firstBy_71 (by decide) ?_
        refine x_pick (L' := [(7, .int (nI (i + 1))), (6, .int (nI (fcN (t 28) bv ov g (i + 1)))), (5, .int (nI g)), (4, .int m), (3, .int bs), (0, .ref 99), (1, .int bv), (2, .int ov)]) [0, 1, 2, 3, 4, 5, 6, 7] rfl ?_
        exact ih (i + 1) M (by omega) hM0 hk1
      · refine x_iconst (v := 1) (q := 61) dX11_firstBy_60 rfl (by decide) ?_
        refine x_goto (q := 65) dX11_firstBy_61 (by decide) ?_
        refine x_iadd (q := 66) dX11_firstBy_65 rfl ?_
        refine x_istore (L' := fun x6_66 => [(6, .int x6_66), (7, .int (nI i)), (5, .int (nI g)), (4, .int m), (3, .int bs), (0, .ref 99), (1, .int bv), (2, .int ov)]) (q := 68) dX11_firstBy_66 rfl (by decide) (fun _ => rfl) (fun x6_66 ex6_66 => ?_)
        obtain rfl : x6_66 = nI (fcN (t 28) bv ov g (i + 1)) := ex6_66.trans (by rw [fcN_s]; first | (rw [if_pos c39, if_pos c57]; done) | (rw [if_pos c39, if_neg c57]; done) | (rw [if_neg c39, if_pos c57]; done) | (rw [if_neg c39, if_neg c57]; done))
        refine x_iinc (L' := fun x7_68 => [(7, .int x7_68), (6, .int (nI (fcN (t 28) bv ov g (i + 1)))), (5, .int (nI g)), (4, .int m), (3, .int bs), (0, .ref 99), (1, .int bv), (2, .int ov)]) (q := 71) dX11_firstBy_68 rfl rfl (by decide) (fun _ => rfl) (fun x7_68 ex7_68 => ?_)
        obtain rfl : x7_68 = nI (i + 1) := ex7_68.trans (nI_1 i)
        refine x_goto (q := 25) dX11_firstBy_71 (by decide) ?_
        refine x_pick (L' := [(7, .int (nI (i + 1))), (6, .int (nI (fcN (t 28) bv ov g (i + 1)))), (5, .int (nI g)), (4, .int m), (3, .int bs), (0, .ref 99), (1, .int bv), (2, .int ov)]) [0, 1, 2, 3, 4, 5, 6, 7] rfl ?_
        exact ih (i + 1) M (by omega) hM0 hk1
    · refine x_iload_n (q := 43) dX11_firstBy_42 rfl rfl ?_
      refine x_goto (q := 55) dX11_firstBy_43 (by decide) ?_
      refine x_iload (q := 57) dX11_firstBy_55 rfl rfl ?_
      refine x_icmp_ne (t := 64) (q := 60) dX11_firstBy_57 (by decide) rfl (fun c57 => ?_) (fun c57 => ?_)
      · refine x_iconst (v := 0) (q := 65) dX11_firstBy_64 rfl (by decide) ?_
        refine x_iadd (q := 66) dX11_firstBy_65 rfl ?_
        refine x_istore (L' := fun x6_66 => [(6, .int x6_66), (7, .int (nI i)), (5, .int (nI g)), (4, .int m), (3, .int bs), (0, .ref 99), (1, .int bv), (2, .int ov)]) (q := 68) dX11_firstBy_66 rfl (by decide) (fun _ => rfl) (fun x6_66 ex6_66 => ?_)
        obtain rfl : x6_66 = nI (fcN (t 28) bv ov g (i + 1)) := ex6_66.trans (by rw [fcN_s]; first | (rw [if_pos c39, if_pos c57]; done) | (rw [if_pos c39, if_neg c57]; done) | (rw [if_neg c39, if_pos c57]; done) | (rw [if_neg c39, if_neg c57]; done))
        refine x_iinc (L' := fun x7_68 => [(7, .int x7_68), (6, .int (nI (fcN (t 28) bv ov g (i + 1)))), (5, .int (nI g)), (4, .int m), (3, .int bs), (0, .ref 99), (1, .int bv), (2, .int ov)]) (q := 71) dX11_firstBy_68 rfl rfl (by decide) (fun _ => rfl) (fun x7_68 ex7_68 => ?_)
        obtain rfl : x7_68 = nI (i + 1) := ex7_68.trans (nI_1 i)
        refine x_goto (q := 25) dX11_firstBy_71 (by decide) ?_
        refine x_pick (L' := [(7, .int (nI (i + 1))), (6, .int (nI (fcN (t 28) bv ov g (i + 1)))), (5, .int (nI g)), (4, .int m), (3, .int bs), (0, .ref 99), (1, .int bv), (2, .int ov)]) [0, 1, 2, 3, 4, 5, 6, 7] rfl ?_
        exact ih (i + 1) M (by omega) hM0 hk1
      · refine x_iconst (v := 1) (q := 61) dX11_firstBy_60 rfl (by decide) ?_
        refine x_goto (q := 65) dX11_firstBy_61 (by decide) ?_
        refine x_iadd (q := 66) dX11_firstBy_65 rfl ?_
        refine x_istore (L' := fun x6_66 => [(6, .int x6_66), (7, .int (nI i)), (5, .int (nI g)), (4, .int m), (3, .int bs), (0, .ref 99), (1, .int bv), (2, .int ov)]) (q := 68) dX11_firstBy_66 rfl (by decide) (fun _ => rfl) (fun x6_66 ex6_66 => ?_)
        obtain rfl : x6_66 = nI (fcN (t 28) bv ov g (i + 1)) := ex6_66.trans (by rw [fcN_s]; first | (rw [if_pos c39, if_pos c57]; done) | (rw [if_pos c39, if_neg c57]; done) | (rw [if_neg c39, if_pos c57]; done) | (rw [if_neg c39, if_neg c57]; done))
        refine x_iinc (L' := fun x7_68 => [(7, .int x7_68), (6, .int (nI (fcN (t 28) bv ov g (i + 1)))), (5, .int (nI g)), (4, .int m), (3, .int bs), (0, .ref 99), (1, .int bv), (2, .int ov)]) (q := 71) dX11_firstBy_68 rfl rfl (by decide) (fun _ => rfl) (fun x7_68 ex7_68 => ?_)
        obtain rfl : x7_68 = nI (i + 1) := ex7_68.trans (nI_1 i)
        refine x_goto (q := 25) dX11_firstBy_71 (by decide) ?_
        refine x_pick (L' := [(7, .int (nI (i + 1))), (6, .int (nI (fcN (t 28) bv ov g (i + 1)))), (5, .int (nI g)), (4, .int m), (3, .int bs), (0, .ref 99), (1, .int bv), (2, .int ov)]) [0, 1, 2, 3, 4, 5, 6, 7] rfl ?_
        exact ih (i + 1) M (by omega) hM0 hk1

set_option maxHeartbeats 4000000 in
set_option maxRecDepth 100000 in
theorem l_m_firstBy {n P W G B : Nat} {bv ov : Int32} {t τ : Nat → Nat → Int32} {u : Nat → Nat → Int64} {Q : Option Value → (Nat → xE) → Prop} (hn : 113 < n) (hw : RT τ P W G (t 0)) (hB : B ≤ 9) (hB0 : t 27 0 = nI B) : ∀ (k i : Nat) (M : Nat → xE), i + k = P → (oX11 99 t u M) → (Q (some (.int (nI (fbN (t 28) B P bv ov)))) M) → X mX11_firstBy 0 0 8 [(5, .int (nI i)), (4, .int (pbF (fun p => nI (fcN (t 28) bv ov p B)) i).1), (3, .int (nI (pbF (fun p => nI (fcN (t 28) bv ov p B)) i).2)), (0, .ref 99), (1, .int bv), (2, .int ov)] [] n M (Q) := by
  have hiX11 : ∀ w ∈ wsX110, w ∈ wsX11_firstBy := by decide +kernel
  intro k
  induction k with
  | zero =>
    intro i M hik hM hQ
    have hM0 := hM
    obtain ⟨mp0, mp1, mp2, mp3, mp4, mp5, mp6, mp7, mp8, mp9, mp10, mp11, mp12, mp13, mp14⟩ := hM
    have hP5 := rtP hw
    refine x_iload (q := 10) dX11_firstBy_8 rfl rfl ?_
    refine x_aload_n (q := 11) dX11_firstBy_10 rfl rfl ?_
    refine x_getf (C := RX11) (T := TX11) (N := 29) (k := 0) (q := 14) mp0 (by omega) rfl hiX11 (by decide) (by decide +kernel) rfl dX11_firstBy_11 rfl ?_
    refine x_iconst (v := 0) (q := 15) dX11_firstBy_14 rfl (by decide) ?_
    refine x_iald (q := 16) mp1 (by omega) (ixI (show (0 : Int32) = nI 0 from rfl) (by omega) (by decide)) dX11_firstBy_15 rfl ?_
    rw [ixC (show (0 : Int32) = nI 0 from rfl) (by omega)]
    rw [rtn hw]
    refine x_icmp_ge (t := 110) (q := 19) dX11_firstBy_16 (by decide) rfl (fun c16 => ?_) (fun c16 => absurd (by rw [show i = P by omega]; exact nI_le (Nat.le_refl _) (by omega)) c16)
    refine x_iload_n (q := 111) dX11_firstBy_110 rfl rfl ?_
    refine x_iret dX11_firstBy_111 rfl rfl (Nat.le_refl _) ?_
    rw [show i = P by omega]
    exact hQ
  | succ k ih =>
    intro i M hik hM hQ
    have hM0 := hM
    obtain ⟨mp0, mp1, mp2, mp3, mp4, mp5, mp6, mp7, mp8, mp9, mp10, mp11, mp12, mp13, mp14⟩ := hM
    have hP5 := rtP hw
    refine x_iload (q := 10) dX11_firstBy_8 rfl rfl ?_
    refine x_aload_n (q := 11) dX11_firstBy_10 rfl rfl ?_
    refine x_getf (C := RX11) (T := TX11) (N := 29) (k := 0) (q := 14) mp0 (by omega) rfl hiX11 (by decide) (by decide +kernel) rfl dX11_firstBy_11 rfl ?_
    refine x_iconst (v := 0) (q := 15) dX11_firstBy_14 rfl (by decide) ?_
    refine x_iald (q := 16) mp1 (by omega) (ixI (show (0 : Int32) = nI 0 from rfl) (by omega) (by decide)) dX11_firstBy_15 rfl ?_
    rw [ixC (show (0 : Int32) = nI 0 from rfl) (by omega)]
    rw [rtn hw]
    refine x_icmp_ge (t := 110) (q := 19) dX11_firstBy_16 (by decide) rfl (fun c16 => absurd c16 (nI_ge (a := i) (b := P) (by omega) (by omega))) (fun c16 => ?_)
    refine x_iconst (v := 0) (q := 20) dX11_firstBy_19 rfl (by decide) ?_
    refine x_istore (L' := fun x6_20 => [(6, .int x6_20), (5, .int (nI i)), (4, .int (pbF (fun p => nI (fcN (t 28) bv ov p B)) i).1), (3, .int (nI (pbF (fun p => nI (fcN (t 28) bv ov p B)) i).2)), (0, .ref 99), (1, .int bv), (2, .int ov)]) (q := 22) dX11_firstBy_20 rfl (by decide) (fun _ => rfl) (fun x6_20 ex6_20 => ?_)
    refine x_iconst (v := 0) (q := 23) dX11_firstBy_22 rfl (by decide) ?_
    refine x_istore (L' := fun x7_23 => [(7, .int x7_23), (6, .int x6_20), (5, .int (nI i)), (4, .int (pbF (fun p => nI (fcN (t 28) bv ov p B)) i).1), (3, .int (nI (pbF (fun p => nI (fcN (t 28) bv ov p B)) i).2)), (0, .ref 99), (1, .int bv), (2, .int ov)]) (q := 25) dX11_firstBy_23 rfl (by decide) (fun _ => rfl) (fun x7_23 ex7_23 => ?_)
    subst ex7_23
    subst ex6_20
    refine l_m_first1 (g := i) (m := (pbF (fun p => nI (fcN (t 28) bv ov p B)) i).1) (bs := nI (pbF (fun p => nI (fcN (t 28) bv ov p B)) i).2) hn hw hB hB0 B 0 M (by omega) hM0 ?_
    refine x_iload (q := 76) dX11_firstBy_74 rfl rfl ?_
    refine x_iload (q := 78) dX11_firstBy_76 rfl rfl ?_
    refine x_icmp_le (t := 86) (q := 81) dX11_firstBy_78 (by decide) rfl (fun c78 => ?_) (fun c78 => ?_)
    · refine x_iload_n (q := 87) dX11_firstBy_86 rfl rfl ?_
      refine x_istore_n (L' := fun x3_87 => [(3, .int x3_87), (7, .int (nI B)), (6, .int (nI (fcN (t 28) bv ov i B))), (5, .int (nI i)), (4, .int (pbF (fun p => nI (fcN (t 28) bv ov p B)) i).1), (0, .ref 99), (1, .int bv), (2, .int ov)]) (q := 88) dX11_firstBy_87 rfl (by decide) (fun _ => rfl) (fun x3_87 ex3_87 => ?_)
      obtain rfl : x3_87 = nI (pbF (fun p => nI (fcN (t 28) bv ov p B)) (i + 1)).2 := ex3_87.trans (by first | rw [show pbF (fun p => nI (fcN (t 28) bv ov p B)) (i + 1) = (nI (fcN (t 28) bv ov i B), i) from if_pos (xlt_nle.mp c78)] | rw [show pbF (fun p => nI (fcN (t 28) bv ov p B)) (i + 1) = pbF (fun p => nI (fcN (t 28) bv ov p B)) i from if_neg (fun h => xlt_nle.mpr h c78)])
      refine x_iload (q := 90) dX11_firstBy_88 rfl rfl ?_
      refine x_iload (q := 92) dX11_firstBy_90 rfl rfl ?_
      refine x_icmp_le (t := 100) (q := 95) dX11_firstBy_92 (by decide) rfl (fun c92 => ?_) (fun c92 => absurd c78 c92)
      refine x_iload (q := 102) dX11_firstBy_100 rfl rfl ?_
      refine x_istore (L' := fun x4_102 => [(4, .int x4_102), (3, .int (nI (pbF (fun p => nI (fcN (t 28) bv ov p B)) (i + 1)).2)), (7, .int (nI B)), (6, .int (nI (fcN (t 28) bv ov i B))), (5, .int (nI i)), (0, .ref 99), (1, .int bv), (2, .int ov)]) (q := 104) dX11_firstBy_102 rfl (by decide) (fun _ => rfl) (fun x4_102 ex4_102 => ?_)
      obtain rfl : x4_102 = (pbF (fun p => nI (fcN (t 28) bv ov p B)) (i + 1)).1 := ex4_102.trans (by first | rw [show pbF (fun p => nI (fcN (t 28) bv ov p B)) (i + 1) = (nI (fcN (t 28) bv ov i B), i) from if_pos (xlt_nle.mp c78)] | rw [show pbF (fun p => nI (fcN (t 28) bv ov p B)) (i + 1) = pbF (fun p => nI (fcN (t 28) bv ov p B)) i from if_neg (fun h => xlt_nle.mpr h c78)])
      refine x_iinc (L' := fun x5_104 => [(5, .int x5_104), (4, .int ((pbF (fun p => nI (fcN (t 28) bv ov p B)) (i + 1)).1)), (3, .int (nI (pbF (fun p => nI (fcN (t 28) bv ov p B)) (i + 1)).2)), (7, .int (nI B)), (6, .int (nI (fcN (t 28) bv ov i B))), (0, .ref 99), (1, .int bv), (2, .int ov)]) (q := 107) dX11_firstBy_104 rfl rfl (by decide) (fun _ => rfl) (fun x5_104 ex5_104 => ?_)
      obtain rfl : x5_104 = nI (i + 1) := ex5_104.trans (nI_1 i)
      refine x_goto (q := 8) dX11_firstBy_107 (by decide) ?_
      refine x_pick (L' := [(5, .int (nI (i + 1))), (4, .int (pbF (fun p => nI (fcN (t 28) bv ov p B)) (i + 1)).1), (3, .int (nI (pbF (fun p => nI (fcN (t 28) bv ov p B)) (i + 1)).2)), (0, .ref 99), (1, .int bv), (2, .int ov)]) [0, 1, 2, 5, 6, 7] rfl ?_
      exact ih (i + 1) M (by omega) hM0 hQ
    · refine x_iload (q := 83) dX11_firstBy_81 rfl rfl ?_
      refine x_goto (q := 87) dX11_firstBy_83 (by decide) ?_
      refine x_istore_n (L' := fun x3_87 => [(3, .int x3_87), (7, .int (nI B)), (6, .int (nI (fcN (t 28) bv ov i B))), (5, .int (nI i)), (4, .int (pbF (fun p => nI (fcN (t 28) bv ov p B)) i).1), (0, .ref 99), (1, .int bv), (2, .int ov)]) (q := 88) dX11_firstBy_87 rfl (by decide) (fun _ => rfl) (fun x3_87 ex3_87 => ?_)
      obtain rfl : x3_87 = nI (pbF (fun p => nI (fcN (t 28) bv ov p B)) (i + 1)).2 := ex3_87.trans (by first | rw [show pbF (fun p => nI (fcN (t 28) bv ov p B)) (i + 1) = (nI (fcN (t 28) bv ov i B), i) from if_pos (xlt_nle.mp c78)] | rw [show pbF (fun p => nI (fcN (t 28) bv ov p B)) (i + 1) = pbF (fun p => nI (fcN (t 28) bv ov p B)) i from if_neg (fun h => xlt_nle.mpr h c78)])
      refine x_iload (q := 90) dX11_firstBy_88 rfl rfl ?_
      refine x_iload (q := 92) dX11_firstBy_90 rfl rfl ?_
      refine x_icmp_le (t := 100) (q := 95) dX11_firstBy_92 (by decide) rfl (fun c92 => absurd c92 c78) (fun c92 => ?_)
      refine x_iload (q := 97) dX11_firstBy_95 rfl rfl ?_
      refine x_goto (q := 102) dX11_firstBy_97 (by decide) ?_
      refine x_istore (L' := fun x4_102 => [(4, .int x4_102), (3, .int (nI (pbF (fun p => nI (fcN (t 28) bv ov p B)) (i + 1)).2)), (7, .int (nI B)), (6, .int (nI (fcN (t 28) bv ov i B))), (5, .int (nI i)), (0, .ref 99), (1, .int bv), (2, .int ov)]) (q := 104) dX11_firstBy_102 rfl (by decide) (fun _ => rfl) (fun x4_102 ex4_102 => ?_)
      obtain rfl : x4_102 = (pbF (fun p => nI (fcN (t 28) bv ov p B)) (i + 1)).1 := ex4_102.trans (by first | rw [show pbF (fun p => nI (fcN (t 28) bv ov p B)) (i + 1) = (nI (fcN (t 28) bv ov i B), i) from if_pos (xlt_nle.mp c78)] | rw [show pbF (fun p => nI (fcN (t 28) bv ov p B)) (i + 1) = pbF (fun p => nI (fcN (t 28) bv ov p B)) i from if_neg (fun h => xlt_nle.mpr h c78)])
      refine x_iinc (L' := fun x5_104 => [(5, .int x5_104), (4, .int ((pbF (fun p => nI (fcN (t 28) bv ov p B)) (i + 1)).1)), (3, .int (nI (pbF (fun p => nI (fcN (t 28) bv ov p B)) (i + 1)).2)), (7, .int (nI B)), (6, .int (nI (fcN (t 28) bv ov i B))), (0, .ref 99), (1, .int bv), (2, .int ov)]) (q := 107) dX11_firstBy_104 rfl rfl (by decide) (fun _ => rfl) (fun x5_104 ex5_104 => ?_)
      obtain rfl : x5_104 = nI (i + 1) := ex5_104.trans (nI_1 i)
      refine x_goto (q := 8) dX11_firstBy_107 (by decide) ?_
      refine x_pick (L' := [(5, .int (nI (i + 1))), (4, .int (pbF (fun p => nI (fcN (t 28) bv ov p B)) (i + 1)).1), (3, .int (nI (pbF (fun p => nI (fcN (t 28) bv ov p B)) (i + 1)).2)), (0, .ref 99), (1, .int bv), (2, .int ov)]) [0, 1, 2, 5, 6, 7] rfl ?_
      exact ih (i + 1) M (by omega) hM0 hQ
    

set_option maxHeartbeats 4000000 in
set_option maxRecDepth 100000 in
theorem c_m_firstBy {n : Nat} {M : Nat → xE} {t : Nat → Nat → Int32} {u : Nat → Nat → Int64} (hn : 113 < n) (hM : oX11 99 t u M) {τ : Nat → Nat → Int32} {P W G : Nat} (hw : RT τ P W G (t 0)) {B : Nat} (hB : B ≤ 9) (hB0 : t 27 0 = nI B) {bv ov : Int32} : xMet mX11_firstBy [.ref 99, .int bv, .int ov] n M (fun r M' => M = M' ∧ some (.int (nI (fbN (t 28) B P bv ov))) = r) := by
  have hM0 := hM
  obtain ⟨mp0, mp1, mp2, mp3, mp4, mp5, mp6, mp7, mp8, mp9, mp10, mp11, mp12, mp13, mp14⟩ := hM
  have hP5 := rtP hw
  refine xMet.of _ (by decide) rfl (Nat.le_of_ble_eq_true rfl) ?_
  refine x_iconst (v := 0) (q := 1) dX11_firstBy_0 rfl (by decide) ?_
  refine x_istore_n (L' := fun x3_1 => [(3, .int x3_1), (0, .ref 99), (1, .int bv), (2, .int ov)]) (q := 2) dX11_firstBy_1 rfl (by decide) (fun _ => rfl) (fun x3_1 ex3_1 => ?_)
  refine x_iconst (v := -1) (q := 3) dX11_firstBy_2 rfl (by decide) ?_
  refine x_istore (L' := fun x4_3 => [(4, .int x4_3), (3, .int x3_1), (0, .ref 99), (1, .int bv), (2, .int ov)]) (q := 5) dX11_firstBy_3 rfl (by decide) (fun _ => rfl) (fun x4_3 ex4_3 => ?_)
  refine x_iconst (v := 0) (q := 6) dX11_firstBy_5 rfl (by decide) ?_
  refine x_istore (L' := fun x5_6 => [(5, .int x5_6), (4, .int x4_3), (3, .int x3_1), (0, .ref 99), (1, .int bv), (2, .int ov)]) (q := 8) dX11_firstBy_6 rfl (by decide) (fun _ => rfl) (fun x5_6 ex5_6 => ?_)
  subst ex3_1
  subst ex4_3
  subst ex5_6
  exact l_m_firstBy hn hw hB hB0 P 0 M (by omega) hM0 ⟨rfl, rfl⟩

def ptN (s : Nat → Int32) (P : Nat) (p : Int32) : Nat → Nat
  | 0 => 0
  | k + 1 => ptN s P p k + (P - 1 - plF s k p P 0)
set_option maxHeartbeats 4000000 in
set_option maxRecDepth 100000 in
theorem l_m_pointsOf {n P W G B p : Nat} {t τ : Nat → Nat → Int32} {u : Nat → Nat → Int64} {Q : Option Value → (Nat → xE) → Prop} (hn : 113 < n) (hw : RT τ P W G (t 0)) (hB : B ≤ 9) (hB0 : t 27 0 = nI B) (hO : BOK (t 28) B P) (hp : p < P) : ∀ (k i : Nat) (M : Nat → xE), i + k = B → (oX11 99 t u M) → (Q (some (.int (nI (ptN (t 28) P (nI p) B)))) M) → X mX11_pointsOf 0 0 4 [(3, .int (nI i)), (2, .int (nI (ptN (t 28) P (nI p) i))), (0, .ref 99), (1, .int (nI p))] [] n M (Q) := by
  have hiX11 : ∀ w ∈ wsX110, w ∈ wsX11_pointsOf := by decide +kernel
  intro k
  induction k with
  | zero =>
    intro i M hik hM hQ
    have hM0 := hM
    obtain ⟨mp0, mp1, mp2, mp3, mp4, mp5, mp6, mp7, mp8, mp9, mp10, mp11, mp12, mp13, mp14⟩ := hM
    have hP5 := rtP hw
    refine x_iload_n (q := 5) dX11_pointsOf_4 rfl rfl ?_
    refine x_aload_n (q := 6) dX11_pointsOf_5 rfl rfl ?_
    refine x_getf (C := RX11) (T := TX11) (N := 29) (k := 27) (q := 9) mp0 (by omega) rfl hiX11 (by decide) (by decide +kernel) rfl dX11_pointsOf_6 rfl ?_
    rw [hB0]
    refine x_icmp_ge (t := 36) (q := 12) dX11_pointsOf_9 (by decide) rfl (fun c9 => ?_) (fun c9 => absurd (by rw [show i = B by omega]; exact nI_le (Nat.le_refl _) (by omega)) c9)
    refine x_iload_n (q := 37) dX11_pointsOf_36 rfl rfl ?_
    refine x_iret dX11_pointsOf_37 rfl rfl (Nat.le_refl _) ?_
    rw [show i = B by omega]
    exact hQ
  | succ k ih =>
    intro i M hik hM hQ
    have hM0 := hM
    obtain ⟨mp0, mp1, mp2, mp3, mp4, mp5, mp6, mp7, mp8, mp9, mp10, mp11, mp12, mp13, mp14⟩ := hM
    have hP5 := rtP hw
    refine x_iload_n (q := 5) dX11_pointsOf_4 rfl rfl ?_
    refine x_aload_n (q := 6) dX11_pointsOf_5 rfl rfl ?_
    refine x_getf (C := RX11) (T := TX11) (N := 29) (k := 27) (q := 9) mp0 (by omega) rfl hiX11 (by decide) (by decide +kernel) rfl dX11_pointsOf_6 rfl ?_
    rw [hB0]
    refine x_icmp_ge (t := 36) (q := 12) dX11_pointsOf_9 (by decide) rfl (fun c9 => absurd c9 (nI_ge (a := i) (b := B) (by omega) (by omega))) (fun c9 => ?_)
    refine x_iload_n (q := 13) dX11_pointsOf_12 rfl rfl ?_
    refine x_aload_n (q := 14) dX11_pointsOf_13 rfl rfl ?_
    refine x_getf (C := RX11) (T := TX11) (N := 29) (k := 0) (q := 17) mp0 (by omega) rfl hiX11 (by decide) (by decide +kernel) rfl dX11_pointsOf_14 rfl ?_
    refine x_iconst (v := 0) (q := 18) dX11_pointsOf_17 rfl (by decide) ?_
    refine x_iald (q := 19) mp1 (by omega) (ixI (show (0 : Int32) = nI 0 from rfl) (by omega) (by decide)) dX11_pointsOf_18 rfl ?_
    rw [ixC (show (0 : Int32) = nI 0 from rfl) (by omega)]
    rw [rtn hw]
    refine x_iconst (v := 1) (q := 20) dX11_pointsOf_19 rfl (by decide) ?_
    refine x_isub (q := 21) dX11_pointsOf_20 rfl ?_
    rw [show (nI P - 1 : Int32) = nI (P - 1) from pk_sub (b := 1) (by omega)]
    refine x_aload_n (q := 22) dX11_pointsOf_21 rfl rfl ?_
    refine x_iload_n (q := 23) dX11_pointsOf_22 rfl rfl ?_
    refine x_iload_n (q := 24) dX11_pointsOf_23 rfl rfl ?_
    refine x_callV (q := 27) (ci := 11) (c_m_placeOn hn hM0 hw (b := i) (by omega) (hO.1 i (by omega) p hp)) eX11_pointsOf_283 gX11_pointsOf_X11_placeOn mp0 (by omega) rfl rfl rfl (Nat.le_of_ble_eq_true rfl) ⟨Nat.le_refl _, Nat.le_refl _⟩ dX11_pointsOf_24 rfl rfl (fun r24 M24 p24 => ?_)
    obtain ⟨rfl, rfl⟩ := p24
    refine x_isub (q := 28) dX11_pointsOf_27 rfl ?_
    rw [pk_sub (show plF (t 28) i (nI p) P 0 ≤ P - 1 by have := (plF_lt (t 28) i (nI p) P 0 (hO.1 i (by omega) p hp)).1; omega)]
    refine x_iadd (q := 29) dX11_pointsOf_28 rfl ?_
    refine x_istore_n (L' := fun x2_29 => [(2, .int x2_29), (3, .int (nI i)), (0, .ref 99), (1, .int (nI p))]) (q := 30) dX11_pointsOf_29 rfl (by decide) (fun _ => rfl) (fun x2_29 ex2_29 => ?_)
    obtain rfl : x2_29 = nI (ptN (t 28) P (nI p) (i + 1)) := ex2_29.trans (by rw [nI_add]; rfl)
    refine x_iinc (L' := fun x3_30 => [(3, .int x3_30), (2, .int (nI (ptN (t 28) P (nI p) (i + 1)))), (0, .ref 99), (1, .int (nI p))]) (q := 33) dX11_pointsOf_30 rfl rfl (by decide) (fun _ => rfl) (fun x3_30 ex3_30 => ?_)
    obtain rfl : x3_30 = nI (i + 1) := ex3_30.trans (nI_1 i)
    refine x_goto (q := 4) dX11_pointsOf_33 (by decide) ?_
    refine x_pick (L' := [(3, .int (nI (i + 1))), (2, .int (nI (ptN (t 28) P (nI p) (i + 1)))), (0, .ref 99), (1, .int (nI p))]) [0, 1, 2, 3] rfl ?_
    exact ih (i + 1) M (by omega) hM0 hQ

set_option maxHeartbeats 4000000 in
set_option maxRecDepth 100000 in
theorem c_m_pointsOf {n : Nat} {M : Nat → xE} {t : Nat → Nat → Int32} {u : Nat → Nat → Int64} (hn : 113 < n) (hM : oX11 99 t u M) {τ : Nat → Nat → Int32} {P W G : Nat} (hw : RT τ P W G (t 0)) {B : Nat} (hB : B ≤ 9) (hB0 : t 27 0 = nI B) (hO : BOK (t 28) B P) {p : Nat} (hp : p < P) : xMet mX11_pointsOf [.ref 99, .int (nI p)] n M (fun r M' => M = M' ∧ some (.int (nI (ptN (t 28) P (nI p) B))) = r) := by
  have hM0 := hM
  obtain ⟨mp0, mp1, mp2, mp3, mp4, mp5, mp6, mp7, mp8, mp9, mp10, mp11, mp12, mp13, mp14⟩ := hM
  have hP5 := rtP hw
  refine xMet.of _ (by decide) rfl (Nat.le_of_ble_eq_true rfl) ?_
  refine x_iconst (v := 0) (q := 1) dX11_pointsOf_0 rfl (by decide) ?_
  refine x_istore_n (L' := fun x2_1 => [(2, .int x2_1), (0, .ref 99), (1, .int (nI p))]) (q := 2) dX11_pointsOf_1 rfl (by decide) (fun _ => rfl) (fun x2_1 ex2_1 => ?_)
  refine x_iconst (v := 0) (q := 3) dX11_pointsOf_2 rfl (by decide) ?_
  refine x_istore_n (L' := fun x3_3 => [(3, .int x3_3), (2, .int x2_1), (0, .ref 99), (1, .int (nI p))]) (q := 4) dX11_pointsOf_3 rfl (by decide) (fun _ => rfl) (fun x3_3 ex3_3 => ?_)
  subst ex2_1
  subst ex3_3
  exact l_m_pointsOf hn hw hB hB0 hO hp B 0 M (by omega) hM0 ⟨rfl, rfl⟩

set_option maxHeartbeats 4000000 in
set_option maxRecDepth 100000 in
theorem c_m_points {n : Nat} {M : Nat → xE} {t : Nat → Nat → Int32} {u : Nat → Nat → Int64} (hn : 113 < n) (hM : oX11 99 t u M) {τ : Nat → Nat → Int32} {P W G : Nat} (hw : RT τ P W G (t 0)) {B : Nat} (hB : B ≤ 9) (hB0 : t 27 0 = nI B) (hO : BOK (t 28) B P) {a : Int32} : xMet mX11_points [.ref 99, .int a] n M (fun r M' => M = M' ∧ some (.int (if inB a P = true then nI (ptN (t 28) P a B) else -2)) = r) := by
  have hM0 := hM
  obtain ⟨mp0, mp1, mp2, mp3, mp4, mp5, mp6, mp7, mp8, mp9, mp10, mp11, mp12, mp13, mp14⟩ := hM
  have hP5 := rtP hw
  refine xMet.of _ (by decide) rfl (Nat.le_of_ble_eq_true rfl) ?_
  refine x_aload_n (q := 1) dX11_points_0 rfl rfl ?_
  refine x_iload_n (q := 2) dX11_points_1 rfl rfl ?_
  refine x_callV (q := 5) (ci := 11) (c_m_isOne hn hM0 (rtP hw) (rtn hw)) eX11_points_170 gX11_points_X11_isOne mp0 (by omega) rfl rfl rfl (Nat.le_of_ble_eq_true rfl) ⟨Nat.le_refl _, Nat.le_refl _⟩ dX11_points_2 rfl rfl (fun r2 M2 p2 => ?_)
  obtain ⟨rfl, p2⟩ := p2
  rcases p2 with ⟨b2, rfl⟩ | ⟨b2, rfl⟩
  · obtain ⟨a1, ha1, rfl⟩ := vp_in_of (inB_t.mp b2) (by omega)
    refine x_if_eq (t := 16) (q := 8) dX11_points_5 (by decide) rfl (fun c5 => absurd c5 (by decide)) (fun c5 => ?_)
    refine x_aload_n (q := 9) dX11_points_8 rfl rfl ?_
    refine x_iload_n (q := 10) dX11_points_9 rfl rfl ?_
    refine x_callV (q := 13) (ci := 11) (c_m_pointsOf hn hM0 hw hB hB0 hO ha1) eX11_points_286 gX11_points_X11_pointsOf mp0 (by omega) rfl rfl rfl (Nat.le_of_ble_eq_true rfl) ⟨Nat.le_refl _, Nat.le_refl _⟩ dX11_points_10 rfl rfl (fun r10 M10 p10 => ?_)
    obtain ⟨rfl, rfl⟩ := p10
    refine x_goto (q := 18) dX11_points_13 (by decide) ?_
    refine x_iret dX11_points_18 rfl rfl (Nat.le_refl _) ?_
    refine ⟨rfl, ?_⟩
    rw [if_pos b2]
  · refine x_if_eq (t := 16) (q := 8) dX11_points_5 (by decide) rfl (fun c5 => ?_) (fun c5 => absurd c5 (by decide))
    refine x_bipush (v := -2) (q := 18) dX11_points_16 rfl (by decide) ?_
    refine x_iret dX11_points_18 rfl rfl (Nat.le_refl _) ?_
    refine ⟨rfl, ?_⟩
    rw [if_neg b2]

set_option maxHeartbeats 4000000 in
set_option maxRecDepth 100000 in
theorem l_m_mostPoints {n P W G B : Nat} {t τ : Nat → Nat → Int32} {u : Nat → Nat → Int64} {Q : Option Value → (Nat → xE) → Prop} (hn : 113 < n) (hw : RT τ P W G (t 0)) (hB : B ≤ 9) (hB0 : t 27 0 = nI B) (hO : BOK (t 28) B P) : ∀ (k i : Nat) (M : Nat → xE), i + k = P → (0 < i) → (oX11 99 t u M) → (Q (some (.int (nI (lom (fun j => nI (ptN (t 28) P (nI j) B)) P)))) M) → X mX11_mostPoints 0 0 4 [(2, .int (nI i)), (1, .int (nI (lom (fun j => nI (ptN (t 28) P (nI j) B)) i))), (0, .ref 99)] [] n M (Q) := by
  have hiX11 : ∀ w ∈ wsX110, w ∈ wsX11_mostPoints := by decide +kernel
  intro k
  induction k with
  | zero =>
    intro i M hik hi0 hM hQ
    have hM0 := hM
    obtain ⟨mp0, mp1, mp2, mp3, mp4, mp5, mp6, mp7, mp8, mp9, mp10, mp11, mp12, mp13, mp14⟩ := hM
    have hP5 := rtP hw
    refine x_iload_n (q := 5) dX11_mostPoints_4 rfl rfl ?_
    refine x_aload_n (q := 6) dX11_mostPoints_5 rfl rfl ?_
    refine x_getf (C := RX11) (T := TX11) (N := 29) (k := 0) (q := 9) mp0 (by omega) rfl hiX11 (by decide) (by decide +kernel) rfl dX11_mostPoints_6 rfl ?_
    refine x_iconst (v := 0) (q := 10) dX11_mostPoints_9 rfl (by decide) ?_
    refine x_iald (q := 11) mp1 (by omega) (ixI (show (0 : Int32) = nI 0 from rfl) (by omega) (by decide)) dX11_mostPoints_10 rfl ?_
    rw [ixC (show (0 : Int32) = nI 0 from rfl) (by omega)]
    rw [rtn hw]
    refine x_icmp_ge (t := 39) (q := 14) dX11_mostPoints_11 (by decide) rfl (fun c11 => ?_) (fun c11 => absurd (by rw [show i = P by omega]; exact nI_le (Nat.le_refl _) (by omega)) c11)
    refine x_iload_n (q := 40) dX11_mostPoints_39 rfl rfl ?_
    refine x_iret dX11_mostPoints_40 rfl rfl (Nat.le_refl _) ?_
    rw [show i = P by omega]
    exact hQ
  | succ k ih =>
    intro i M hik hi0 hM hQ
    have hM0 := hM
    obtain ⟨mp0, mp1, mp2, mp3, mp4, mp5, mp6, mp7, mp8, mp9, mp10, mp11, mp12, mp13, mp14⟩ := hM
    have hP5 := rtP hw
    refine x_iload_n (q := 5) dX11_mostPoints_4 rfl rfl ?_
    refine x_aload_n (q := 6) dX11_mostPoints_5 rfl rfl ?_
    refine x_getf (C := RX11) (T := TX11) (N := 29) (k := 0) (q := 9) mp0 (by omega) rfl hiX11 (by decide) (by decide +kernel) rfl dX11_mostPoints_6 rfl ?_
    refine x_iconst (v := 0) (q := 10) dX11_mostPoints_9 rfl (by decide) ?_
    refine x_iald (q := 11) mp1 (by omega) (ixI (show (0 : Int32) = nI 0 from rfl) (by omega) (by decide)) dX11_mostPoints_10 rfl ?_
    rw [ixC (show (0 : Int32) = nI 0 from rfl) (by omega)]
    rw [rtn hw]
    refine x_icmp_ge (t := 39) (q := 14) dX11_mostPoints_11 (by decide) rfl (fun c11 => absurd c11 (nI_ge (a := i) (b := P) (by omega) (by omega))) (fun c11 => ?_)
    refine x_aload_n (q := 15) dX11_mostPoints_14 rfl rfl ?_
    refine x_iload_n (q := 16) dX11_mostPoints_15 rfl rfl ?_
    refine x_callV (q := 19) (ci := 11) (c_m_pointsOf hn hM0 hw hB hB0 hO (p := i) (by omega)) eX11_mostPoints_286 gX11_mostPoints_X11_pointsOf mp0 (by omega) rfl rfl rfl (Nat.le_of_ble_eq_true rfl) ⟨Nat.le_refl _, Nat.le_refl _⟩ dX11_mostPoints_16 rfl rfl (fun r16 M16 p16 => ?_)
    obtain ⟨rfl, rfl⟩ := p16
    refine x_aload_n (q := 20) dX11_mostPoints_19 rfl rfl ?_
    refine x_iload_n (q := 21) dX11_mostPoints_20 rfl rfl ?_
    refine x_callV (q := 24) (ci := 11) (c_m_pointsOf hn hM0 hw hB hB0 hO (p := lom (fun j => nI (ptN (t 28) P (nI j) B)) i) (by have := lom_lt (fun j => nI (ptN (t 28) P (nI j) B)) i hi0; omega)) eX11_mostPoints_286 gX11_mostPoints_X11_pointsOf mp0 (by omega) rfl rfl rfl (Nat.le_of_ble_eq_true rfl) ⟨Nat.le_refl _, Nat.le_refl _⟩ dX11_mostPoints_21 rfl rfl (fun r21 M21 p21 => ?_)
    obtain ⟨rfl, rfl⟩ := p21
    refine x_icmp_le (t := 31) (q := 27) dX11_mostPoints_24 (by decide) rfl (fun c24 => ?_) (fun c24 => ?_)
    · refine x_iload_n (q := 32) dX11_mostPoints_31 rfl rfl ?_
      refine x_istore_n (L' := fun x1_32 => [(1, .int x1_32), (2, .int (nI i)), (0, .ref 99)]) (q := 33) dX11_mostPoints_32 rfl (by decide) (fun _ => rfl) (fun x1_32 ex1_32 => ?_)
      obtain rfl : x1_32 = nI (lom (fun j => nI (ptN (t 28) P (nI j) B)) (i + 1)) := ex1_32.trans (by first | (rw [lom, if_pos ⟨hi0, xlt_nle.mp c24⟩]; done) | (rw [lom, if_neg (fun h => xlt_nle.mpr h.2 c24)]; done))
      refine x_iinc (L' := fun x2_33 => [(2, .int x2_33), (1, .int (nI (lom (fun j => nI (ptN (t 28) P (nI j) B)) (i + 1)))), (0, .ref 99)]) (q := 36) dX11_mostPoints_33 rfl rfl (by decide) (fun _ => rfl) (fun x2_33 ex2_33 => ?_)
      obtain rfl : x2_33 = nI (i + 1) := ex2_33.trans (nI_1 i)
      refine x_goto (q := 4) dX11_mostPoints_36 (by decide) ?_
      refine x_pick (L' := [(2, .int (nI (i + 1))), (1, .int (nI (lom (fun j => nI (ptN (t 28) P (nI j) B)) (i + 1)))), (0, .ref 99)]) [0, 1, 2] rfl ?_
      exact ih (i + 1) M (by omega) (by omega) hM0 hQ
    · refine x_iload_n (q := 28) dX11_mostPoints_27 rfl rfl ?_
      refine x_goto (q := 32) dX11_mostPoints_28 (by decide) ?_
      refine x_istore_n (L' := fun x1_32 => [(1, .int x1_32), (2, .int (nI i)), (0, .ref 99)]) (q := 33) dX11_mostPoints_32 rfl (by decide) (fun _ => rfl) (fun x1_32 ex1_32 => ?_)
      obtain rfl : x1_32 = nI (lom (fun j => nI (ptN (t 28) P (nI j) B)) (i + 1)) := ex1_32.trans (by first | (rw [lom, if_pos ⟨hi0, xlt_nle.mp c24⟩]; done) | (rw [lom, if_neg (fun h => xlt_nle.mpr h.2 c24)]; done))
      refine x_iinc (L' := fun x2_33 => [(2, .int x2_33), (1, .int (nI (lom (fun j => nI (ptN (t 28) P (nI j) B)) (i + 1)))), (0, .ref 99)]) (q := 36) dX11_mostPoints_33 rfl rfl (by decide) (fun _ => rfl) (fun x2_33 ex2_33 => ?_)
      obtain rfl : x2_33 = nI (i + 1) := ex2_33.trans (nI_1 i)
      refine x_goto (q := 4) dX11_mostPoints_36 (by decide) ?_
      refine x_pick (L' := [(2, .int (nI (i + 1))), (1, .int (nI (lom (fun j => nI (ptN (t 28) P (nI j) B)) (i + 1)))), (0, .ref 99)]) [0, 1, 2] rfl ?_
      exact ih (i + 1) M (by omega) (by omega) hM0 hQ

set_option maxHeartbeats 4000000 in
set_option maxRecDepth 100000 in
theorem c_m_mostPoints {n : Nat} {M : Nat → xE} {t : Nat → Nat → Int32} {u : Nat → Nat → Int64} (hn : 113 < n) (hM : oX11 99 t u M) {τ : Nat → Nat → Int32} {P W G : Nat} (hw : RT τ P W G (t 0)) {B : Nat} (hB : B ≤ 9) (hB0 : t 27 0 = nI B) (hO : BOK (t 28) B P) (hP0 : 0 < P) : xMet mX11_mostPoints [.ref 99] n M (fun r M' => M = M' ∧ some (.int (nI (lom (fun j => nI (ptN (t 28) P (nI j) B)) P))) = r) := by
  have hM0 := hM
  obtain ⟨mp0, mp1, mp2, mp3, mp4, mp5, mp6, mp7, mp8, mp9, mp10, mp11, mp12, mp13, mp14⟩ := hM
  have hP5 := rtP hw
  refine xMet.of _ (by decide) rfl (Nat.le_of_ble_eq_true rfl) ?_
  refine x_iconst (v := 0) (q := 1) dX11_mostPoints_0 rfl (by decide) ?_
  refine x_istore_n (L' := fun x1_1 => [(1, .int x1_1), (0, .ref 99)]) (q := 2) dX11_mostPoints_1 rfl (by decide) (fun _ => rfl) (fun x1_1 ex1_1 => ?_)
  refine x_iconst (v := 1) (q := 3) dX11_mostPoints_2 rfl (by decide) ?_
  refine x_istore_n (L' := fun x2_3 => [(2, .int x2_3), (1, .int x1_1), (0, .ref 99)]) (q := 4) dX11_mostPoints_3 rfl (by decide) (fun _ => rfl) (fun x2_3 ex2_3 => ?_)
  subst ex1_1
  subst ex2_3
  exact l_m_mostPoints hn hw hB hB0 hO (P - 1) 1 M (by omega) (by omega) hM0 ⟨rfl, rfl⟩

def mMayor (s : Nat → Int32) (B P : Nat) (a : Int32) : Int32 := if inB a 2 = true then (if B = 0 then -1 else if a = 0 then nI (fbN s B P (-1) 0) else nI (lom (fun j => nI (ptN s P (nI j) B)) P)) else -3
set_option maxHeartbeats 4000000 in
set_option maxRecDepth 100000 in
theorem c_m_mayor {n : Nat} {M : Nat → xE} {t : Nat → Nat → Int32} {u : Nat → Nat → Int64} (hn : 113 < n) (hM : oX11 99 t u M) {τ : Nat → Nat → Int32} {P W G : Nat} (hw : RT τ P W G (t 0)) {B : Nat} (hB : B ≤ 9) (hB0 : t 27 0 = nI B) (hO : BOK (t 28) B P) {a : Int32} : xMet mX11_mayor [.ref 99, .int a] n M (fun r M' => M = M' ∧ some (.int (mMayor (t 28) B P a)) = r) := by
  have hM0 := hM
  obtain ⟨mp0, mp1, mp2, mp3, mp4, mp5, mp6, mp7, mp8, mp9, mp10, mp11, mp12, mp13, mp14⟩ := hM
  have hP5 := rtP hw
  have hiX11 : ∀ w ∈ wsX110, w ∈ wsX11_mayor := by decide +kernel
  refine xMet.of _ (by decide) rfl (Nat.le_of_ble_eq_true rfl) ?_
  refine x_iload_n (q := 1) dX11_mayor_0 rfl rfl ?_
  refine x_callS (q := 4) c_m_isFlag eX11_mayor_181 gX11_mayor_X11_isFlag rfl (Nat.le_of_ble_eq_true rfl) ⟨Nat.le_refl _, Nat.le_refl _⟩ dX11_mayor_1 rfl rfl (fun r1 M1 p1 => ?_)
  obtain ⟨rfl, p1⟩ := p1
  rcases p1 with ⟨b1, rfl⟩ | ⟨b1, rfl⟩
  · refine x_if_ne (t := 10) (q := 7) dX11_mayor_4 (by decide) rfl (fun c4 => ?_) (fun c4 => absurd c4 (by decide))
    refine x_aload_n (q := 11) dX11_mayor_10 rfl rfl ?_
    refine x_getf (C := RX11) (T := TX11) (N := 29) (k := 27) (q := 14) mp0 (by omega) rfl hiX11 (by decide) (by decide +kernel) rfl dX11_mayor_11 rfl ?_
    rw [hB0]
    refine x_if_ne (t := 21) (q := 17) dX11_mayor_14 (by decide) rfl (fun c14 => ?_) (fun c14 => ?_)
    · refine x_iload_n (q := 22) dX11_mayor_21 rfl rfl ?_
      refine x_if_ne (t := 34) (q := 25) dX11_mayor_22 (by decide) rfl (fun c22 => ?_) (fun c22 => ?_)
      · refine x_aload_n (q := 35) dX11_mayor_34 rfl rfl ?_
        have hPp : 0 < P := hO.2.2.elim (fun h => absurd (by rw [h]; rfl) c14) id
        refine x_callV (q := 38) (ci := 11) (c_m_mostPoints hn hM0 hw hB hB0 hO hPp) eX11_mayor_292 gX11_mayor_X11_mostPoints mp0 (by omega) rfl rfl rfl (Nat.le_of_ble_eq_true rfl) ⟨Nat.le_refl _, Nat.le_refl _⟩ dX11_mayor_35 rfl rfl (fun r35 M35 p35 => ?_)
        obtain ⟨rfl, rfl⟩ := p35
        refine x_iret dX11_mayor_38 rfl rfl (Nat.le_refl _) ?_
        refine ⟨rfl, ?_⟩
        unfold mMayor
        rw [if_pos b1]
        first
          | (rw [if_pos (show B = 0 from (nIne (a := B) (b := 0) (by omega) (by decide)).mp c14)]; done)
          | (rw [if_neg (show ¬ B = 0 from fun h => c14 (by rw [h]; rfl)), if_pos c22]; done)
          | (rw [if_neg (show ¬ B = 0 from fun h => c14 (by rw [h]; rfl)), if_neg c22]; done)
      · refine x_aload_n (q := 26) dX11_mayor_25 rfl rfl ?_
        refine x_iconst (v := -1) (q := 27) dX11_mayor_26 rfl (by decide) ?_
        refine x_iconst (v := 0) (q := 28) dX11_mayor_27 rfl (by decide) ?_
        refine x_callV (q := 31) (ci := 11) (c_m_firstBy hn hM0 hw hB hB0) eX11_mayor_289 gX11_mayor_X11_firstBy mp0 (by omega) rfl rfl rfl (Nat.le_of_ble_eq_true rfl) ⟨Nat.le_refl _, Nat.le_refl _⟩ dX11_mayor_28 rfl rfl (fun r28 M28 p28 => ?_)
        obtain ⟨rfl, rfl⟩ := p28
        refine x_goto (q := 38) dX11_mayor_31 (by decide) ?_
        refine x_iret dX11_mayor_38 rfl rfl (Nat.le_refl _) ?_
        refine ⟨rfl, ?_⟩
        unfold mMayor
        rw [if_pos b1]
        first
          | (rw [if_pos (show B = 0 from (nIne (a := B) (b := 0) (by omega) (by decide)).mp c14)]; done)
          | (rw [if_neg (show ¬ B = 0 from fun h => c14 (by rw [h]; rfl)), if_pos c22]; done)
          | (rw [if_neg (show ¬ B = 0 from fun h => c14 (by rw [h]; rfl)), if_neg c22]; done)
    · refine x_iconst (v := -1) (q := 18) dX11_mayor_17 rfl (by decide) ?_
      refine x_goto (q := 38) dX11_mayor_18 (by decide) ?_
      refine x_iret dX11_mayor_38 rfl rfl (Nat.le_refl _) ?_
      refine ⟨rfl, ?_⟩
      unfold mMayor
      rw [if_pos b1]
      first
        | (rw [if_pos (show B = 0 from (nIne (a := B) (b := 0) (by omega) (by decide)).mp c14)]; done)
        | (rw [if_neg (show ¬ B = 0 from fun h => c14 (by rw [h]; rfl)), if_pos c22]; done)
        | (rw [if_neg (show ¬ B = 0 from fun h => c14 (by rw [h]; rfl)), if_neg c22]; done)
  · refine x_if_ne (t := 10) (q := 7) dX11_mayor_4 (by decide) rfl (fun c4 => absurd c4 (by decide)) (fun c4 => ?_)
    refine x_bipush (v := -3) (q := 9) dX11_mayor_7 rfl (by decide) ?_
    refine x_iret dX11_mayor_9 rfl rfl (Nat.le_refl _) ?_
    refine ⟨rfl, ?_⟩
    unfold mMayor
    rw [if_neg b1]

def swI (s : Nat → Int32) (B P b : Nat) : Nat → Bool
  | 0 => false
  | p + 1 => swI s B P b p || decide (plF s b (nI (fbN s B P (nI b) (nI p))) P 0 < plF s b (nI (fbN s B P (-1) 0)) P 0)
theorem or_self1 (x y : Int32) : x ||| y ||| y = x ||| y := by rw [Int32.or_assoc, Int32.or_self]
set_option maxHeartbeats 4000000 in
set_option maxRecDepth 100000 in
theorem l_m_swing1 {n P W G B : Nat} {t τ : Nat → Nat → Int32} {u : Nat → Nat → Int64} {Q : Option Value → (Nat → xE) → Prop} (hn : 113 < n) (hw : RT τ P W G (t 0)) (hB : B ≤ 9) (hB0 : t 27 0 = nI B) (hO : BOK (t 28) B P) {g : Nat} (hg : g < B) : ∀ (k i : Nat) (M : Nat → xE), i + k = P → (oX11 99 t u M) → (X mX11_swing 0 0 70 [(4, .int (nI P)), (3, .int (nI g)), (2, .int (nI (fbN (t 28) B P (-1) 0))), (1, .int (bset (fun b => swI (t 28) B P b P) g ||| (if swI (t 28) B P g P = true then 1 <<< (nI g &&& 31) else 0))), (0, .ref 99)] [] n M Q) → X mX11_swing 0 0 22 [(4, .int (nI i)), (3, .int (nI g)), (2, .int (nI (fbN (t 28) B P (-1) 0))), (1, .int (bset (fun b => swI (t 28) B P b P) g ||| (if swI (t 28) B P g i = true then 1 <<< (nI g &&& 31) else 0))), (0, .ref 99)] [] n M (Q) := by
  have hiX11 : ∀ w ∈ wsX110, w ∈ wsX11_swing := by decide +kernel
  intro k
  induction k with
  | zero =>
    intro i M hik hM hk1
    have hM0 := hM
    obtain ⟨mp0, mp1, mp2, mp3, mp4, mp5, mp6, mp7, mp8, mp9, mp10, mp11, mp12, mp13, mp14⟩ := hM
    have hP5 := rtP hw
    have hl0 := plF_le (t 28) g (nI (fbN (t 28) B P (-1) 0)) P 0
    have hl1 := plF_le (t 28) g (nI (fbN (t 28) B P (nI g) (nI i))) P 0
    refine x_iload (q := 24) dX11_swing_22 rfl rfl ?_
    refine x_aload_n (q := 25) dX11_swing_24 rfl rfl ?_
    refine x_getf (C := RX11) (T := TX11) (N := 29) (k := 0) (q := 28) mp0 (by omega) rfl hiX11 (by decide) (by decide +kernel) rfl dX11_swing_25 rfl ?_
    refine x_iconst (v := 0) (q := 29) dX11_swing_28 rfl (by decide) ?_
    refine x_iald (q := 30) mp1 (by omega) (ixI (show (0 : Int32) = nI 0 from rfl) (by omega) (by decide)) dX11_swing_29 rfl ?_
    rw [ixC (show (0 : Int32) = nI 0 from rfl) (by omega)]
    rw [rtn hw]
    refine x_icmp_ge (t := 70) (q := 33) dX11_swing_30 (by decide) rfl (fun c30 => ?_) (fun c30 => absurd (by rw [show i = P by omega]; exact nI_le (Nat.le_refl _) (by omega)) c30)
    have e9 : i = P := by omega
    subst e9
    exact hk1
  | succ k ih =>
    intro i M hik hM hk1
    have hM0 := hM
    obtain ⟨mp0, mp1, mp2, mp3, mp4, mp5, mp6, mp7, mp8, mp9, mp10, mp11, mp12, mp13, mp14⟩ := hM
    have hP5 := rtP hw
    have hl0 := plF_le (t 28) g (nI (fbN (t 28) B P (-1) 0)) P 0
    have hl1 := plF_le (t 28) g (nI (fbN (t 28) B P (nI g) (nI i))) P 0
    refine x_iload (q := 24) dX11_swing_22 rfl rfl ?_
    refine x_aload_n (q := 25) dX11_swing_24 rfl rfl ?_
    refine x_getf (C := RX11) (T := TX11) (N := 29) (k := 0) (q := 28) mp0 (by omega) rfl hiX11 (by decide) (by decide +kernel) rfl dX11_swing_25 rfl ?_
    refine x_iconst (v := 0) (q := 29) dX11_swing_28 rfl (by decide) ?_
    refine x_iald (q := 30) mp1 (by omega) (ixI (show (0 : Int32) = nI 0 from rfl) (by omega) (by decide)) dX11_swing_29 rfl ?_
    rw [ixC (show (0 : Int32) = nI 0 from rfl) (by omega)]
    rw [rtn hw]
    refine x_icmp_ge (t := 70) (q := 33) dX11_swing_30 (by decide) rfl (fun c30 => absurd c30 (nI_ge (a := i) (b := P) (by omega) (by omega))) (fun c30 => ?_)
    refine x_iload_n (q := 34) dX11_swing_33 rfl rfl ?_
    refine x_aload_n (q := 35) dX11_swing_34 rfl rfl ?_
    refine x_iload_n (q := 36) dX11_swing_35 rfl rfl ?_
    refine x_aload_n (q := 37) dX11_swing_36 rfl rfl ?_
    refine x_iload_n (q := 38) dX11_swing_37 rfl rfl ?_
    refine x_iload (q := 40) dX11_swing_38 rfl rfl ?_
    refine x_callV (q := 43) (ci := 11) (c_m_firstBy hn hM0 hw hB hB0) eX11_swing_289 gX11_swing_X11_firstBy mp0 (by omega) rfl rfl rfl (Nat.le_of_ble_eq_true rfl) ⟨Nat.le_refl _, Nat.le_refl _⟩ dX11_swing_40 rfl rfl (fun r40 M40 p40 => ?_)
    obtain ⟨rfl, rfl⟩ := p40
    refine x_callV (q := 46) (ci := 11) (c_m_placeOn hn hM0 hw (b := g) (by omega) (hO.1 g hg (fbN (t 28) B P (nI g) (nI i)) (fbN_lt (by omega)))) eX11_swing_283 gX11_swing_X11_placeOn mp0 (by omega) rfl rfl rfl (Nat.le_of_ble_eq_true rfl) ⟨Nat.le_refl _, Nat.le_refl _⟩ dX11_swing_43 rfl rfl (fun r43 M43 p43 => ?_)
    obtain ⟨rfl, rfl⟩ := p43
    refine x_aload_n (q := 47) dX11_swing_46 rfl rfl ?_
    refine x_iload_n (q := 48) dX11_swing_47 rfl rfl ?_
    refine x_iload_n (q := 49) dX11_swing_48 rfl rfl ?_
    refine x_callV (q := 52) (ci := 11) (c_m_placeOn hn hM0 hw (b := g) (by omega) (hO.1 g hg (fbN (t 28) B P (-1) 0) (fbN_lt (by omega)))) eX11_swing_283 gX11_swing_X11_placeOn mp0 (by omega) rfl rfl rfl (Nat.le_of_ble_eq_true rfl) ⟨Nat.le_refl _, Nat.le_refl _⟩ dX11_swing_49 rfl rfl (fun r49 M49 p49 => ?_)
    obtain ⟨rfl, rfl⟩ := p49
    refine x_icmp_ge (t := 61) (q := 55) dX11_swing_52 (by decide) rfl (fun c52 => ?_) (fun c52 => ?_)
    · refine x_iconst (v := 0) (q := 62) dX11_swing_61 rfl (by decide) ?_
      refine x_ior (q := 63) dX11_swing_62 rfl ?_
      refine x_istore_n (L' := fun x1_63 => [(1, .int x1_63), (4, .int (nI i)), (3, .int (nI g)), (2, .int (nI (fbN (t 28) B P (-1) 0))), (0, .ref 99)]) (q := 64) dX11_swing_63 rfl (by decide) (fun _ => rfl) (fun x1_63 ex1_63 => ?_)
      obtain rfl : x1_63 = (bset (fun b => swI (t 28) B P b P) g ||| (if swI (t 28) B P g (i + 1) = true then 1 <<< (nI g &&& 31) else 0)) := ex1_63.trans (by
      by_cases e : swI (t 28) B P g i = true
      · rw [show swI (t 28) B P g (i + 1) = true by rw [swI, e]; rfl, if_pos e, if_pos rfl]
        first | rw [Int32.or_zero] | rw [or_self1]
      · rw [if_neg e, Int32.or_zero]
        have e' : swI (t 28) B P g i = false := by simpa using e
        first
          | (rw [show swI (t 28) B P g (i + 1) = false by rw [swI, e', decide_eq_false (fun h => nI_ge h (by omega) c52)]; rfl, if_neg (by decide)]; done)
          | (rw [show swI (t 28) B P g (i + 1) = true by rw [swI, decide_eq_true (Nat.lt_of_not_le (fun h => c52 (nI_le h (by omega)))), Bool.or_true], if_pos rfl]; done))
      refine x_iinc (L' := fun x4_64 => [(4, .int x4_64), (1, .int ((bset (fun b => swI (t 28) B P b P) g ||| (if swI (t 28) B P g (i + 1) = true then 1 <<< (nI g &&& 31) else 0)))), (3, .int (nI g)), (2, .int (nI (fbN (t 28) B P (-1) 0))), (0, .ref 99)]) (q := 67) dX11_swing_64 rfl rfl (by decide) (fun _ => rfl) (fun x4_64 ex4_64 => ?_)
      obtain rfl : x4_64 = nI (i + 1) := ex4_64.trans (nI_1 i)
      refine x_goto (q := 22) dX11_swing_67 (by decide) ?_
      refine x_pick (L' := [(4, .int (nI (i + 1))), (3, .int (nI g)), (2, .int (nI (fbN (t 28) B P (-1) 0))), (1, .int (bset (fun b => swI (t 28) B P b P) g ||| (if swI (t 28) B P g (i + 1) = true then 1 <<< (nI g &&& 31) else 0))), (0, .ref 99)]) [0, 2, 3, 1, 4] rfl ?_
      exact ih (i + 1) M (by omega) hM0 hk1
    · refine x_iconst (v := 1) (q := 56) dX11_swing_55 rfl (by decide) ?_
      refine x_iload_n (q := 57) dX11_swing_56 rfl rfl ?_
      refine x_ishl (q := 58) dX11_swing_57 rfl ?_
      refine x_goto (q := 62) dX11_swing_58 (by decide) ?_
      refine x_ior (q := 63) dX11_swing_62 rfl ?_
      refine x_istore_n (L' := fun x1_63 => [(1, .int x1_63), (4, .int (nI i)), (3, .int (nI g)), (2, .int (nI (fbN (t 28) B P (-1) 0))), (0, .ref 99)]) (q := 64) dX11_swing_63 rfl (by decide) (fun _ => rfl) (fun x1_63 ex1_63 => ?_)
      obtain rfl : x1_63 = (bset (fun b => swI (t 28) B P b P) g ||| (if swI (t 28) B P g (i + 1) = true then 1 <<< (nI g &&& 31) else 0)) := ex1_63.trans (by
      by_cases e : swI (t 28) B P g i = true
      · rw [show swI (t 28) B P g (i + 1) = true by rw [swI, e]; rfl, if_pos e, if_pos rfl]
        first | rw [Int32.or_zero] | rw [or_self1]
      · rw [if_neg e, Int32.or_zero]
        have e' : swI (t 28) B P g i = false := by simpa using e
        first
          | (rw [show swI (t 28) B P g (i + 1) = false by rw [swI, e', decide_eq_false (fun h => nI_ge h (by omega) c52)]; rfl, if_neg (by decide)]; done)
          | (rw [show swI (t 28) B P g (i + 1) = true by rw [swI, decide_eq_true (Nat.lt_of_not_le (fun h => c52 (nI_le h (by omega)))), Bool.or_true], if_pos rfl]; done))
      refine x_iinc (L' := fun x4_64 => [(4, .int x4_64), (1, .int ((bset (fun b => swI (t 28) B P b P) g ||| (if swI (t 28) B P g (i + 1) = true then 1 <<< (nI g &&& 31) else 0)))), (3, .int (nI g)), (2, .int (nI (fbN (t 28) B P (-1) 0))), (0, .ref 99)]) (q := 67) dX11_swing_64 rfl rfl (by decide) (fun _ => rfl) (fun x4_64 ex4_64 => ?_)
      obtain rfl : x4_64 = nI (i + 1) := ex4_64.trans (nI_1 i)
      refine x_goto (q := 22) dX11_swing_67 (by decide) ?_
      refine x_pick (L' := [(4, .int (nI (i + 1))), (3, .int (nI g)), (2, .int (nI (fbN (t 28) B P (-1) 0))), (1, .int (bset (fun b => swI (t 28) B P b P) g ||| (if swI (t 28) B P g (i + 1) = true then 1 <<< (nI g &&& 31) else 0))), (0, .ref 99)]) [0, 2, 3, 1, 4] rfl ?_
      exact ih (i + 1) M (by omega) hM0 hk1

set_option maxHeartbeats 4000000 in
set_option maxRecDepth 100000 in
theorem l_m_swing {n P W G B : Nat} {t τ : Nat → Nat → Int32} {u : Nat → Nat → Int64} {Q : Option Value → (Nat → xE) → Prop} (hn : 113 < n) (hw : RT τ P W G (t 0)) (hB : B ≤ 9) (hB0 : t 27 0 = nI B) (hO : BOK (t 28) B P) : ∀ (k i : Nat) (M : Nat → xE), i + k = B → (oX11 99 t u M) → (Q (some (.int (bset (fun b => swI (t 28) B P b P) B))) M) → X mX11_swing 0 0 11 [(3, .int (nI i)), (2, .int (nI (fbN (t 28) B P (-1) 0))), (1, .int (bset (fun b => swI (t 28) B P b P) i)), (0, .ref 99)] [] n M (Q) := by
  have hiX11 : ∀ w ∈ wsX110, w ∈ wsX11_swing := by decide +kernel
  intro k
  induction k with
  | zero =>
    intro i M hik hM hQ
    have hM0 := hM
    obtain ⟨mp0, mp1, mp2, mp3, mp4, mp5, mp6, mp7, mp8, mp9, mp10, mp11, mp12, mp13, mp14⟩ := hM
    have hP5 := rtP hw
    refine x_iload_n (q := 12) dX11_swing_11 rfl rfl ?_
    refine x_aload_n (q := 13) dX11_swing_12 rfl rfl ?_
    refine x_getf (C := RX11) (T := TX11) (N := 29) (k := 27) (q := 16) mp0 (by omega) rfl hiX11 (by decide) (by decide +kernel) rfl dX11_swing_13 rfl ?_
    rw [hB0]
    refine x_icmp_ge (t := 76) (q := 19) dX11_swing_16 (by decide) rfl (fun c16 => ?_) (fun c16 => absurd (by rw [show i = B by omega]; exact nI_le (Nat.le_refl _) (by omega)) c16)
    refine x_iload_n (q := 77) dX11_swing_76 rfl rfl ?_
    refine x_iret dX11_swing_77 rfl rfl (Nat.le_refl _) ?_
    rw [show i = B by omega]
    exact hQ
  | succ k ih =>
    intro i M hik hM hQ
    have hM0 := hM
    obtain ⟨mp0, mp1, mp2, mp3, mp4, mp5, mp6, mp7, mp8, mp9, mp10, mp11, mp12, mp13, mp14⟩ := hM
    have hP5 := rtP hw
    refine x_iload_n (q := 12) dX11_swing_11 rfl rfl ?_
    refine x_aload_n (q := 13) dX11_swing_12 rfl rfl ?_
    refine x_getf (C := RX11) (T := TX11) (N := 29) (k := 27) (q := 16) mp0 (by omega) rfl hiX11 (by decide) (by decide +kernel) rfl dX11_swing_13 rfl ?_
    rw [hB0]
    refine x_icmp_ge (t := 76) (q := 19) dX11_swing_16 (by decide) rfl (fun c16 => absurd c16 (nI_ge (a := i) (b := B) (by omega) (by omega))) (fun c16 => ?_)
    refine x_iconst (v := 0) (q := 20) dX11_swing_19 rfl (by decide) ?_
    refine x_istore (L' := fun x4_20 => [(4, .int x4_20), (3, .int (nI i)), (2, .int (nI (fbN (t 28) B P (-1) 0))), (1, .int (bset (fun b => swI (t 28) B P b P) i)), (0, .ref 99)]) (q := 22) dX11_swing_20 rfl (by decide) (fun _ => rfl) (fun x4_20 ex4_20 => ?_)
    subst ex4_20
    refine x_pick (L' := [(4, .int (nI 0)), (3, .int (nI i)), (2, .int (nI (fbN (t 28) B P (-1) 0))), (1, .int (bset (fun b => swI (t 28) B P b P) i)), (0, .ref 99)]) [0, 1, 2, 3, 4] rfl ?_
    rw [show bset (fun b => swI (t 28) B P b P) i = (bset (fun b => swI (t 28) B P b P) i ||| (if swI (t 28) B P i 0 = true then 1 <<< (nI i &&& 31) else 0)) by rw [if_neg (show ¬ swI (t 28) B P i 0 = true from Bool.false_ne_true), Int32.or_zero]]
    refine l_m_swing1 hn hw hB hB0 hO (g := i) (by omega) P 0 M (by omega) hM0 ?_
    rw [show (bset (fun b => swI (t 28) B P b P) i ||| (if swI (t 28) B P i P = true then 1 <<< (nI i &&& 31) else 0)) = bset (fun b => swI (t 28) B P b P) (i + 1) by rw [bset]; by_cases e : swI (t 28) B P i P = true; rw [if_pos e, if_pos e]; rw [if_neg e, if_neg e, Int32.or_zero]]
    refine x_iinc (L' := fun x3_70 => [(3, .int x3_70), (4, .int (nI P)), (2, .int (nI (fbN (t 28) B P (-1) 0))), (1, .int (bset (fun b => swI (t 28) B P b P) (i + 1))), (0, .ref 99)]) (q := 73) dX11_swing_70 rfl rfl (by decide) (fun _ => rfl) (fun x3_70 ex3_70 => ?_)
    obtain rfl : x3_70 = nI (i + 1) := ex3_70.trans (nI_1 i)
    refine x_goto (q := 11) dX11_swing_73 (by decide) ?_
    refine x_pick (L' := [(3, .int (nI (i + 1))), (2, .int (nI (fbN (t 28) B P (-1) 0))), (1, .int (bset (fun b => swI (t 28) B P b P) (i + 1))), (0, .ref 99)]) [0, 2, 3, 4] rfl ?_
    exact ih (i + 1) M (by omega) hM0 hQ
    

set_option maxHeartbeats 4000000 in
set_option maxRecDepth 100000 in
theorem c_m_swing {n : Nat} {M : Nat → xE} {t : Nat → Nat → Int32} {u : Nat → Nat → Int64} (hn : 113 < n) (hM : oX11 99 t u M) {τ : Nat → Nat → Int32} {P W G : Nat} (hw : RT τ P W G (t 0)) {B : Nat} (hB : B ≤ 9) (hB0 : t 27 0 = nI B) (hO : BOK (t 28) B P) : xMet mX11_swing [.ref 99] n M (fun r M' => M = M' ∧ some (.int (bset (fun b => swI (t 28) B P b P) B)) = r) := by
  have hM0 := hM
  obtain ⟨mp0, mp1, mp2, mp3, mp4, mp5, mp6, mp7, mp8, mp9, mp10, mp11, mp12, mp13, mp14⟩ := hM
  have hP5 := rtP hw
  refine xMet.of _ (by decide) rfl (Nat.le_of_ble_eq_true rfl) ?_
  refine x_iconst (v := 0) (q := 1) dX11_swing_0 rfl (by decide) ?_
  refine x_istore_n (L' := fun x1_1 => [(1, .int x1_1), (0, .ref 99)]) (q := 2) dX11_swing_1 rfl (by decide) (fun _ => rfl) (fun x1_1 ex1_1 => ?_)
  refine x_aload_n (q := 3) dX11_swing_2 rfl rfl ?_
  refine x_iconst (v := -1) (q := 4) dX11_swing_3 rfl (by decide) ?_
  refine x_iconst (v := 0) (q := 5) dX11_swing_4 rfl (by decide) ?_
  refine x_callV (q := 8) (ci := 11) (c_m_firstBy hn hM0 hw hB hB0) eX11_swing_289 gX11_swing_X11_firstBy mp0 (by omega) rfl rfl rfl (Nat.le_of_ble_eq_true rfl) ⟨Nat.le_refl _, Nat.le_refl _⟩ dX11_swing_5 rfl rfl (fun r5 M5 p5 => ?_)
  obtain ⟨rfl, rfl⟩ := p5
  refine x_istore_n (L' := fun x2_8 => [(2, .int x2_8), (1, .int x1_1), (0, .ref 99)]) (q := 9) dX11_swing_8 rfl (by decide) (fun _ => rfl) (fun x2_8 ex2_8 => ?_)
  obtain rfl : x2_8 = nI (fbN (t 28) B P (-1) 0) := ex2_8
  refine x_iconst (v := 0) (q := 10) dX11_swing_9 rfl (by decide) ?_
  refine x_istore_n (L' := fun x3_10 => [(3, .int x3_10), (2, .int (nI (fbN (t 28) B P (-1) 0))), (1, .int x1_1), (0, .ref 99)]) (q := 11) dX11_swing_10 rfl (by decide) (fun _ => rfl) (fun x3_10 ex3_10 => ?_)
  subst ex1_1
  subst ex3_10
  exact l_m_swing hn hw hB hB0 hO B 0 M (by omega) hM0 ⟨rfl, rfl⟩

