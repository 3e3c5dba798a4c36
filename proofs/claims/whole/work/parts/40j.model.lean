def mlV (τ δ : Nat → Nat → Int32) (P W : Nat) (len : Nat) : Int32 := (pbF (pbV τ δ P W (nI len) (-1)) ((P + 1) ^ W)).1
def msr (v : Nat → Int32) (most : Int32) : Nat → Nat → Nat → Nat
  | 0, lo, _ => lo
  | k + 1, lo, hi => if lo < hi then (if v ((lo + hi) / 2) = most then msr v most k lo ((lo + hi) / 2) else msr v most k ((lo + hi) / 2 + 1) hi) else lo
theorem msr_e (v : Nat → Int32) (most : Int32) {k lo hi : Nat} (h : ¬ lo < hi) : msr v most k lo hi = lo := by
  cases k with
  | zero => rfl
  | succ k => rw [msr, if_neg h]
set_option maxHeartbeats 4000000 in
set_option maxRecDepth 100000 in
theorem l_m_shortest {n P W G : Nat} {t τ δ : Nat → Nat → Int32} {u : Nat → Nat → Int64} {Q : Option Value → (Nat → xE) → Prop} {M0 : Nat → xE} (hn : 113 < n) (hw : RT τ P W G (t 0)) (hd : ∀ k, k < 22 → t 1 k = dv δ k) : ∀ (k i : Nat) (M : Nat → xE) (lo : Nat) (hi : Nat) (l : Nat → Int32) (b : Nat), i + k = 98 → (hi - lo ≤ k) → (hi ≤ 99) → (lo ≤ hi) → (oX11 99 (pT t l b) u M) → (xfr 99 114 M0 M) → (∀ M' l' b', oX11 99 (pT t l' b') u M' → xfr 99 114 M0 M' → Q (some (.int (nI (msr (mlV τ δ P W) ((mlV τ δ P W) 99) k lo hi)))) M') → X mX11_shortest 0 0 13 [(3, .int (nI hi)), (2, .int (nI lo)), (1, .int ((mlV τ δ P W) 99)), (0, .ref 99)] [] n M (Q) := by
  intro k
  induction k with
  | zero =>
    intro i M lo hi l b hik hk1 hhi hlh hM hf hQ
    have hM0 := hM
    obtain ⟨mp0, mp1, mp2, mp3, mp4, mp5, mp6, mp7, mp8, mp9, mp10, mp11, mp12, mp13, mp14⟩ := hM
    have hP5 := rtP hw
    have hW6 := rtW hw
    refine x_iload_n (q := 14) dX11_shortest_13 rfl rfl ?_
    refine x_iload_n (q := 15) dX11_shortest_14 rfl rfl ?_
    refine x_icmp_ge (t := 72) (q := 18) dX11_shortest_15 (by decide) rfl (fun c15 => ?_) (fun c15 => absurd (nI_le (show hi ≤ lo by omega) (by omega)) c15)
    refine x_iload_n (q := 73) dX11_shortest_72 rfl rfl ?_
    refine x_iret dX11_shortest_73 rfl rfl (Nat.le_refl _) ?_
    exact hQ M l b hM0 hf
  | succ k ih =>
    intro i M lo hi l b hik hk1 hhi hlh hM hf hQ
    have hM0 := hM
    obtain ⟨mp0, mp1, mp2, mp3, mp4, mp5, mp6, mp7, mp8, mp9, mp10, mp11, mp12, mp13, mp14⟩ := hM
    have hP5 := rtP hw
    have hW6 := rtW hw
    refine x_iload_n (q := 14) dX11_shortest_13 rfl rfl ?_
    refine x_iload_n (q := 15) dX11_shortest_14 rfl rfl ?_
    refine x_icmp_ge (t := 72) (q := 18) dX11_shortest_15 (by decide) rfl (fun c15 => ?_) (fun c15 => ?_)
    · refine x_iload_n (q := 73) dX11_shortest_72 rfl rfl ?_
      refine x_iret dX11_shortest_73 rfl rfl (Nat.le_refl _) ?_
      have h9 : ¬ lo < hi := fun h => nI_ge h (by omega) c15
      rw [msr_e (mlV τ δ P W) ((mlV τ δ P W) 99) h9] at hQ
      exact hQ M l b hM0 hf
    · have hlt : lo < hi := Nat.lt_of_not_le (fun h => c15 (nI_le h (by omega)))
      refine x_iload_n (q := 19) dX11_shortest_18 rfl rfl ?_
      refine x_iload_n (q := 20) dX11_shortest_19 rfl rfl ?_
      refine x_iadd (q := 21) dX11_shortest_20 rfl ?_
      rw [nI_add]
      refine x_iconst (v := 2) (q := 22) dX11_shortest_21 rfl (by decide) ?_
      refine x_idiv (q := 23) dX11_shortest_22 rfl ((by decide)) ?_
      rw [show nI (lo + hi) / 2 = nI ((lo + hi) / 2) from pk_div (d := 2) (by omega) (by decide) (by decide)]
      refine x_istore (L' := fun x4_23 => [(4, .int x4_23), (3, .int (nI hi)), (2, .int (nI lo)), (1, .int ((mlV τ δ P W) 99)), (0, .ref 99)]) (q := 25) dX11_shortest_23 rfl (by decide) (fun _ => rfl) (fun x4_23 ex4_23 => ?_)
      obtain rfl : x4_23 = nI ((lo + hi) / 2) := ex4_23
      refine x_aload_n (q := 26) dX11_shortest_25 rfl rfl ?_
      refine x_iload (q := 28) dX11_shortest_26 rfl rfl ?_
      refine x_iconst (v := -1) (q := 29) dX11_shortest_28 rfl (by decide) ?_
      refine x_callV (q := 32) (ci := 11) (c_m_planBy (t := pT t l b) (u := u) hn hM0 hw hd (m := nI ((lo + hi) / 2)) (aw := -1)) eX11_shortest_233 gX11_shortest_X11_planBy mp0 (by omega) rfl rfl rfl (Nat.le_of_ble_eq_true rfl) ⟨Nat.le_refl _, Nat.le_refl _⟩ dX11_shortest_29 rfl rfl (fun r29 M29 p29 => ?_)
      obtain ⟨rfl, ⟨l2, hV29⟩, fr29⟩ := p29
      have hU29 := hV29
      obtain ⟨y29_0, y29_1, y29_2, y29_3, y29_4, y29_5, y29_6, y29_7, y29_8, y29_9, y29_10, y29_11, y29_12, y29_13, y29_14⟩ := hV29
      refine x_iload_n (q := 33) dX11_shortest_32 rfl rfl ?_
      refine x_icmp_ne (t := 40) (q := 36) dX11_shortest_33 (by decide) rfl (fun c33 => ?_) (fun c33 => ?_)
      · refine x_iconst (v := 0) (q := 41) dX11_shortest_40 rfl (by decide) ?_
        refine x_istore (L' := fun x5_41 => [(5, .int x5_41), (4, .int (nI ((lo + hi) / 2))), (3, .int (nI hi)), (2, .int (nI lo)), (1, .int ((mlV τ δ P W) 99)), (0, .ref 99)]) (q := 43) dX11_shortest_41 rfl (by decide) (fun _ => rfl) (fun x5_41 ex5_41 => ?_)
        rw [show x5_41 = 0 from ex5_41]
        refine x_iload (q := 45) dX11_shortest_43 rfl rfl ?_
        refine x_if_eq (t := 53) (q := 48) dX11_shortest_45 (by decide) rfl (fun c45 => ?_) (fun c45 => absurd rfl c45)
        refine x_iload_n (q := 54) dX11_shortest_53 rfl rfl ?_
        refine x_istore_n (L' := fun x3_54 => [(3, .int x3_54), (5, .int (0)), (4, .int (nI ((lo + hi) / 2))), (2, .int (nI lo)), (1, .int ((mlV τ δ P W) 99)), (0, .ref 99)]) (q := 55) dX11_shortest_54 rfl (by decide) (fun _ => rfl) (fun x3_54 ex3_54 => ?_)
        obtain rfl : x3_54 = nI hi := ex3_54
        refine x_iload (q := 57) dX11_shortest_55 rfl rfl ?_
        refine x_if_eq (t := 64) (q := 60) dX11_shortest_57 (by decide) rfl (fun c57 => ?_) (fun c57 => absurd rfl c57)
        refine x_iload (q := 66) dX11_shortest_64 rfl rfl ?_
        refine x_iconst (v := 1) (q := 67) dX11_shortest_66 rfl (by decide) ?_
        refine x_iadd (q := 68) dX11_shortest_67 rfl ?_
        refine x_istore_n (L' := fun x2_68 => [(2, .int x2_68), (3, .int (nI hi)), (5, .int (0)), (4, .int (nI ((lo + hi) / 2))), (1, .int ((mlV τ δ P W) 99)), (0, .ref 99)]) (q := 69) dX11_shortest_68 rfl (by decide) (fun _ => rfl) (fun x2_68 ex2_68 => ?_)
        obtain rfl : x2_68 = nI ((lo + hi) / 2 + 1) := ex2_68.trans (nI_1 _)
        refine x_goto (q := 13) dX11_shortest_69 (by decide) ?_
        have hst : msr (mlV τ δ P W) ((mlV τ δ P W) 99) (k + 1) lo hi = msr (mlV τ δ P W) ((mlV τ δ P W) 99) k ((lo + hi) / 2 + 1) (hi) := by rw [msr, if_pos (by omega), if_neg (show ¬ mlV τ δ P W ((lo + hi) / 2) = mlV τ δ P W 99 from c33)]
        rw [hst] at hQ
        refine x_pick (L' := [(3, .int (nI hi)), (2, .int (nI ((lo + hi) / 2 + 1))), (1, .int ((mlV τ δ P W) 99)), (0, .ref 99)]) [1, 0, 4, 5] rfl ?_
        exact ih (i + 1) M29 ((lo + hi) / 2 + 1) (hi) l2 _ (by omega) (by omega) (by omega) (by omega) hU29 (fun j hj => (fr29 j hj).trans (hf j hj)) hQ
      · refine x_iconst (v := 1) (q := 37) dX11_shortest_36 rfl (by decide) ?_
        refine x_goto (q := 41) dX11_shortest_37 (by decide) ?_
        refine x_istore (L' := fun x5_41 => [(5, .int x5_41), (4, .int (nI ((lo + hi) / 2))), (3, .int (nI hi)), (2, .int (nI lo)), (1, .int ((mlV τ δ P W) 99)), (0, .ref 99)]) (q := 43) dX11_shortest_41 rfl (by decide) (fun _ => rfl) (fun x5_41 ex5_41 => ?_)
        rw [show x5_41 = 1 from ex5_41]
        refine x_iload (q := 45) dX11_shortest_43 rfl rfl ?_
        refine x_if_eq (t := 53) (q := 48) dX11_shortest_45 (by decide) rfl (fun c45 => absurd c45 (by decide)) (fun c45 => ?_)
        refine x_iload (q := 50) dX11_shortest_48 rfl rfl ?_
        refine x_goto (q := 54) dX11_shortest_50 (by decide) ?_
        refine x_istore_n (L' := fun x3_54 => [(3, .int x3_54), (5, .int (1)), (4, .int (nI ((lo + hi) / 2))), (2, .int (nI lo)), (1, .int ((mlV τ δ P W) 99)), (0, .ref 99)]) (q := 55) dX11_shortest_54 rfl (by decide) (fun _ => rfl) (fun x3_54 ex3_54 => ?_)
        obtain rfl : x3_54 = nI ((lo + hi) / 2) := ex3_54
        refine x_iload (q := 57) dX11_shortest_55 rfl rfl ?_
        refine x_if_eq (t := 64) (q := 60) dX11_shortest_57 (by decide) rfl (fun c57 => absurd c57 (by decide)) (fun c57 => ?_)
        refine x_iload_n (q := 61) dX11_shortest_60 rfl rfl ?_
        refine x_goto (q := 68) dX11_shortest_61 (by decide) ?_
        refine x_istore_n (L' := fun x2_68 => [(2, .int x2_68), (3, .int (nI ((lo + hi) / 2))), (5, .int (1)), (4, .int (nI ((lo + hi) / 2))), (1, .int ((mlV τ δ P W) 99)), (0, .ref 99)]) (q := 69) dX11_shortest_68 rfl (by decide) (fun _ => rfl) (fun x2_68 ex2_68 => ?_)
        obtain rfl : x2_68 = nI lo := ex2_68
        refine x_goto (q := 13) dX11_shortest_69 (by decide) ?_
        have hst : msr (mlV τ δ P W) ((mlV τ δ P W) 99) (k + 1) lo hi = msr (mlV τ δ P W) ((mlV τ δ P W) 99) k lo ((lo + hi) / 2) := by rw [msr, if_pos (by omega), if_pos (show mlV τ δ P W ((lo + hi) / 2) = mlV τ δ P W 99 from c33)]
        rw [hst] at hQ
        refine x_pick (L' := [(3, .int (nI ((lo + hi) / 2))), (2, .int (nI lo)), (1, .int ((mlV τ δ P W) 99)), (0, .ref 99)]) [1, 0, 4, 5] rfl ?_
        exact ih (i + 1) M29 lo ((lo + hi) / 2) l2 _ (by omega) (by omega) (by omega) (by omega) hU29 (fun j hj => (fr29 j hj).trans (hf j hj)) hQ

set_option maxHeartbeats 4000000 in
set_option maxRecDepth 100000 in
theorem c_m_shortest {n : Nat} {M : Nat → xE} {t : Nat → Nat → Int32} {u : Nat → Nat → Int64} (hn : 113 < n) (hM : oX11 99 t u M) {τ : Nat → Nat → Int32} {P W G : Nat} (hw : RT τ P W G (t 0)) {δ : Nat → Nat → Int32} (hd : ∀ k, k < 22 → t 1 k = dv δ k) : xMet mX11_shortest [.ref 99] n M (fun r M' => some (.int (nI (msr (mlV τ δ P W) ((mlV τ δ P W) 99) 98 1 99))) = r ∧ (∃ l' b', oX11 99 (pT t l' b') u M') ∧ xfr 99 114 M M') := by
  have hM0 := hM
  obtain ⟨mp0, mp1, mp2, mp3, mp4, mp5, mp6, mp7, mp8, mp9, mp10, mp11, mp12, mp13, mp14⟩ := hM
  have hP5 := rtP hw
  have hW6 := rtW hw
  have hG5 := rtG hw
  refine xMet.of _ (by decide) rfl (Nat.le_of_ble_eq_true rfl) ?_
  refine x_aload_n (q := 1) dX11_shortest_0 rfl rfl ?_
  refine x_bipush (v := 99) (q := 3) dX11_shortest_1 rfl (by decide) ?_
  refine x_iconst (v := -1) (q := 4) dX11_shortest_3 rfl (by decide) ?_
  refine x_callV (q := 7) (ci := 11) (c_m_planBy hn hM0 hw hd (m := nI 99) (aw := -1)) eX11_shortest_233 gX11_shortest_X11_planBy mp0 (by omega) rfl rfl rfl (Nat.le_of_ble_eq_true rfl) ⟨Nat.le_refl _, Nat.le_refl _⟩ dX11_shortest_4 rfl rfl (fun r4 M4 p4 => ?_)
  obtain ⟨rfl, ⟨l2, hV4⟩, fr4⟩ := p4
  have hU4 := hV4
  obtain ⟨y4_0, y4_1, y4_2, y4_3, y4_4, y4_5, y4_6, y4_7, y4_8, y4_9, y4_10, y4_11, y4_12, y4_13, y4_14⟩ := hV4
  refine x_istore_n (L' := fun x1_7 => [(1, .int x1_7), (0, .ref 99)]) (q := 8) dX11_shortest_7 rfl (by decide) (fun _ => rfl) (fun x1_7 ex1_7 => ?_)
  obtain rfl : x1_7 = (mlV τ δ P W) 99 := ex1_7
  refine x_iconst (v := 1) (q := 9) dX11_shortest_8 rfl (by decide) ?_
  refine x_istore_n (L' := fun x2_9 => [(2, .int x2_9), (1, .int ((mlV τ δ P W) 99)), (0, .ref 99)]) (q := 10) dX11_shortest_9 rfl (by decide) (fun _ => rfl) (fun x2_9 ex2_9 => ?_)
  refine x_bipush (v := 99) (q := 12) dX11_shortest_10 rfl (by decide) ?_
  refine x_istore_n (L' := fun x3_12 => [(3, .int x3_12), (2, .int x2_9), (1, .int ((mlV τ δ P W) 99)), (0, .ref 99)]) (q := 13) dX11_shortest_12 rfl (by decide) (fun _ => rfl) (fun x3_12 ex3_12 => ?_)
  subst ex2_9
  subst ex3_12
  exact l_m_shortest (t := t) (u := u) (M0 := M) hn hw hd 98 0 M4 1 99 l2 _ rfl (by omega) (by omega) (by omega) hU4 fr4 (fun M' l' b' h1 h3 => ⟨rfl, ⟨l', b', h1⟩, h3⟩)

def sdR (τ δ : Nat → Nat → Int32) (n : Nat) : Nat → Nat → Int32 → Int32 → Int32
  | 0, _, _, s => s
  | k + 1, c, ds, s => if c % (n + 1) = 0 then sdR τ δ n k (c / (n + 1)) ds s
    else if bo (δ 6 0) (nI k) = 1 ∨ bo ds (nI (c % (n + 1) - 1)) = 1 then -1
    else sdR τ δ n k (c / (n + 1)) (ds ||| (1 <<< (nI (c % (n + 1) - 1) &&& 31))) (s + tPrice τ (nI k) (δ 0 0 + nI (c % (n + 1) - 1)))
set_option maxHeartbeats 4000000 in
set_option maxRecDepth 100000 in
theorem l_m_soldBy {n P W G D c0 : Nat} {a : Int32} {t τ δ : Nat → Nat → Int32} {u : Nat → Nat → Int64} {Q : Option Value → (Nat → xE) → Prop} (hn : 113 < n) (hw : RT τ P W G (t 0)) (hd : ∀ k, k < 22 → t 1 k = dv δ k) (hk0 : TOK τ P W G) (hc : c0 < 1000) (hc0 : δ 0 0 = nI c0) (hD : D ≤ 9) : ∀ (k : Nat) (M : Nat → xE) (c : Nat) (ds : Int32) (s : Int32), (k ≤ G) → (c < 2 ^ 31) → (oX11 99 t u M) → (Q (some (.int (sdR τ δ D k c ds s))) M) → X mX11_soldBy 0 0 19 [(6, .int (nI k - 1)), (5, .int (nI c)), (4, .int ds), (3, .int s), (0, .ref 99), (1, .int a), (2, .int (nI D))] [] n M (Q) := by
  have hiX11 : ∀ w ∈ wsX110, w ∈ wsX11_soldBy := by decide +kernel
  intro k
  induction k with
  | zero =>
    intro M c ds s hkW hcb hM hQ
    have hM0 := hM
    obtain ⟨mp0, mp1, mp2, mp3, mp4, mp5, mp6, mp7, mp8, mp9, mp10, mp11, mp12, mp13, mp14⟩ := hM
    have hG5 := rtG hw
    refine x_iload (q := 21) dX11_soldBy_19 rfl rfl ?_
    refine x_if_lt (t := 108) (q := 24) dX11_soldBy_21 (by decide) rfl (fun c21 => ?_) (fun c21 => absurd (show nI 0 - 1 < 0 by decide) c21)
    refine x_iload_n (q := 109) dX11_soldBy_108 rfl rfl ?_
    refine x_iret dX11_soldBy_109 rfl rfl (Nat.le_refl _) ?_
    exact hQ
  | succ k ih =>
    intro M c ds s hkW hcb hM hQ
    have hM0 := hM
    obtain ⟨mp0, mp1, mp2, mp3, mp4, mp5, mp6, mp7, mp8, mp9, mp10, mp11, mp12, mp13, mp14⟩ := hM
    have hG5 := rtG hw
    rw [nIk1]
    refine x_iload (q := 21) dX11_soldBy_19 rfl rfl ?_
    refine x_if_lt (t := 108) (q := 24) dX11_soldBy_21 (by decide) rfl (fun c21 => absurd c21 (by rw [fa_lt, nI_toInt (by omega)]; show ¬ (k : Int) < 0; omega)) (fun c21 => ?_)
    refine x_iload (q := 26) dX11_soldBy_24 rfl rfl ?_
    refine x_iload_n (q := 27) dX11_soldBy_26 rfl rfl ?_
    refine x_iconst (v := 1) (q := 28) dX11_soldBy_27 rfl (by decide) ?_
    refine x_iadd (q := 29) dX11_soldBy_28 rfl ?_
    rw [nI_1]
    refine x_irem (q := 30) dX11_soldBy_29 rfl (nIn0 (k := D + 1) (by omega) (by omega)) ?_
    rw [pk_rem hcb (by omega) (by omega)]
    refine x_iconst (v := 1) (q := 31) dX11_soldBy_30 rfl (by decide) ?_
    refine x_isub (q := 32) dX11_soldBy_31 rfl ?_
    have hmod := Nat.mod_lt c (show D + 1 > 0 by omega)
    have hdl := Nat.div_le_self c (D + 1)
    rcases Nat.eq_zero_or_pos (c % (D + 1)) with h0 | h0
    · rw [h0, show nI 0 - 1 = -1 by decide]
      refine x_istore (L' := fun x7_32 => [(7, .int x7_32), (6, .int (nI k)), (5, .int (nI c)), (4, .int ds), (3, .int s), (0, .ref 99), (1, .int a), (2, .int (nI D))]) (q := 34) dX11_soldBy_32 rfl (by decide) (fun _ => rfl) (fun x7_32 ex7_32 => ?_)
      obtain rfl : x7_32 = -1 := ex7_32
      refine x_iload (q := 36) dX11_soldBy_34 rfl rfl ?_
      refine x_iload_n (q := 37) dX11_soldBy_36 rfl rfl ?_
      refine x_iconst (v := 1) (q := 38) dX11_soldBy_37 rfl (by decide) ?_
      refine x_iadd (q := 39) dX11_soldBy_38 rfl ?_
      rw [nI_1]
      refine x_idiv (q := 40) dX11_soldBy_39 rfl (nIn0 (k := D + 1) (by omega) (by omega)) ?_
      rw [pk_div hcb (by omega) (by omega)]
      refine x_istore (L' := fun x5_40 => [(5, .int x5_40), (7, .int (-1)), (6, .int (nI k)), (4, .int ds), (3, .int s), (0, .ref 99), (1, .int a), (2, .int (nI D))]) (q := 42) dX11_soldBy_40 rfl (by decide) (fun _ => rfl) (fun x5_40 ex5_40 => ?_)
      obtain rfl : x5_40 = nI (c / (D + 1)) := ex5_40
      refine x_iload (q := 44) dX11_soldBy_42 rfl rfl ?_
      refine x_if_lt (t := 102) (q := 47) dX11_soldBy_44 (by decide) rfl (fun c44 => ?_) (fun c44 => absurd c44 (by decide))
      refine x_iinc (L' := fun x6_102 => [(6, .int x6_102), (5, .int (nI (c / (D + 1)))), (7, .int (-1)), (4, .int ds), (3, .int s), (0, .ref 99), (1, .int a), (2, .int (nI D))]) (q := 105) dX11_soldBy_102 rfl rfl (by decide) (fun _ => rfl) (fun x6_102 ex6_102 => ?_)
      obtain rfl : x6_102 = nI k - 1 := ex6_102.trans (nIp k)
      refine x_goto (q := 19) dX11_soldBy_105 (by decide) ?_
      have hst : sdR τ δ D (k + 1) c ds s = sdR τ δ D k (c / (D + 1)) ds s := by rw [sdR, if_pos h0]
      rw [hst] at hQ
      refine x_pick (L' := [(6, .int (nI k - 1)), (5, .int (nI (c / (D + 1)))), (4, .int ds), (3, .int s), (0, .ref 99), (1, .int a), (2, .int (nI D))]) [0, 1, 3, 4, 5, 6, 7] rfl ?_
      exact ih M (c / (D + 1)) ds s (by omega) (by omega) hM0 hQ
    · obtain ⟨p, hp⟩ : ∃ p, c % (D + 1) = p + 1 := ⟨c % (D + 1) - 1, by omega⟩
      have hpP : p < D := by omega
      have hp1 : c % (D + 1) - 1 = p := by omega
      rw [hp, nIk1]
      refine x_istore (L' := fun x7_32 => [(7, .int x7_32), (6, .int (nI k)), (5, .int (nI c)), (4, .int ds), (3, .int s), (0, .ref 99), (1, .int a), (2, .int (nI D))]) (q := 34) dX11_soldBy_32 rfl (by decide) (fun _ => rfl) (fun x7_32 ex7_32 => ?_)
      obtain rfl : x7_32 = nI p := ex7_32
      refine x_iload (q := 36) dX11_soldBy_34 rfl rfl ?_
      refine x_iload_n (q := 37) dX11_soldBy_36 rfl rfl ?_
      refine x_iconst (v := 1) (q := 38) dX11_soldBy_37 rfl (by decide) ?_
      refine x_iadd (q := 39) dX11_soldBy_38 rfl ?_
      rw [nI_1]
      refine x_idiv (q := 40) dX11_soldBy_39 rfl (nIn0 (k := D + 1) (by omega) (by omega)) ?_
      rw [pk_div hcb (by omega) (by omega)]
      refine x_istore (L' := fun x5_40 => [(5, .int x5_40), (7, .int (nI p)), (6, .int (nI k)), (4, .int ds), (3, .int s), (0, .ref 99), (1, .int a), (2, .int (nI D))]) (q := 42) dX11_soldBy_40 rfl (by decide) (fun _ => rfl) (fun x5_40 ex5_40 => ?_)
      obtain rfl : x5_40 = nI (c / (D + 1)) := ex5_40
      refine x_iload (q := 44) dX11_soldBy_42 rfl rfl ?_
      refine x_if_lt (t := 102) (q := 47) dX11_soldBy_44 (by decide) rfl (fun c44 => absurd c44 (by rw [fa_lt, nI_toInt (by omega)]; show ¬ (p : Int) < 0; omega)) (fun c44 => ?_)
      refine x_aload_n (q := 48) dX11_soldBy_47 rfl rfl ?_
      refine x_getf (C := RX11) (T := TX11) (N := 29) (k := 1) (q := 51) mp0 (by omega) rfl hiX11 (by decide) (by decide +kernel) rfl dX11_soldBy_48 rfl ?_
      refine x_bipush (v := 18) (q := 53) dX11_soldBy_51 rfl (by decide) ?_
      refine x_iald (q := 54) mp2 (by omega) (ixI (show (18 : Int32) = nI 18 from rfl) (by omega) (by decide)) dX11_soldBy_53 rfl ?_
      rw [ixC (show (18 : Int32) = nI 18 from rfl) (by omega)]
      rw [rdsold hd]
      refine x_iload (q := 56) dX11_soldBy_54 rfl rfl ?_
      refine x_callS (q := 59) c_m_has eX11_soldBy_164 gX11_soldBy_X11_has rfl (Nat.le_of_ble_eq_true rfl) ⟨Nat.le_refl _, Nat.le_refl _⟩ dX11_soldBy_56 rfl rfl (fun r56 M56 p56 => ?_)
      obtain ⟨rfl, p56⟩ := p56
      rcases p56 with ⟨b56, rfl⟩ | ⟨b56, rfl⟩
      · refine x_if_ne (t := 72) (q := 62) dX11_soldBy_59 (by decide) rfl (fun c59 => ?_) (fun c59 => absurd c59 (by decide))
        refine x_iconst (v := -1) (q := 73) dX11_soldBy_72 rfl (by decide) ?_
        refine x_iret dX11_soldBy_73 rfl rfl (Nat.le_refl _) ?_
        have hst : sdR τ δ D (k + 1) c ds s = -1 := by
          rw [sdR, if_neg (show ¬ c % (D + 1) = 0 by omega), hp1, if_pos (by first | exact Or.inl b56 | exact Or.inr b66)]
        rw [hst] at hQ
        exact hQ
      · refine x_if_ne (t := 72) (q := 62) dX11_soldBy_59 (by decide) rfl (fun c59 => absurd c59 (by decide)) (fun c59 => ?_)
        refine x_iload (q := 64) dX11_soldBy_62 rfl rfl ?_
        refine x_iload (q := 66) dX11_soldBy_64 rfl rfl ?_
        refine x_callS (q := 69) c_m_has eX11_soldBy_164 gX11_soldBy_X11_has rfl (Nat.le_of_ble_eq_true rfl) ⟨Nat.le_refl _, Nat.le_refl _⟩ dX11_soldBy_66 rfl rfl (fun r66 M66 p66 => ?_)
        obtain ⟨rfl, p66⟩ := p66
        rcases p66 with ⟨b66, rfl⟩ | ⟨b66, rfl⟩
        · refine x_if_eq (t := 74) (q := 72) dX11_soldBy_69 (by decide) rfl (fun c69 => absurd c69 (by decide)) (fun c69 => ?_)
          refine x_iconst (v := -1) (q := 73) dX11_soldBy_72 rfl (by decide) ?_
          refine x_iret dX11_soldBy_73 rfl rfl (Nat.le_refl _) ?_
          have hst : sdR τ δ D (k + 1) c ds s = -1 := by
            rw [sdR, if_neg (show ¬ c % (D + 1) = 0 by omega), hp1, if_pos (by first | exact Or.inl b56 | exact Or.inr b66)]
          rw [hst] at hQ
          exact hQ
        · refine x_if_eq (t := 74) (q := 72) dX11_soldBy_69 (by decide) rfl (fun c69 => ?_) (fun c69 => absurd c69 (by decide))
          refine x_iload (q := 76) dX11_soldBy_74 rfl rfl ?_
          refine x_iconst (v := 1) (q := 77) dX11_soldBy_76 rfl (by decide) ?_
          refine x_iload (q := 79) dX11_soldBy_77 rfl rfl ?_
          refine x_ishl (q := 80) dX11_soldBy_79 rfl ?_
          refine x_ior (q := 81) dX11_soldBy_80 rfl ?_
          refine x_istore (L' := fun x4_81 => [(4, .int x4_81), (5, .int (nI (c / (D + 1)))), (7, .int (nI p)), (6, .int (nI k)), (3, .int s), (0, .ref 99), (1, .int a), (2, .int (nI D))]) (q := 83) dX11_soldBy_81 rfl (by decide) (fun _ => rfl) (fun x4_81 ex4_81 => ?_)
          obtain rfl : x4_81 = (ds ||| (1 <<< (nI p &&& 31))) := ex4_81
          refine x_iload_n (q := 84) dX11_soldBy_83 rfl rfl ?_
          refine x_aload_n (q := 85) dX11_soldBy_84 rfl rfl ?_
          refine x_iload (q := 87) dX11_soldBy_85 rfl rfl ?_
          refine x_aload_n (q := 88) dX11_soldBy_87 rfl rfl ?_
          refine x_getf (C := RX11) (T := TX11) (N := 29) (k := 1) (q := 91) mp0 (by omega) rfl hiX11 (by decide) (by decide +kernel) rfl dX11_soldBy_88 rfl ?_
          refine x_bipush (v := 20) (q := 93) dX11_soldBy_91 rfl (by decide) ?_
          refine x_iald (q := 94) mp2 (by omega) (ixI (show (20 : Int32) = nI 20 from rfl) (by omega) (by decide)) dX11_soldBy_93 rfl ?_
          rw [ixC (show (20 : Int32) = nI 20 from rfl) (by omega)]
          rw [show t 1 20 = nI c0 from (rdcent hd).trans hc0]
          refine x_iload (q := 96) dX11_soldBy_94 rfl rfl ?_
          refine x_iadd (q := 97) dX11_soldBy_96 rfl ?_
          rw [nI_add]
          refine x_callV (q := 100) (ci := 11) (c_m_worthIn (g := k) (c := c0 + p) hn hM0 hw hk0 (by omega) (by omega)) eX11_soldBy_184 gX11_soldBy_X11_worthIn mp0 (by omega) rfl rfl rfl (Nat.le_of_ble_eq_true rfl) ⟨Nat.le_refl _, Nat.le_refl _⟩ dX11_soldBy_97 rfl rfl (fun r97 M97 p97 => ?_)
          obtain ⟨rfl, rfl⟩ := p97
          refine x_iadd (q := 101) dX11_soldBy_100 rfl ?_
          refine x_istore_n (L' := fun x3_101 => [(3, .int x3_101), (4, .int ((ds ||| (1 <<< (nI p &&& 31))))), (5, .int (nI (c / (D + 1)))), (7, .int (nI p)), (6, .int (nI k)), (0, .ref 99), (1, .int a), (2, .int (nI D))]) (q := 102) dX11_soldBy_101 rfl (by decide) (fun _ => rfl) (fun x3_101 ex3_101 => ?_)
          obtain rfl : x3_101 = (s + tPrice τ (nI k) (nI (c0 + p))) := ex3_101
          refine x_iinc (L' := fun x6_102 => [(6, .int x6_102), (3, .int ((s + tPrice τ (nI k) (nI (c0 + p))))), (4, .int ((ds ||| (1 <<< (nI p &&& 31))))), (5, .int (nI (c / (D + 1)))), (7, .int (nI p)), (0, .ref 99), (1, .int a), (2, .int (nI D))]) (q := 105) dX11_soldBy_102 rfl rfl (by decide) (fun _ => rfl) (fun x6_102 ex6_102 => ?_)
          obtain rfl : x6_102 = nI k - 1 := ex6_102.trans (nIp k)
          refine x_goto (q := 19) dX11_soldBy_105 (by decide) ?_
          have hst : sdR τ δ D (k + 1) c ds s = sdR τ δ D k (c / (D + 1)) (ds ||| (1 <<< (nI p &&& 31))) (s + tPrice τ (nI k) (nI (c0 + p))) := by rw [sdR, if_neg (show ¬ c % (D + 1) = 0 by omega), hp1, if_neg (fun h => h.elim b56 b66), hc0, nI_add]
          rw [hst] at hQ
          refine x_pick (L' := [(6, .int (nI k - 1)), (5, .int (nI (c / (D + 1)))), (4, .int (ds ||| (1 <<< (nI p &&& 31)))), (3, .int (s + tPrice τ (nI k) (nI (c0 + p)))), (0, .ref 99), (1, .int a), (2, .int (nI D))]) [0, 3, 2, 1, 5, 6, 7] rfl ?_
          exact ih M (c / (D + 1)) (ds ||| (1 <<< (nI p &&& 31))) (s + tPrice τ (nI k) (nI (c0 + p))) (by omega) (by omega) hM0 hQ
    

set_option maxHeartbeats 4000000 in
set_option maxRecDepth 100000 in
theorem c_m_soldBy {n : Nat} {M : Nat → xE} {t : Nat → Nat → Int32} {u : Nat → Nat → Int64} (hn : 113 < n) (hM : oX11 99 t u M) {τ : Nat → Nat → Int32} {P W G : Nat} (hw : RT τ P W G (t 0)) {δ : Nat → Nat → Int32} (hd : ∀ k, k < 22 → t 1 k = dv δ k) (hk : TOK τ P W G) {c0 : Nat} (hc : c0 < 1000) (hc0 : δ 0 0 = nI c0) {c D : Nat} (hcb : c < 2 ^ 31) (hDn : D ≤ 9) : xMet mX11_soldBy [.ref 99, .int (nI c), .int (nI D)] n M (fun r M' => M = M' ∧ some (.int (sdR τ δ D G c 0 0)) = r) := by
  have hM0 := hM
  obtain ⟨mp0, mp1, mp2, mp3, mp4, mp5, mp6, mp7, mp8, mp9, mp10, mp11, mp12, mp13, mp14⟩ := hM
  have hP5 := rtP hw
  have hW6 := rtW hw
  have hG5 := rtG hw
  have hiX11 : ∀ w ∈ wsX110, w ∈ wsX11_soldBy := by decide +kernel
  refine xMet.of _ (by decide) rfl (Nat.le_of_ble_eq_true rfl) ?_
  refine x_iconst (v := 0) (q := 1) dX11_soldBy_0 rfl (by decide) ?_
  refine x_istore_n (L' := fun x3_1 => [(3, .int x3_1), (0, .ref 99), (1, .int (nI c)), (2, .int (nI D))]) (q := 2) dX11_soldBy_1 rfl (by decide) (fun _ => rfl) (fun x3_1 ex3_1 => ?_)
  refine x_iconst (v := 0) (q := 3) dX11_soldBy_2 rfl (by decide) ?_
  refine x_istore (L' := fun x4_3 => [(4, .int x4_3), (3, .int x3_1), (0, .ref 99), (1, .int (nI c)), (2, .int (nI D))]) (q := 5) dX11_soldBy_3 rfl (by decide) (fun _ => rfl) (fun x4_3 ex4_3 => ?_)
  refine x_iload_n (q := 6) dX11_soldBy_5 rfl rfl ?_
  refine x_istore (L' := fun x5_6 => [(5, .int x5_6), (4, .int x4_3), (3, .int x3_1), (0, .ref 99), (1, .int (nI c)), (2, .int (nI D))]) (q := 8) dX11_soldBy_6 rfl (by decide) (fun _ => rfl) (fun x5_6 ex5_6 => ?_)
  obtain rfl : x5_6 = nI c := ex5_6
  refine x_aload_n (q := 9) dX11_soldBy_8 rfl rfl ?_
  refine x_getf (C := RX11) (T := TX11) (N := 29) (k := 0) (q := 12) mp0 (by omega) rfl hiX11 (by decide) (by decide +kernel) rfl dX11_soldBy_9 rfl ?_
  refine x_bipush (v := 37) (q := 14) dX11_soldBy_12 rfl (by decide) ?_
  refine x_iald (q := 15) mp1 (by omega) (ixI (show (37 : Int32) = nI 37 from rfl) (by omega) (by decide)) dX11_soldBy_14 rfl ?_
  rw [ixC (show (37 : Int32) = nI 37 from rfl) (by omega)]
  rw [rtgood hw]
  refine x_iconst (v := 1) (q := 16) dX11_soldBy_15 rfl (by decide) ?_
  refine x_isub (q := 17) dX11_soldBy_16 rfl ?_
  refine x_istore (L' := fun x6_17 => [(6, .int x6_17), (5, .int (nI c)), (4, .int x4_3), (3, .int x3_1), (0, .ref 99), (1, .int (nI c)), (2, .int (nI D))]) (q := 19) dX11_soldBy_17 rfl (by decide) (fun _ => rfl) (fun x6_17 ex6_17 => ?_)
  obtain rfl : x6_17 = nI G - 1 := ex6_17
  subst ex3_1
  subst ex4_3
  exact l_m_soldBy hn hw hd hk hc hc0 hDn G M c 0 0 (Nat.le_refl _) hcb hM0 ⟨rfl, rfl⟩

theorem pw_le10 {D G : Nat} (hD : D ≤ 9) (hG : G ≤ 5) : (D + 1) ^ G ≤ 100000 := by
  have h1 : (D + 1) ^ G ≤ 10 ^ G := Nat.pow_le_pow_left (by omega) G
  have h2 : 10 ^ G ≤ 10 ^ 5 := Nat.pow_le_pow_right (by decide) hG
  omega
def mSale (τ δ : Nat → Nat → Int32) (G : Nat) (a b : Int32) : Int32 := if b = -1 ∨ inB b G = true then (if in19 a = true then (if b = -1 then (pbF (fun z => sdR τ δ a.toNatClampNeg G z 0 0) ((a.toNatClampNeg + 1) ^ G)).1 else nI ((pbF (fun z => sdR τ δ a.toNatClampNeg G z 0 0) ((a.toNatClampNeg + 1) ^ G)).2 / (a.toNatClampNeg + 1) ^ (G - 1 - b.toNatClampNeg) % (a.toNatClampNeg + 1)) - 1) else -3) else -2
theorem mIn19 {p : Int32} : ((1 : Int64) ≤ p.toInt64 ∧ p.toInt64 ≤ 9) ↔ in19 p = true := by
  unfold in19
  rw [decide_eq_true_iff, show (1 : Int64) = (1 : Int32).toInt64 from rfl, show (9 : Int64) = (9 : Int32).toInt64 from rfl, w32, w32, fa_lt, fa_lt]
  omega
theorem in19_nI {p : Int32} (h : in19 p = true) : ∃ D : Nat, 1 ≤ D ∧ D ≤ 9 ∧ p = nI D := by
  unfold in19 at h
  rw [decide_eq_true_iff, fa_lt, fa_lt, show (1 : Int32).toInt = 1 from rfl, show (9 : Int32).toInt = 9 from rfl] at h
  obtain ⟨k, hk, e⟩ := vp_in_of (x := p) (n := 10) (by rw [vp_in_iff]; omega) (by decide)
  refine ⟨k, ?_, by omega, e⟩
  rw [e, nI_toInt (by omega)] at h
  omega
set_option maxHeartbeats 4000000 in
set_option maxRecDepth 100000 in
theorem l_m_sale {n P W G D c0 : Nat} {b : Int32} {t τ δ : Nat → Nat → Int32} {u : Nat → Nat → Int64} {Q : Option Value → (Nat → xE) → Prop} (hn : 113 < n) (hw : RT τ P W G (t 0)) (hd : ∀ k, k < 22 → t 1 k = dv δ k) (hk0 : TOK τ P W G) (hc : c0 < 1000) (hc0 : δ 0 0 = nI c0) (hD : D ≤ 9) : ∀ (k i : Nat) (M : Nat → xE), i + k = (D + 1) ^ G → (oX11 99 t u M) → (X mX11_sale 0 0 100 [(5, .int (nI ((D + 1) ^ G))), (4, .int (nI (pbF (fun z => sdR τ δ D G z 0 0) ((D + 1) ^ G)).2)), (3, .int (pbF (fun z => sdR τ δ D G z 0 0) ((D + 1) ^ G)).1), (0, .ref 99), (1, .int (nI D)), (2, .int b)] [] n M Q) → X mX11_sale 0 0 39 [(5, .int (nI i)), (4, .int (nI (pbF (fun z => sdR τ δ D G z 0 0) i).2)), (3, .int (pbF (fun z => sdR τ δ D G z 0 0) i).1), (0, .ref 99), (1, .int (nI D)), (2, .int b)] [] n M (Q) := by
  have hiX11 : ∀ w ∈ wsX110, w ∈ wsX11_sale := by decide +kernel
  intro k
  induction k with
  | zero =>
    intro i M hik hM hk
    have hM0 := hM
    obtain ⟨mp0, mp1, mp2, mp3, mp4, mp5, mp6, mp7, mp8, mp9, mp10, mp11, mp12, mp13, mp14⟩ := hM
    have hG5 := rtG hw
    have hpw := pw_le10 hD hG5
    refine x_iload (q := 41) dX11_sale_39 rfl rfl ?_
    refine x_iload_n (q := 42) dX11_sale_41 rfl rfl ?_
    refine x_iconst (v := 1) (q := 43) dX11_sale_42 rfl (by decide) ?_
    refine x_iadd (q := 44) dX11_sale_43 rfl ?_
    rw [nI_1]
    refine x_aload_n (q := 45) dX11_sale_44 rfl rfl ?_
    refine x_getf (C := RX11) (T := TX11) (N := 29) (k := 0) (q := 48) mp0 (by omega) rfl hiX11 (by decide) (by decide +kernel) rfl dX11_sale_45 rfl ?_
    refine x_bipush (v := 37) (q := 50) dX11_sale_48 rfl (by decide) ?_
    refine x_iald (q := 51) mp1 (by omega) (ixI (show (37 : Int32) = nI 37 from rfl) (by omega) (by decide)) dX11_sale_50 rfl ?_
    rw [ixC (show (37 : Int32) = nI 37 from rfl) (by omega)]
    rw [rtgood hw]
    refine x_callS (q := 54) (c_m_power (b := D + 1) (e := G) (by omega)) eX11_sale_227 gX11_sale_X11_power rfl (Nat.le_of_ble_eq_true rfl) ⟨Nat.le_refl _, Nat.le_refl _⟩ dX11_sale_51 rfl rfl (fun r51 M51 p51 => ?_)
    obtain ⟨rfl, rfl⟩ := p51
    refine x_icmp_ge (t := 100) (q := 57) dX11_sale_54 (by decide) rfl (fun c54 => ?_) (fun c54 => absurd (by rw [show i = (D + 1) ^ G by omega]; exact nI_le (Nat.le_refl _) (by omega)) c54)
    have e9 : i = (D + 1) ^ G := by omega
    subst e9
    exact hk
  | succ k ih =>
    intro i M hik hM hk
    have hM0 := hM
    obtain ⟨mp0, mp1, mp2, mp3, mp4, mp5, mp6, mp7, mp8, mp9, mp10, mp11, mp12, mp13, mp14⟩ := hM
    have hG5 := rtG hw
    have hpw := pw_le10 hD hG5
    refine x_iload (q := 41) dX11_sale_39 rfl rfl ?_
    refine x_iload_n (q := 42) dX11_sale_41 rfl rfl ?_
    refine x_iconst (v := 1) (q := 43) dX11_sale_42 rfl (by decide) ?_
    refine x_iadd (q := 44) dX11_sale_43 rfl ?_
    rw [nI_1]
    refine x_aload_n (q := 45) dX11_sale_44 rfl rfl ?_
    refine x_getf (C := RX11) (T := TX11) (N := 29) (k := 0) (q := 48) mp0 (by omega) rfl hiX11 (by decide) (by decide +kernel) rfl dX11_sale_45 rfl ?_
    refine x_bipush (v := 37) (q := 50) dX11_sale_48 rfl (by decide) ?_
    refine x_iald (q := 51) mp1 (by omega) (ixI (show (37 : Int32) = nI 37 from rfl) (by omega) (by decide)) dX11_sale_50 rfl ?_
    rw [ixC (show (37 : Int32) = nI 37 from rfl) (by omega)]
    rw [rtgood hw]
    refine x_callS (q := 54) (c_m_power (b := D + 1) (e := G) (by omega)) eX11_sale_227 gX11_sale_X11_power rfl (Nat.le_of_ble_eq_true rfl) ⟨Nat.le_refl _, Nat.le_refl _⟩ dX11_sale_51 rfl rfl (fun r51 M51 p51 => ?_)
    obtain ⟨rfl, rfl⟩ := p51
    refine x_icmp_ge (t := 100) (q := 57) dX11_sale_54 (by decide) rfl (fun c54 => absurd c54 (nI_ge (a := i) (b := (D + 1) ^ G) (by omega) (by omega))) (fun c54 => ?_)
    refine x_aload_n (q := 58) dX11_sale_57 rfl rfl ?_
    refine x_iload (q := 60) dX11_sale_58 rfl rfl ?_
    refine x_iload_n (q := 61) dX11_sale_60 rfl rfl ?_
    refine x_callV (q := 64) (ci := 11) (c_m_soldBy hn hM0 hw hd hk0 hc hc0 (c := i) (by omega) hD) eX11_sale_238 gX11_sale_X11_soldBy mp0 (by omega) rfl rfl rfl (Nat.le_of_ble_eq_true rfl) ⟨Nat.le_refl _, Nat.le_refl _⟩ dX11_sale_61 rfl rfl (fun r61 M61 p61 => ?_)
    obtain ⟨rfl, rfl⟩ := p61
    refine x_istore (L' := fun x6_64 => [(6, .int x6_64), (5, .int (nI i)), (4, .int (nI (pbF (fun z => sdR τ δ D G z 0 0) i).2)), (3, .int (pbF (fun z => sdR τ δ D G z 0 0) i).1), (0, .ref 99), (1, .int (nI D)), (2, .int b)]) (q := 66) dX11_sale_64 rfl (by decide) (fun _ => rfl) (fun x6_64 ex6_64 => ?_)
    obtain rfl : x6_64 = sdR τ δ D G i 0 0 := ex6_64
    refine x_iload (q := 68) dX11_sale_66 rfl rfl ?_
    refine x_iload_n (q := 69) dX11_sale_68 rfl rfl ?_
    refine x_icmp_le (t := 77) (q := 72) dX11_sale_69 (by decide) rfl (fun c69 => ?_) (fun c69 => ?_)
    · refine x_iload (q := 79) dX11_sale_77 rfl rfl ?_
      refine x_istore (L' := fun x4_79 => [(4, .int x4_79), (6, .int (sdR τ δ D G i 0 0)), (5, .int (nI i)), (3, .int (pbF (fun z => sdR τ δ D G z 0 0) i).1), (0, .ref 99), (1, .int (nI D)), (2, .int b)]) (q := 81) dX11_sale_79 rfl (by decide) (fun _ => rfl) (fun x4_79 ex4_79 => ?_)
      obtain rfl : x4_79 = nI (pbF (fun z => sdR τ δ D G z 0 0) (i + 1)).2 := ex4_79.trans (by first | rw [show pbF (fun z => sdR τ δ D G z 0 0) (i + 1) = (sdR τ δ D G i 0 0, i) from if_pos (xlt_nle.mp c69)] | rw [show pbF (fun z => sdR τ δ D G z 0 0) (i + 1) = pbF (fun z => sdR τ δ D G z 0 0) i from if_neg (fun h => xlt_nle.mpr h c69)])
      refine x_iload (q := 83) dX11_sale_81 rfl rfl ?_
      refine x_iload_n (q := 84) dX11_sale_83 rfl rfl ?_
      refine x_icmp_le (t := 92) (q := 87) dX11_sale_84 (by decide) rfl (fun c84 => ?_) (fun c84 => absurd c69 c84)
      refine x_iload_n (q := 93) dX11_sale_92 rfl rfl ?_
      refine x_istore_n (L' := fun x3_93 => [(3, .int x3_93), (4, .int (nI (pbF (fun z => sdR τ δ D G z 0 0) (i + 1)).2)), (6, .int (sdR τ δ D G i 0 0)), (5, .int (nI i)), (0, .ref 99), (1, .int (nI D)), (2, .int b)]) (q := 94) dX11_sale_93 rfl (by decide) (fun _ => rfl) (fun x3_93 ex3_93 => ?_)
      obtain rfl : x3_93 = (pbF (fun z => sdR τ δ D G z 0 0) (i + 1)).1 := ex3_93.trans (by first | rw [show pbF (fun z => sdR τ δ D G z 0 0) (i + 1) = (sdR τ δ D G i 0 0, i) from if_pos (xlt_nle.mp c69)] | rw [show pbF (fun z => sdR τ δ D G z 0 0) (i + 1) = pbF (fun z => sdR τ δ D G z 0 0) i from if_neg (fun h => xlt_nle.mpr h c69)])
      refine x_iinc (L' := fun x5_94 => [(5, .int x5_94), (3, .int ((pbF (fun z => sdR τ δ D G z 0 0) (i + 1)).1)), (4, .int (nI (pbF (fun z => sdR τ δ D G z 0 0) (i + 1)).2)), (6, .int (sdR τ δ D G i 0 0)), (0, .ref 99), (1, .int (nI D)), (2, .int b)]) (q := 97) dX11_sale_94 rfl rfl (by decide) (fun _ => rfl) (fun x5_94 ex5_94 => ?_)
      obtain rfl : x5_94 = nI (i + 1) := ex5_94.trans (nI_1 i)
      refine x_goto (q := 39) dX11_sale_97 (by decide) ?_
      refine x_pick (L' := [(5, .int (nI (i + 1))), (4, .int (nI (pbF (fun z => sdR τ δ D G z 0 0) (i + 1)).2)), (3, .int (pbF (fun z => sdR τ δ D G z 0 0) (i + 1)).1), (0, .ref 99), (1, .int (nI D)), (2, .int b)]) [0, 2, 1, 4, 5, 6] rfl ?_
      exact ih (i + 1) M (by omega) hM0 hk
    · refine x_iload (q := 74) dX11_sale_72 rfl rfl ?_
      refine x_goto (q := 79) dX11_sale_74 (by decide) ?_
      refine x_istore (L' := fun x4_79 => [(4, .int x4_79), (6, .int (sdR τ δ D G i 0 0)), (5, .int (nI i)), (3, .int (pbF (fun z => sdR τ δ D G z 0 0) i).1), (0, .ref 99), (1, .int (nI D)), (2, .int b)]) (q := 81) dX11_sale_79 rfl (by decide) (fun _ => rfl) (fun x4_79 ex4_79 => ?_)
      obtain rfl : x4_79 = nI (pbF (fun z => sdR τ δ D G z 0 0) (i + 1)).2 := ex4_79.trans (by first | rw [show pbF (fun z => sdR τ δ D G z 0 0) (i + 1) = (sdR τ δ D G i 0 0, i) from if_pos (xlt_nle.mp c69)] | rw [show pbF (fun z => sdR τ δ D G z 0 0) (i + 1) = pbF (fun z => sdR τ δ D G z 0 0) i from if_neg (fun h => xlt_nle.mpr h c69)])
      refine x_iload (q := 83) dX11_sale_81 rfl rfl ?_
      refine x_iload_n (q := 84) dX11_sale_83 rfl rfl ?_
      refine x_icmp_le (t := 92) (q := 87) dX11_sale_84 (by decide) rfl (fun c84 => absurd c84 c69) (fun c84 => ?_)
      refine x_iload (q := 89) dX11_sale_87 rfl rfl ?_
      refine x_goto (q := 93) dX11_sale_89 (by decide) ?_
      refine x_istore_n (L' := fun x3_93 => [(3, .int x3_93), (4, .int (nI (pbF (fun z => sdR τ δ D G z 0 0) (i + 1)).2)), (6, .int (sdR τ δ D G i 0 0)), (5, .int (nI i)), (0, .ref 99), (1, .int (nI D)), (2, .int b)]) (q := 94) dX11_sale_93 rfl (by decide) (fun _ => rfl) (fun x3_93 ex3_93 => ?_)
      obtain rfl : x3_93 = (pbF (fun z => sdR τ δ D G z 0 0) (i + 1)).1 := ex3_93.trans (by first | rw [show pbF (fun z => sdR τ δ D G z 0 0) (i + 1) = (sdR τ δ D G i 0 0, i) from if_pos (xlt_nle.mp c69)] | rw [show pbF (fun z => sdR τ δ D G z 0 0) (i + 1) = pbF (fun z => sdR τ δ D G z 0 0) i from if_neg (fun h => xlt_nle.mpr h c69)])
      refine x_iinc (L' := fun x5_94 => [(5, .int x5_94), (3, .int ((pbF (fun z => sdR τ δ D G z 0 0) (i + 1)).1)), (4, .int (nI (pbF (fun z => sdR τ δ D G z 0 0) (i + 1)).2)), (6, .int (sdR τ δ D G i 0 0)), (0, .ref 99), (1, .int (nI D)), (2, .int b)]) (q := 97) dX11_sale_94 rfl rfl (by decide) (fun _ => rfl) (fun x5_94 ex5_94 => ?_)
      obtain rfl : x5_94 = nI (i + 1) := ex5_94.trans (nI_1 i)
      refine x_goto (q := 39) dX11_sale_97 (by decide) ?_
      refine x_pick (L' := [(5, .int (nI (i + 1))), (4, .int (nI (pbF (fun z => sdR τ δ D G z 0 0) (i + 1)).2)), (3, .int (pbF (fun z => sdR τ δ D G z 0 0) (i + 1)).1), (0, .ref 99), (1, .int (nI D)), (2, .int b)]) [0, 2, 1, 4, 5, 6] rfl ?_
      exact ih (i + 1) M (by omega) hM0 hk

set_option maxHeartbeats 4000000 in
set_option maxRecDepth 100000 in
theorem c_m_sale {n : Nat} {M : Nat → xE} {t : Nat → Nat → Int32} {u : Nat → Nat → Int64} (hn : 113 < n) (hM : oX11 99 t u M) {τ : Nat → Nat → Int32} {P W G : Nat} (hw : RT τ P W G (t 0)) {δ : Nat → Nat → Int32} (hd : ∀ k, k < 22 → t 1 k = dv δ k) (hk : TOK τ P W G) {c0 : Nat} (hc : c0 < 1000) (hc0 : δ 0 0 = nI c0) {a b : Int32} : xMet mX11_sale [.ref 99, .int a, .int b] n M (fun r M' => M = M' ∧ some (.int (mSale τ δ G a b)) = r) := by
  have hM0 := hM
  obtain ⟨mp0, mp1, mp2, mp3, mp4, mp5, mp6, mp7, mp8, mp9, mp10, mp11, mp12, mp13, mp14⟩ := hM
  have hP5 := rtP hw
  have hW6 := rtW hw
  have hG5 := rtG hw
  have hiX11 : ∀ w ∈ wsX110, w ∈ wsX11_sale := by decide +kernel
  refine xMet.of _ (by decide) rfl (Nat.le_of_ble_eq_true rfl) ?_
  refine x_aload_n (q := 1) dX11_sale_0 rfl rfl ?_
  refine x_iload_n (q := 2) dX11_sale_1 rfl rfl ?_
  refine x_callV (q := 5) (ci := 11) (c_m_isGood hn hM0 (rtG hw) (rtgood hw)) eX11_sale_178 gX11_sale_X11_isGood mp0 (by omega) rfl rfl rfl (Nat.le_of_ble_eq_true rfl) ⟨Nat.le_refl _, Nat.le_refl _⟩ dX11_sale_2 rfl rfl (fun r2 M2 p2 => ?_)
  obtain ⟨rfl, p2⟩ := p2
  rcases p2 with ⟨b2, rfl⟩ | ⟨b2, rfl⟩
  · refine x_if_ne (t := 16) (q := 8) dX11_sale_5 (by decide) rfl (fun c5 => ?_) (fun c5 => absurd c5 (by decide))
    refine x_iload_n (q := 17) dX11_sale_16 rfl rfl ?_
    refine x_i2l (q := 18) dX11_sale_17 rfl ?_
    refine x_lconst (v := 1) (q := 19) dX11_sale_18 rfl (by decide) ?_
    refine x_ldc2 (v := 9) (q := 22) (by decide +kernel) dX11_sale_19 rfl ?_
    refine x_callS (q := 25) c_m_in eX11_sale_65 gX11_sale_X11_in rfl (Nat.le_of_ble_eq_true rfl) ⟨Nat.le_refl _, Nat.le_refl _⟩ dX11_sale_22 rfl rfl (fun r22 M22 p22 => ?_)
    obtain ⟨rfl, p22⟩ := p22
    rcases p22 with ⟨b22, rfl⟩ | ⟨b22, rfl⟩
    · obtain ⟨D, hD1, hD, rfl⟩ := in19_nI (mIn19.mp b22)
      refine x_if_ne (t := 31) (q := 28) dX11_sale_25 (by decide) rfl (fun c25 => ?_) (fun c25 => absurd c25 (by decide))
      refine x_iconst (v := -1) (q := 32) dX11_sale_31 rfl (by decide) ?_
      refine x_istore_n (L' := fun x3_32 => [(3, .int x3_32), (0, .ref 99), (1, .int (nI D)), (2, .int b)]) (q := 33) dX11_sale_32 rfl (by decide) (fun _ => rfl) (fun x3_32 ex3_32 => ?_)
      refine x_iconst (v := 0) (q := 34) dX11_sale_33 rfl (by decide) ?_
      refine x_istore (L' := fun x4_34 => [(4, .int x4_34), (3, .int x3_32), (0, .ref 99), (1, .int (nI D)), (2, .int b)]) (q := 36) dX11_sale_34 rfl (by decide) (fun _ => rfl) (fun x4_34 ex4_34 => ?_)
      refine x_iconst (v := 0) (q := 37) dX11_sale_36 rfl (by decide) ?_
      refine x_istore (L' := fun x5_37 => [(5, .int x5_37), (4, .int x4_34), (3, .int x3_32), (0, .ref 99), (1, .int (nI D)), (2, .int b)]) (q := 39) dX11_sale_37 rfl (by decide) (fun _ => rfl) (fun x5_37 ex5_37 => ?_)
      subst ex3_32
      subst ex4_34
      subst ex5_37
      have hpw := pw_le10 hD hG5
      refine l_m_sale hn hw hd hk hc hc0 hD ((D + 1) ^ G) 0 M (by omega) hM0 ?_
      have hg2 := b2
      refine x_iload_n (q := 101) dX11_sale_100 rfl rfl ?_
      refine x_iconst (v := -1) (q := 102) dX11_sale_101 rfl (by decide) ?_
      refine x_icmp_ne (t := 109) (q := 105) dX11_sale_102 (by decide) rfl (fun c102 => ?_) (fun c102 => ?_)
      · obtain ⟨b1, hb1, rfl⟩ := vp_in_of (inB_t.mp b2) (by omega)
        refine x_iload (q := 111) dX11_sale_109 rfl rfl ?_
        refine x_iload_n (q := 112) dX11_sale_111 rfl rfl ?_
        refine x_iconst (v := 1) (q := 113) dX11_sale_112 rfl (by decide) ?_
        refine x_iadd (q := 114) dX11_sale_113 rfl ?_
        rw [nI_1]
        refine x_aload_n (q := 115) dX11_sale_114 rfl rfl ?_
        refine x_getf (C := RX11) (T := TX11) (N := 29) (k := 0) (q := 118) mp0 (by omega) rfl hiX11 (by decide) (by decide +kernel) rfl dX11_sale_115 rfl ?_
        refine x_bipush (v := 37) (q := 120) dX11_sale_118 rfl (by decide) ?_
        refine x_iald (q := 121) mp1 (by omega) (ixI (show (37 : Int32) = nI 37 from rfl) (by omega) (by decide)) dX11_sale_120 rfl ?_
        rw [ixC (show (37 : Int32) = nI 37 from rfl) (by omega)]
        rw [rtgood hw]
        refine x_iconst (v := 1) (q := 122) dX11_sale_121 rfl (by decide) ?_
        refine x_isub (q := 123) dX11_sale_122 rfl ?_
        rw [show (nI G - 1 : Int32) = nI (G - 1) from pk_sub (b := 1) (by omega)]
        refine x_iload_n (q := 124) dX11_sale_123 rfl rfl ?_
        refine x_isub (q := 125) dX11_sale_124 rfl ?_
        rw [pk_sub (show b1 ≤ G - 1 by omega)]
        refine x_callS (q := 128) (c_m_power (b := D + 1) (e := G - 1 - b1) (by omega)) eX11_sale_227 gX11_sale_X11_power rfl (Nat.le_of_ble_eq_true rfl) ⟨Nat.le_refl _, Nat.le_refl _⟩ dX11_sale_125 rfl rfl (fun r125 M125 p125 => ?_)
        obtain ⟨rfl, rfl⟩ := p125
        refine x_idiv (q := 129) dX11_sale_128 rfl (nIn0 (Nat.pow_pos (by omega)) (by have h9 := pw_le10 hD (show G - 1 - b1 ≤ 5 by omega); omega)) ?_
        rw [pk_div (show (pbF (fun z => sdR τ δ D G z 0 0) ((D + 1) ^ G)).2 < 2 ^ 31 by have := pbF_lt (fun z => sdR τ δ D G z 0 0) ((D + 1) ^ G); omega) (Nat.pow_pos (by omega)) (by have h9 := pw_le10 hD (show G - 1 - b1 ≤ 5 by omega); omega)]
        refine x_iload_n (q := 130) dX11_sale_129 rfl rfl ?_
        refine x_iconst (v := 1) (q := 131) dX11_sale_130 rfl (by decide) ?_
        refine x_iadd (q := 132) dX11_sale_131 rfl ?_
        rw [nI_1]
        refine x_irem (q := 133) dX11_sale_132 rfl (nIn0 (k := D + 1) (by omega) (by omega)) ?_
        rw [pk_rem (Nat.lt_of_le_of_lt (Nat.div_le_self _ _) (by have := pbF_lt (fun z => sdR τ δ D G z 0 0) ((D + 1) ^ G); omega)) (by omega) (by omega)]
        refine x_iconst (v := 1) (q := 134) dX11_sale_133 rfl (by decide) ?_
        refine x_isub (q := 135) dX11_sale_134 rfl ?_
        refine x_iret dX11_sale_135 rfl rfl (Nat.le_refl _) ?_
        refine ⟨rfl, ?_⟩
        unfold mSale
        rw [if_pos (Or.inr b2), if_pos (mIn19.mp b22), nI_clamp (show D < 2 ^ 31 by omega)]
        first
          | (rw [if_pos c102]; done)
          | (rw [if_neg c102, nI_clamp (show b1 < 2 ^ 31 by omega)]; done)
        
      · refine x_iload_n (q := 106) dX11_sale_105 rfl rfl ?_
        refine x_goto (q := 135) dX11_sale_106 (by decide) ?_
        refine x_iret dX11_sale_135 rfl rfl (Nat.le_refl _) ?_
        refine ⟨rfl, ?_⟩
        unfold mSale
        rw [if_pos (Or.inr b2), if_pos (mIn19.mp b22), nI_clamp (show D < 2 ^ 31 by omega)]
        first
          | (rw [if_pos c102]; done)
          | (rw [if_neg c102, nI_clamp (show b1 < 2 ^ 31 by omega)]; done)
      
    · refine x_if_ne (t := 31) (q := 28) dX11_sale_25 (by decide) rfl (fun c25 => absurd c25 (by decide)) (fun c25 => ?_)
      refine x_bipush (v := -3) (q := 30) dX11_sale_28 rfl (by decide) ?_
      refine x_iret dX11_sale_30 rfl rfl (Nat.le_refl _) ?_
      refine ⟨rfl, ?_⟩
      unfold mSale
      rw [if_pos (Or.inr b2), if_neg (fun h => b22 (mIn19.mpr h))]
  · refine x_if_ne (t := 16) (q := 8) dX11_sale_5 (by decide) rfl (fun c5 => absurd c5 (by decide)) (fun c5 => ?_)
    refine x_iload_n (q := 9) dX11_sale_8 rfl rfl ?_
    refine x_iconst (v := -1) (q := 10) dX11_sale_9 rfl (by decide) ?_
    refine x_icmp_eq (t := 16) (q := 13) dX11_sale_10 (by decide) rfl (fun c10 => ?_) (fun c10 => ?_)
    · refine x_iload_n (q := 17) dX11_sale_16 rfl rfl ?_
      refine x_i2l (q := 18) dX11_sale_17 rfl ?_
      refine x_lconst (v := 1) (q := 19) dX11_sale_18 rfl (by decide) ?_
      refine x_ldc2 (v := 9) (q := 22) (by decide +kernel) dX11_sale_19 rfl ?_
      refine x_callS (q := 25) c_m_in eX11_sale_65 gX11_sale_X11_in rfl (Nat.le_of_ble_eq_true rfl) ⟨Nat.le_refl _, Nat.le_refl _⟩ dX11_sale_22 rfl rfl (fun r22 M22 p22 => ?_)
      obtain ⟨rfl, p22⟩ := p22
      rcases p22 with ⟨b22, rfl⟩ | ⟨b22, rfl⟩
      · obtain ⟨D, hD1, hD, rfl⟩ := in19_nI (mIn19.mp b22)
        refine x_if_ne (t := 31) (q := 28) dX11_sale_25 (by decide) rfl (fun c25 => ?_) (fun c25 => absurd c25 (by decide))
        refine x_iconst (v := -1) (q := 32) dX11_sale_31 rfl (by decide) ?_
        refine x_istore_n (L' := fun x3_32 => [(3, .int x3_32), (0, .ref 99), (1, .int (nI D)), (2, .int b)]) (q := 33) dX11_sale_32 rfl (by decide) (fun _ => rfl) (fun x3_32 ex3_32 => ?_)
        refine x_iconst (v := 0) (q := 34) dX11_sale_33 rfl (by decide) ?_
        refine x_istore (L' := fun x4_34 => [(4, .int x4_34), (3, .int x3_32), (0, .ref 99), (1, .int (nI D)), (2, .int b)]) (q := 36) dX11_sale_34 rfl (by decide) (fun _ => rfl) (fun x4_34 ex4_34 => ?_)
        refine x_iconst (v := 0) (q := 37) dX11_sale_36 rfl (by decide) ?_
        refine x_istore (L' := fun x5_37 => [(5, .int x5_37), (4, .int x4_34), (3, .int x3_32), (0, .ref 99), (1, .int (nI D)), (2, .int b)]) (q := 39) dX11_sale_37 rfl (by decide) (fun _ => rfl) (fun x5_37 ex5_37 => ?_)
        subst ex3_32
        subst ex4_34
        subst ex5_37
        have hpw := pw_le10 hD hG5
        refine l_m_sale hn hw hd hk hc hc0 hD ((D + 1) ^ G) 0 M (by omega) hM0 ?_
        refine x_iload_n (q := 101) dX11_sale_100 rfl rfl ?_
        refine x_iconst (v := -1) (q := 102) dX11_sale_101 rfl (by decide) ?_
        refine x_icmp_ne (t := 109) (q := 105) dX11_sale_102 (by decide) rfl (fun c102 => ?_) (fun c102 => ?_)
        · exact absurd c10 c102
        · refine x_iload_n (q := 106) dX11_sale_105 rfl rfl ?_
          refine x_goto (q := 135) dX11_sale_106 (by decide) ?_
          refine x_iret dX11_sale_135 rfl rfl (Nat.le_refl _) ?_
          refine ⟨rfl, ?_⟩
          unfold mSale
          rw [if_pos (Or.inl c10), if_pos (mIn19.mp b22), nI_clamp (show D < 2 ^ 31 by omega)]
          first
            | (rw [if_pos c102]; done)
            | (rw [if_neg c102, nI_clamp (show b1 < 2 ^ 31 by omega)]; done)
        
      · refine x_if_ne (t := 31) (q := 28) dX11_sale_25 (by decide) rfl (fun c25 => absurd c25 (by decide)) (fun c25 => ?_)
        refine x_bipush (v := -3) (q := 30) dX11_sale_28 rfl (by decide) ?_
        refine x_iret dX11_sale_30 rfl rfl (Nat.le_refl _) ?_
        refine ⟨rfl, ?_⟩
        unfold mSale
        rw [if_pos (Or.inl c10), if_neg (fun h => b22 (mIn19.mpr h))]
    · refine x_bipush (v := -2) (q := 15) dX11_sale_13 rfl (by decide) ?_
      refine x_iret dX11_sale_15 rfl rfl (Nat.le_refl _) ?_
      refine ⟨rfl, ?_⟩
      unfold mSale
      rw [if_neg (fun h => h.elim c10 b2)]

