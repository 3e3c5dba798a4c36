def txW (tx : Nat → Nat → Int32) (N : Nat) (a : Int32) : Nat → Nat → Int32 := fun z => if z = 0 then upd (tx 0) N a else if z = 2 then (fun _ => nI (N + 1)) else tx z
def txE (tx : Nat → Nat → Int32) : Nat → Nat → Int32 := fun z => if z = 2 then (fun _ => 0) else tx z
set_option maxHeartbeats 4000000 in
set_option maxRecDepth 100000 in
theorem c_tadd {n : Nat} {M : Nat → xE} (hn : 24 < n) {tx : Nat → Nat → Int32} {N : Nat} (hTx : oX7 12 tx M) (hN : N ≤ 160) (h2 : tx 2 0 = nI N) {a : Int32} : xMet mX7_add [.ref 12, .int a] n M (fun r M' => (N < 160 ∧ some (.int 1) = r ∧ oX7 12 (txW tx N a) M' ∧ xfr 12 14 M M') ∨ (N = 160 ∧ some (.int 0) = r ∧ M = M')) := by
  have hTx0 := hTx
  obtain ⟨xp0, xp1⟩ := hTx
  rw [h2] at xp0
  have hiX7 : ∀ w ∈ wsX70, w ∈ wsX7_add := by decide +kernel
  refine xMet.of _ (by decide) rfl (Nat.le_of_ble_eq_true rfl) ?_
  refine x_aload_n (q := 1) dX7_add_0 rfl rfl ?_
  refine x_getf (C := RX7) (T := TX7) (N := 8) (k := 2) (q := 4) xp0 (by omega) rfl hiX7 (by decide) (by decide +kernel) rfl dX7_add_1 rfl ?_
  refine x_sipush (v := 160) (q := 7) dX7_add_4 rfl (by decide) ?_
  refine x_icmp_lt (t := 12) (q := 10) dX7_add_7 (by decide) rfl (fun c7 => ?_) (fun c7 => ?_)
  · have h9 : N < 160 := (nI_ltI (b := 160) (by omega) (by decide)).mp c7
    refine x_aload_n (q := 13) dX7_add_12 rfl rfl ?_
    refine x_getf (C := RX7) (T := TX7) (N := 8) (k := 0) (q := 16) xp0 (by omega) rfl hiX7 (by decide) (by decide +kernel) rfl dX7_add_13 rfl ?_
    refine x_aload_n (q := 17) dX7_add_16 rfl rfl ?_
    refine x_getf (C := RX7) (T := TX7) (N := 8) (k := 2) (q := 20) xp0 (by omega) rfl hiX7 (by decide) (by decide +kernel) rfl dX7_add_17 rfl ?_
    refine x_iload_n (q := 21) dX7_add_20 rfl rfl ?_
    refine x_iast (q := 22) xp1 (by omega) (vp_in_nI h9 (by decide)) dX7_add_21 rfl (fun M21 w21 o21 => ?_)
    rw [nI_clamp (show N < 2 ^ 31 by omega)] at w21
    refine x_aload_n (q := 23) dX7_add_22 rfl rfl ?_
    refine x_dup (q := 24) dX7_add_23 rfl rfl ?_
    have hv1_1_12 := ((o21 (12) (by omega)).trans xp0)
    refine x_getf (C := RX7) (T := TX7) (N := 8) (k := 2) (q := 27) hv1_1_12 (by omega) rfl hiX7 (by decide) (by decide +kernel) rfl dX7_add_24 rfl ?_
    refine x_iconst (v := 1) (q := 28) dX7_add_27 rfl (by decide) ?_
    refine x_iadd (q := 29) dX7_add_28 rfl ?_
    rw [nI_1]
    refine x_put (C := RX7) (T := TX7) (N := 8) (k := 2) (q := 32) (ty := .int) tyX7_ok nmX7 hv1_1_12 (by omega) rfl hiX7 (by decide) (by decide +kernel) rfl (by decide +kernel) (fun _ => rfl) (fun _ => rfl) (Nat.le_of_ble_eq_true rfl) dX7_add_29 rfl (fun M29 w29 o29 => ?_)
    refine x_iconst (v := 1) (q := 33) dX7_add_32 rfl (by decide) ?_
    refine x_zret dX7_add_33 rfl rfl rfl (Nat.le_refl _) ?_
    have hv2_2_13 := ((o29 (13) (by omega)).trans w21)
    exact Or.inl ⟨h9, rfl, ⟨w29, hv2_2_13⟩, (fun j hj => ((o29 j (by omega)).trans ((o21 j (by omega)).trans rfl)))⟩
  · refine x_iconst (v := 0) (q := 11) dX7_add_10 rfl (by decide) ?_
    refine x_zret dX7_add_11 rfl rfl rfl (Nat.le_refl _) ?_
    exact Or.inr ⟨by have h9 : ¬ N < 160 := fun h => c7 (nI_lt h (by decide)); omega, rfl, rfl⟩

set_option maxHeartbeats 4000000 in
set_option maxRecDepth 100000 in
theorem c_write {n : Nat} {M : Nat → xE} {kb : Int32} (hn : 98 < n) (hX : oX10 kb M) {tx : Nat → Nat → Int32} {N : Nat} (hTx : oX7 12 tx M) (hN : N ≤ 160) (h2 : tx 2 0 = nI N) {a : Int32} : xMet mX10_write [.ref 0, .int a] n M (fun r M' => if inB a 256 = true then (if N < 160 then (some (.int (nI (N + 1))) = r ∧ oX7 12 (txW tx N a) M' ∧ xfr 12 14 M M') else (M = M' ∧ some (.int (-5)) = r)) else (M = M' ∧ some (.int (-3)) = r)) := by
  have hTx0 := hTx
  obtain ⟨xp0, xp1⟩ := hTx
  have hiX10 : ∀ w ∈ wsX100, w ∈ wsX10_write := by decide +kernel
  have hiX7 : ∀ w ∈ wsX70, w ∈ wsX10_write := by decide +kernel
  refine xMet.of _ (by decide) rfl (Nat.le_of_ble_eq_true rfl) ?_
  refine x_iload_n (q := 1) dX10_write_0 rfl rfl ?_
  refine x_iconst (v := 0) (q := 2) dX10_write_1 rfl (by decide) ?_
  refine x_sipush (v := 255) (q := 5) dX10_write_2 rfl (by decide) ?_
  refine x_callS (q := 8) c_isOutside eX10_write_94 gX10_write_X10_isOutside rfl (Nat.le_of_ble_eq_true rfl) ⟨Nat.le_refl _, Nat.le_refl _⟩ dX10_write_5 rfl rfl (fun r5 M5 p5 => ?_)
  obtain ⟨rfl, p5⟩ := p5
  rcases p5 with ⟨b5, rfl⟩ | ⟨b5, rfl⟩
  · refine x_if_eq (t := 14) (q := 11) dX10_write_8 (by decide) rfl (fun c8 => absurd c8 (by decide)) (fun c8 => ?_)
    refine x_bipush (v := -3) (q := 13) dX10_write_11 rfl (by decide) ?_
    refine x_iret dX10_write_13 rfl rfl (Nat.le_refl _) ?_
    rw [if_neg (show ¬ inB a 256 = true by rw [outB (k := 255) (by decide) b5]; decide)]
    exact ⟨rfl, rfl⟩
  · refine x_if_eq (t := 14) (q := 11) dX10_write_8 (by decide) rfl (fun c8 => ?_) (fun c8 => absurd c8 (by decide))
    refine x_aload_n (q := 15) dX10_write_14 rfl rfl ?_
    refine x_getf (C := RX10) (T := TX10) (N := 12) (k := 1) (q := 18) hX (by omega) rfl hiX10 (by decide) (by decide +kernel) rfl dX10_write_15 rfl ?_
    refine x_iload_n (q := 19) dX10_write_18 rfl rfl ?_
    refine x_callV (q := 22) (ci := 7) (c_tadd (by omega) hTx0 hN h2) eX10_write_98 gX10_write_X7_add xp0 (by omega) rfl rfl rfl (Nat.le_of_ble_eq_true rfl) ⟨Nat.le_refl _, Nat.le_refl _⟩ dX10_write_19 rfl rfl (fun r19 M19 p19 => ?_)
    rcases p19 with ⟨d19, rfl, hU19, fr19⟩ | ⟨d19, rfl, rfl⟩
    · have hV19 := hU19
      obtain ⟨y0, y1⟩ := hU19
      refine x_if_eq (t := 35) (q := 25) dX10_write_22 (by decide) rfl (fun c22 => absurd c22 (by decide)) (fun c22 => ?_)
      refine x_aload_n (q := 26) dX10_write_25 rfl rfl ?_
      have hv1_1_0 := ((fr19 (0) (by omega)).trans hX)
      refine x_getf (C := RX10) (T := TX10) (N := 12) (k := 1) (q := 29) hv1_1_0 (by omega) rfl hiX10 (by decide) (by decide +kernel) rfl dX10_write_26 rfl ?_
      refine x_getf (C := RX7) (T := TX7) (N := 8) (k := 2) (q := 32) y0 (by omega) rfl hiX7 (by decide) (by decide +kernel) rfl dX10_write_29 rfl ?_
      refine x_goto (q := 37) dX10_write_32 (by decide) ?_
      refine x_iret dX10_write_37 rfl rfl (Nat.le_refl _) ?_
      rw [if_pos (outT (k := 255) (by decide) b5), if_pos d19]
      exact ⟨rfl, hV19, fr19⟩
    · refine x_if_eq (t := 35) (q := 25) dX10_write_22 (by decide) rfl (fun c22 => ?_) (fun c22 => absurd c22 (by decide))
      refine x_bipush (v := -5) (q := 37) dX10_write_35 rfl (by decide) ?_
      refine x_iret dX10_write_37 rfl rfl (Nat.le_refl _) ?_
      rw [if_pos (outT (k := 255) (by decide) b5), if_neg (show ¬ N < 160 by omega)]
      exact ⟨rfl, rfl⟩

set_option maxHeartbeats 4000000 in
set_option maxRecDepth 100000 in
theorem c_erase {n : Nat} {M : Nat → xE} {kb : Int32} (hn : 98 < n) (hX : oX10 kb M) {tx : Nat → Nat → Int32} {N : Nat} (hTx : oX7 12 tx M) (hN : N ≤ 160) (h2 : tx 2 0 = nI N) : xMet mX10_erase [.ref 0] n M (fun r M' => some (.int (nI N)) = r ∧ oX7 12 (txE tx) M' ∧ xfr 12 14 M M') := by
  have hTx0 := hTx
  obtain ⟨xp0, xp1⟩ := hTx
  rw [h2] at xp0
  have hiX10 : ∀ w ∈ wsX100, w ∈ wsX10_erase := by decide +kernel
  have hiX7 : ∀ w ∈ wsX70, w ∈ wsX10_erase := by decide +kernel
  refine xMet.of _ (by decide) rfl (Nat.le_of_ble_eq_true rfl) ?_
  refine x_aload_n (q := 1) dX10_erase_0 rfl rfl ?_
  refine x_getf (C := RX10) (T := TX10) (N := 12) (k := 1) (q := 4) hX (by omega) rfl hiX10 (by decide) (by decide +kernel) rfl dX10_erase_1 rfl ?_
  refine x_getf (C := RX7) (T := TX7) (N := 8) (k := 2) (q := 7) xp0 (by omega) rfl hiX7 (by decide) (by decide +kernel) rfl dX10_erase_4 rfl ?_
  refine x_istore_n (L' := fun x1_7 => [(1, .int x1_7), (0, .ref 0)]) (q := 8) dX10_erase_7 rfl (by decide) (fun _ => rfl) (fun x1_7 ex1_7 => ?_)
  obtain rfl : x1_7 = nI N := ex1_7
  refine x_aload_n (q := 9) dX10_erase_8 rfl rfl ?_
  refine x_getf (C := RX10) (T := TX10) (N := 12) (k := 1) (q := 12) hX (by omega) rfl hiX10 (by decide) (by decide +kernel) rfl dX10_erase_9 rfl ?_
  refine x_iconst (v := 0) (q := 13) dX10_erase_12 rfl (by decide) ?_
  refine x_put (C := RX7) (T := TX7) (N := 8) (k := 2) (q := 16) (ty := .int) tyX7_ok nmX7 xp0 (by omega) rfl hiX7 (by decide) (by decide +kernel) rfl (by decide +kernel) (fun _ => rfl) (fun _ => rfl) (Nat.le_of_ble_eq_true rfl) dX10_erase_13 rfl (fun M13 w13 o13 => ?_)
  refine x_iload_n (q := 17) dX10_erase_16 rfl rfl ?_
  refine x_iret dX10_erase_17 rfl rfl (Nat.le_refl _) ?_
  have hv1_1_13 := ((o13 (13) (by omega)).trans xp1)
  exact ⟨rfl, ⟨w13, hv1_1_13⟩, (fun j hj => ((o13 j (by omega)).trans rfl))⟩

def ffI (res : Nat ⊕ (Nat × List tAct)) : Int32 := res.elim nI (fun _ => -1)
theorem ffP_o {lt : Nat → Int32} {N : Nat} {τ : Nat → Nat → Int32} {res : Nat ⊕ (Nat × List tAct)} {r : Option Value} {M' : Nat → xE} (h : ffP lt N τ res r M') : some (.int (ffI res)) = r ∧ (∃ tx', oX7 12 tx' M' ∧ tx' 0 = lt ∧ tx' 2 0 = nI N) ∧ ∃ τ', oX8 14 τ' M' := by
  cases res with
  | inl s =>
    obtain ⟨-, h1, ⟨cl, q, f, h2⟩, h3⟩ := h
    exact ⟨h1, ⟨fun z => if z = 0 then lt else if z = 2 then (fun _ => nI N) else if z = 3 then (fun _ => cl) else if z = 4 then (fun _ => nI (tkK lt N q)) else if z = 5 then (fun _ => nI (tsp lt N q)) else if z = 6 then (fun _ => nI (tkE lt N q)) else (fun _ => f), ⟨h2.1, h2.2⟩, rfl, rfl⟩, h3⟩
  | inr y =>
    obtain ⟨h1, ⟨q, h2⟩, h3⟩ := h
    exact ⟨h1, ⟨fun z => if z = 0 then lt else if z = 2 then (fun _ => nI N) else if z = 3 then (fun _ => nI y.1) else if z = 4 then (fun _ => nI (tkK lt N q)) else if z = 5 then (fun _ => nI (tsp lt N q)) else if z = 6 then (fun _ => nI (tkE lt N q)) else (fun _ => -1), ⟨h2.1, h2.2⟩, rfl, rfl⟩, _, h3⟩
set_option maxHeartbeats 4000000 in
set_option maxRecDepth 100000 in
theorem c_fault {n : Nat} {M : Nat → xE} {kb : Int32} (hn : 98 < n) (hX : oX10 kb M) {tx : Nat → Nat → Int32} {N : Nat} (hTx : oX7 12 tx M) (hN : N ≤ 160) (h2 : tx 2 0 = nI N) {τ τd : Nat → Nat → Int32} (hDr : oX8 14 τd M) (hT : oX8 1 τ M) {P W G : Nat} (hP : P ≤ 5) (hW : W ≤ 6) (hG : G ≤ 5) (hP0 : τ 0 0 = nI P) (hW0 : τ 3 0 = nI W) (hG0 : τ 8 0 = nI G) : xMet mX10_fault [.ref 0] n M (fun r M' => some (.int (ffI (fnd (tx 0) N 14 1 P W G 0))) = r ∧ (∃ tx', oX7 12 tx' M' ∧ tx' 0 = tx 0 ∧ tx' 2 0 = nI N) ∧ (∃ τ', oX8 14 τ' M') ∧ xfr 12 25 M M') := by
  have hTx0 := hTx
  obtain ⟨xp0, xp1⟩ := hTx
  have hiX10 : ∀ w ∈ wsX100, w ∈ wsX10_fault := by decide +kernel
  refine xMet.of _ (by decide) rfl (Nat.le_of_ble_eq_true rfl) ?_
  refine x_aload_n (q := 1) dX10_fault_0 rfl rfl ?_
  refine x_getf (C := RX10) (T := TX10) (N := 12) (k := 1) (q := 4) hX (by omega) rfl hiX10 (by decide) (by decide +kernel) rfl dX10_fault_1 rfl ?_
  refine x_aload_n (q := 5) dX10_fault_4 rfl rfl ?_
  refine x_getf (C := RX10) (T := TX10) (N := 12) (k := 0) (q := 8) hX (by omega) rfl hiX10 (by decide) (by decide +kernel) rfl dX10_fault_5 rfl ?_
  refine x_callV (q := 11) (ci := 7) (c_find (by omega) hN h2 hTx0 hDr hT hP hW hG hP0 hW0 hG0) eX10_fault_105 gX10_fault_X7_findFault xp0 (by omega) rfl rfl rfl (Nat.le_of_ble_eq_true rfl) ⟨Nat.le_refl _, Nat.le_refl _⟩ dX10_fault_8 rfl rfl (fun r8 M8 p8 => ?_)
  obtain ⟨hF8, fr8⟩ := p8
  obtain ⟨rfl, hF9⟩ := ffP_o hF8
  refine x_iret dX10_fault_11 rfl rfl (Nat.le_refl _) ?_
  exact ⟨rfl, hF9.1, hF9.2, fr8⟩

def tnP (τ tw tc tbl : Nat → Nat → Int32) (nx : Nat) (Dp : Nat → Nat → Nat → Int32) (lt : Nat → Int32) (N : Nat) (res : Nat ⊕ (Nat × List tAct)) (r : Option Value) (M M' : Nat → xE) : Prop := res.elim
  (fun _ => some (.int (-4)) = r ∧ (∃ tx', oX7 12 tx' M' ∧ tx' 0 = lt ∧ tx' 2 0 = nI N) ∧ (∃ τ', oX8 14 τ' M') ∧ xfr 12 25 M M')
  (fun y => some (.int (nI y.1)) = r ∧ (∃ tx', oX7 12 tx' M' ∧ tx' 0 = lt ∧ tx' 2 0 = 0) ∧ (∃ τ', oX8 14 τ' M') ∧ oX8 1 (y.2.foldl doA τ) M' ∧ oX3 25 (dNew (y.2.foldl doA τ 12 0)) M' ∧ oPast 29 0 nx Dp M' ∧ oX10 0 M' ∧ oCh (fun i => if i = 0 then (fun _ => 0) else tc i) M' ∧ oX9 93 (fun i => if i = 0 then (fun _ => 0) else tw i) M' ∧ oX0 95 (fun i => if i = 0 then (fun _ => 0) else tbl i) M' ∧ ∀ j, (63 ≤ j → j < 83 ∨ 90 ≤ j) → 63 ≤ j → (j < 93 ∨ 99 ≤ j) → M' j = M j)
set_option maxHeartbeats 4000000 in
set_option maxRecDepth 100000 in
theorem c_town {n : Nat} {M : Nat → xE} {kb : Int32} (hn : 98 < n) (hX : oX10 kb M) {tx : Nat → Nat → Int32} {N : Nat} (hTx : oX7 12 tx M) (hN : N ≤ 160) (h2 : tx 2 0 = nI N) {τ τd : Nat → Nat → Int32} (hDr : oX8 14 τd M) (hT : oX8 1 τ M) {P W G : Nat} (hP : P ≤ 5) (hW : W ≤ 6) (hG : G ≤ 5) (hP0 : τ 0 0 = nI P) (hW0 : τ 3 0 = nI W) (hG0 : τ 8 0 = nI G) {δ : Nat → Nat → Int32} (hD : oX3 25 δ M) {sz nx : Nat} {Dp : Nat → Nat → Nat → Int32} (hPa : oPast 29 sz nx Dp M) {tc : Nat → Nat → Int32} {u : Nat → Nat → Int64} (hLc : oX1 83 tc u M) {tw : Nat → Nat → Int32} (hWo : oX9 93 tw M) {tbl : Nat → Nat → Int32} (hLb : oX0 95 tbl M) : xMet mX10_town [.ref 0] n M (fun r M' => tnP τ tw tc tbl nx Dp (tx 0) N (fnd (tx 0) N 14 1 P W G 0) r M M') := by
  have hTx0 := hTx
  obtain ⟨xp0, xp1⟩ := hTx
  have hT0 := hT
  obtain ⟨tp0, tp1, tp2, tp3, tp4, tp5, tp6, tp7, tp8, tp9, tp10⟩ := hT
  obtain ⟨dd0, dd1, dd2, dd3⟩ := id hD
  obtain ⟨pp0, pp1, -⟩ := id hPa
  obtain ⟨c0, c1, c2, c3, c4, c5, c6⟩ := id hLc
  obtain ⟨w0, w1⟩ := id hWo
  obtain ⟨b0, b1, b2, b3⟩ := id hLb
  have hiX0 : ∀ w ∈ wsX00, w ∈ wsX10_town := by decide +kernel
  have hiX1 : ∀ w ∈ wsX10, w ∈ wsX10_town := by decide +kernel
  have hiX10 : ∀ w ∈ wsX100, w ∈ wsX10_town := by decide +kernel
  have hiX5 : ∀ w ∈ wsX50, w ∈ wsX10_town := by decide +kernel
  have hiX7 : ∀ w ∈ wsX70, w ∈ wsX10_town := by decide +kernel
  have hiX8 : ∀ w ∈ wsX80, w ∈ wsX10_town := by decide +kernel
  have hiX9 : ∀ w ∈ wsX90, w ∈ wsX10_town := by decide +kernel
  refine xMet.of _ (by decide) rfl (Nat.le_of_ble_eq_true rfl) ?_
  refine x_aload_n (q := 1) dX10_town_0 rfl rfl ?_
  refine x_getf (C := RX10) (T := TX10) (N := 12) (k := 1) (q := 4) hX (by omega) rfl hiX10 (by decide) (by decide +kernel) rfl dX10_town_1 rfl ?_
  refine x_aload_n (q := 5) dX10_town_4 rfl rfl ?_
  refine x_getf (C := RX10) (T := TX10) (N := 12) (k := 0) (q := 8) hX (by omega) rfl hiX10 (by decide) (by decide +kernel) rfl dX10_town_5 rfl ?_
  refine x_callV (q := 11) (ci := 7) (c_find (by omega) hN h2 hTx0 hDr hT0 hP hW hG hP0 hW0 hG0) eX10_town_105 gX10_town_X7_findFault xp0 (by omega) rfl rfl rfl (Nat.le_of_ble_eq_true rfl) ⟨Nat.le_refl _, Nat.le_refl _⟩ dX10_town_8 rfl rfl (fun r8 M8 p8 => ?_)
  obtain ⟨hF8, fr8⟩ := p8; rcases hres : fnd (tx 0) N 14 1 P W G 0 with s | y
  · rw [hres] at hF8
    obtain ⟨hsN, rfl, ⟨cl, q, f, hT9⟩, τ9, hD9⟩ := hF8
    refine x_iconst (v := -1) (q := 12) dX10_town_11 rfl (by decide) ?_
    refine x_icmp_eq (t := 18) (q := 15) dX10_town_12 (by decide) rfl (fun c12 => absurd c12 (m1ne (by omega))) (fun c12 => ?_)
    refine x_bipush (v := -4) (q := 17) dX10_town_15 rfl (by decide) ?_
    refine x_iret dX10_town_17 rfl rfl (Nat.le_refl _) ?_
    exact ⟨rfl, ⟨fun z => if z = 0 then tx 0 else if z = 2 then (fun _ => nI N) else if z = 3 then (fun _ => cl) else if z = 4 then (fun _ => nI (tkK (tx 0) N q)) else if z = 5 then (fun _ => nI (tsp (tx 0) N q)) else if z = 6 then (fun _ => nI (tkE (tx 0) N q)) else (fun _ => f), ⟨hT9.1, hT9.2⟩, rfl, rfl⟩, ⟨τ9, hD9⟩, fr8⟩
  · rw [hres] at hF8
    obtain ⟨rfl, ⟨q, t9a, t9b⟩, e9⟩ := hF8
    have e9 : oX8 14 (y.2.foldl doA τ) _ := e9
    have t9a := t9a
    refine x_iconst (v := -1) (q := 12) dX10_town_11 rfl (by decide) ?_
    refine x_icmp_eq (t := 18) (q := 15) dX10_town_12 (by decide) rfl (fun c12 => ?_) (fun c12 => absurd rfl c12)
    refine x_aload_n (q := 19) dX10_town_18 rfl rfl ?_
    have hv1_1_0 := ((fr8 (0) (by omega)).trans hX)
    refine x_getf (C := RX10) (T := TX10) (N := 12) (k := 0) (q := 22) hv1_1_0 (by omega) rfl hiX10 (by decide) (by decide +kernel) rfl dX10_town_19 rfl ?_
    refine x_aload_n (q := 23) dX10_town_22 rfl rfl ?_
    refine x_getf (C := RX10) (T := TX10) (N := 12) (k := 1) (q := 26) hv1_1_0 (by omega) rfl hiX10 (by decide) (by decide +kernel) rfl dX10_town_23 rfl ?_
    refine x_getf (C := RX7) (T := TX7) (N := 8) (k := 1) (q := 29) t9a (by omega) rfl hiX7 (by decide) (by decide +kernel) rfl dX10_town_26 rfl ?_
    have hv1_2_1 := ((fr8 (1) (by omega)).trans tp0)
    refine x_callV (q := 32) (ci := 8) (c_Told_copy (p := 1) (q := 14) (by omega) (by omega) (by omega) (hT0.keep (fun j h1 h2 => fr8 j (by omega))) e9) eX10_town_112 gX10_town_X8_copyFrom hv1_2_1 (by omega) rfl rfl rfl (Nat.le_of_ble_eq_true rfl) ⟨Nat.le_refl _, Nat.le_refl _⟩ dX10_town_29 rfl rfl (fun r29 M29 p29 => ?_)
    obtain ⟨rfl, hV29, fr29⟩ := p29
    have hU29 := hV29
    obtain ⟨k0, k1, k2, k3, k4, k5, k6, k7, k8, k9, k10⟩ := hV29
    refine x_aload_n (q := 33) dX10_town_32 rfl rfl ?_
    have hv2_3_0 := ((fr29 (0) (by omega)).trans hv1_1_0)
    refine x_getf (C := RX10) (T := TX10) (N := 12) (k := 1) (q := 36) hv2_3_0 (by omega) rfl hiX10 (by decide) (by decide +kernel) rfl dX10_town_33 rfl ?_
    refine x_iconst (v := 0) (q := 37) dX10_town_36 rfl (by decide) ?_
    have hv2_4_12 := ((fr29 (12) (by omega)).trans t9a)
    refine x_put (C := RX7) (T := TX7) (N := 8) (k := 2) (q := 40) (ty := .int) tyX7_ok nmX7 hv2_4_12 (by omega) rfl hiX7 (by decide) (by decide +kernel) rfl (by decide +kernel) (fun _ => rfl) (fun _ => rfl) (Nat.le_of_ble_eq_true rfl) dX10_town_37 rfl (fun M37 w37 o37 => ?_)
    refine x_aload_n (q := 41) dX10_town_40 rfl rfl ?_
    have hv3_5_0 := ((o37 (0) (by omega)).trans hv2_3_0)
    refine x_getf (C := RX10) (T := TX10) (N := 12) (k := 2) (q := 44) hv3_5_0 (by omega) rfl hiX10 (by decide) (by decide +kernel) rfl dX10_town_41 rfl ?_
    refine x_aload_n (q := 45) dX10_town_44 rfl rfl ?_
    refine x_getf (C := RX10) (T := TX10) (N := 12) (k := 0) (q := 48) hv3_5_0 (by omega) rfl hiX10 (by decide) (by decide +kernel) rfl dX10_town_45 rfl ?_
    have hv3_6_1 := ((o37 (1) (by omega)).trans k0)
    refine x_getf (C := RX8) (T := TX8) (N := 15) (k := 12) (q := 51) hv3_6_1 (by omega) rfl hiX8 (by decide) (by decide +kernel) rfl dX10_town_48 rfl ?_
    have hv3_7_25 := ((o37 (25) (by omega)).trans ((fr29 (25) (by omega)).trans ((fr8 (25) (by omega)).trans dd0)))
    refine x_callV (q := 54) (ci := 3) (c_Day_begin (p := 25) (by omega) (hD.keep (fun j h1 h2 => (o37 j (by omega)).trans ((fr29 j (by omega)).trans (fr8 j (by omega)))))) eX10_town_90 gX10_town_X3_beginAnew hv3_7_25 (by omega) rfl rfl rfl (Nat.le_of_ble_eq_true rfl) ⟨Nat.le_refl _, Nat.le_refl _⟩ dX10_town_51 rfl rfl (fun r51 M51 p51 => ?_)
    obtain ⟨rfl, hV51, fr51⟩ := p51
    refine x_aload_n (q := 55) dX10_town_54 rfl rfl ?_
    have hv4_8_0 := ((fr51 (0) (by omega)).trans hv3_5_0)
    refine x_getf (C := RX10) (T := TX10) (N := 12) (k := 3) (q := 58) hv4_8_0 (by omega) rfl hiX10 (by decide) (by decide +kernel) rfl dX10_town_55 rfl ?_
    refine x_iconst (v := 0) (q := 59) dX10_town_58 rfl (by decide) ?_
    have hv4_9_29 := ((fr51 (29) (by omega)).trans ((o37 (29) (by omega)).trans ((fr29 (29) (by omega)).trans ((fr8 (29) (by omega)).trans pp0))))
    refine x_put (C := RX5) (T := TX5) (N := 3) (k := 0) (q := 62) (ty := .int) tyX5_ok nmX5 hv4_9_29 (by omega) rfl hiX5 (by decide) (by decide +kernel) rfl (by decide +kernel) (fun _ => rfl) (fun _ => rfl) (Nat.le_of_ble_eq_true rfl) dX10_town_59 rfl (fun M59 w59 o59 => ?_)
    refine x_aload_n (q := 63) dX10_town_62 rfl rfl ?_
    refine x_iconst (v := 0) (q := 64) dX10_town_63 rfl (by decide) ?_
    have hv5_10_0 := ((o59 (0) (by omega)).trans hv4_8_0)
    refine x_put (C := RX10) (T := TX10) (N := 12) (k := 11) (q := 67) (ty := .int) tyX10_ok nmX10 hv5_10_0 (by omega) rfl hiX10 (by decide) (by decide +kernel) rfl (by decide +kernel) (fun _ => rfl) (fun _ => rfl) (Nat.le_of_ble_eq_true rfl) dX10_town_64 rfl (fun M64 w64 o64 => ?_)
    refine x_aload_n (q := 68) dX10_town_67 rfl rfl ?_
    refine x_getf (C := RX10) (T := TX10) (N := 12) (k := 7) (q := 71) w64 (by omega) rfl hiX10 (by decide) (by decide +kernel) rfl dX10_town_68 rfl ?_
    refine x_iconst (v := 0) (q := 72) dX10_town_71 rfl (by decide) ?_
    have hv6_11_83 := ((o64 (83) (by omega)).trans ((o59 (83) (by omega)).trans ((fr51 (83) (by omega)).trans ((o37 (83) (by omega)).trans ((fr29 (83) (by omega)).trans ((fr8 (83) (by omega)).trans c0))))))
    refine x_put (C := RX1) (T := TX1) (N := 7) (k := 0) (q := 75) (ty := .int) tyX1_ok nmX1 hv6_11_83 (by omega) rfl hiX1 (by decide) (by decide +kernel) rfl (by decide +kernel) (fun _ => rfl) (fun _ => rfl) (Nat.le_of_ble_eq_true rfl) dX10_town_72 rfl (fun M72 w72 o72 => ?_)
    refine x_aload_n (q := 76) dX10_town_75 rfl rfl ?_
    have hv7_12_0 := ((o72 (0) (by omega)).trans w64)
    refine x_getf (C := RX10) (T := TX10) (N := 12) (k := 9) (q := 79) hv7_12_0 (by omega) rfl hiX10 (by decide) (by decide +kernel) rfl dX10_town_76 rfl ?_
    refine x_iconst (v := 0) (q := 80) dX10_town_79 rfl (by decide) ?_
    have hv7_13_93 := ((o72 (93) (by omega)).trans ((o64 (93) (by omega)).trans ((o59 (93) (by omega)).trans ((fr51 (93) (by omega)).trans ((o37 (93) (by omega)).trans ((fr29 (93) (by omega)).trans ((fr8 (93) (by omega)).trans w0)))))))
    refine x_put (C := RX9) (T := TX9) (N := 2) (k := 0) (q := 83) (ty := .int) tyX9_ok nmX9 hv7_13_93 (by omega) rfl hiX9 (by decide) (by decide +kernel) rfl (by decide +kernel) (fun _ => rfl) (fun _ => rfl) (Nat.le_of_ble_eq_true rfl) dX10_town_80 rfl (fun M80 w80 o80 => ?_)
    refine x_aload_n (q := 84) dX10_town_83 rfl rfl ?_
    have hv8_14_0 := ((o80 (0) (by omega)).trans hv7_12_0)
    refine x_getf (C := RX10) (T := TX10) (N := 12) (k := 10) (q := 87) hv8_14_0 (by omega) rfl hiX10 (by decide) (by decide +kernel) rfl dX10_town_84 rfl ?_
    refine x_iconst (v := 0) (q := 88) dX10_town_87 rfl (by decide) ?_
    have hv8_15_95 := ((o80 (95) (by omega)).trans ((o72 (95) (by omega)).trans ((o64 (95) (by omega)).trans ((o59 (95) (by omega)).trans ((fr51 (95) (by omega)).trans ((o37 (95) (by omega)).trans ((fr29 (95) (by omega)).trans ((fr8 (95) (by omega)).trans b0))))))))
    refine x_put (C := RX0) (T := TX0) (N := 4) (k := 0) (q := 91) (ty := .int) tyX0_ok nmX0 hv8_15_95 (by omega) rfl hiX0 (by decide) (by decide +kernel) rfl (by decide +kernel) (fun _ => rfl) (fun _ => rfl) (Nat.le_of_ble_eq_true rfl) dX10_town_88 rfl (fun M88 w88 o88 => ?_)
    refine x_aload_n (q := 92) dX10_town_91 rfl rfl ?_
    have hv9_16_0 := ((o88 (0) (by omega)).trans hv8_14_0)
    refine x_getf (C := RX10) (T := TX10) (N := 12) (k := 1) (q := 95) hv9_16_0 (by omega) rfl hiX10 (by decide) (by decide +kernel) rfl dX10_town_92 rfl ?_
    have hv9_17_12 := ((o88 (12) (by omega)).trans ((o80 (12) (by omega)).trans ((o72 (12) (by omega)).trans ((o64 (12) (by omega)).trans ((o59 (12) (by omega)).trans ((fr51 (12) (by omega)).trans w37))))))
    refine x_getf (C := RX7) (T := TX7) (N := 8) (k := 3) (q := 98) hv9_17_12 (by omega) rfl hiX7 (by decide) (by decide +kernel) rfl dX10_town_95 rfl ?_
    refine x_iret dX10_town_98 rfl rfl (Nat.le_refl _) ?_
    have hv9_18_13 := ((o88 (13) (by omega)).trans ((o80 (13) (by omega)).trans ((o72 (13) (by omega)).trans ((o64 (13) (by omega)).trans ((o59 (13) (by omega)).trans ((fr51 (13) (by omega)).trans ((o37 (13) (by omega)).trans ((fr29 (13) (by omega)).trans t9b))))))))
    have hv9_19_29 := ((o88 (29) (by omega)).trans ((o80 (29) (by omega)).trans ((o72 (29) (by omega)).trans ((o64 (29) (by omega)).trans w59))))
    have hv9_20_83 := ((o88 (83) (by omega)).trans ((o80 (83) (by omega)).trans w72))
    have hv9_21_93 := ((o88 (93) (by omega)).trans w80)
    have hv9_22_30 := ((o88 (30) (by omega)).trans ((o80 (30) (by omega)).trans ((o72 (30) (by omega)).trans ((o64 (30) (by omega)).trans ((o59 (30) (by omega)).trans ((fr51 (30) (by omega)).trans ((o37 (30) (by omega)).trans ((fr29 (30) (by omega)).trans ((fr8 (30) (by omega)).trans pp1)))))))))
    have hv9_23_84 := ((o88 (84) (by omega)).trans ((o80 (84) (by omega)).trans ((o72 (84) (by omega)).trans ((o64 (84) (by omega)).trans ((o59 (84) (by omega)).trans ((fr51 (84) (by omega)).trans ((o37 (84) (by omega)).trans ((fr29 (84) (by omega)).trans ((fr8 (84) (by omega)).trans c1)))))))))
    have hv9_24_85 := ((o88 (85) (by omega)).trans ((o80 (85) (by omega)).trans ((o72 (85) (by omega)).trans ((o64 (85) (by omega)).trans ((o59 (85) (by omega)).trans ((fr51 (85) (by omega)).trans ((o37 (85) (by omega)).trans ((fr29 (85) (by omega)).trans ((fr8 (85) (by omega)).trans c2)))))))))
    have hv9_25_86 := ((o88 (86) (by omega)).trans ((o80 (86) (by omega)).trans ((o72 (86) (by omega)).trans ((o64 (86) (by omega)).trans ((o59 (86) (by omega)).trans ((fr51 (86) (by omega)).trans ((o37 (86) (by omega)).trans ((fr29 (86) (by omega)).trans ((fr8 (86) (by omega)).trans c3)))))))))
    have hv9_26_87 := ((o88 (87) (by omega)).trans ((o80 (87) (by omega)).trans ((o72 (87) (by omega)).trans ((o64 (87) (by omega)).trans ((o59 (87) (by omega)).trans ((fr51 (87) (by omega)).trans ((o37 (87) (by omega)).trans ((fr29 (87) (by omega)).trans ((fr8 (87) (by omega)).trans c4)))))))))
    have hv9_27_88 := ((o88 (88) (by omega)).trans ((o80 (88) (by omega)).trans ((o72 (88) (by omega)).trans ((o64 (88) (by omega)).trans ((o59 (88) (by omega)).trans ((fr51 (88) (by omega)).trans ((o37 (88) (by omega)).trans ((fr29 (88) (by omega)).trans ((fr8 (88) (by omega)).trans c5)))))))))
    have hv9_28_89 := ((o88 (89) (by omega)).trans ((o80 (89) (by omega)).trans ((o72 (89) (by omega)).trans ((o64 (89) (by omega)).trans ((o59 (89) (by omega)).trans ((fr51 (89) (by omega)).trans ((o37 (89) (by omega)).trans ((fr29 (89) (by omega)).trans ((fr8 (89) (by omega)).trans c6)))))))))
    have hv9_29_94 := ((o88 (94) (by omega)).trans ((o80 (94) (by omega)).trans ((o72 (94) (by omega)).trans ((o64 (94) (by omega)).trans ((o59 (94) (by omega)).trans ((fr51 (94) (by omega)).trans ((o37 (94) (by omega)).trans ((fr29 (94) (by omega)).trans ((fr8 (94) (by omega)).trans w1)))))))))
    have hv9_30_96 := ((o88 (96) (by omega)).trans ((o80 (96) (by omega)).trans ((o72 (96) (by omega)).trans ((o64 (96) (by omega)).trans ((o59 (96) (by omega)).trans ((fr51 (96) (by omega)).trans ((o37 (96) (by omega)).trans ((fr29 (96) (by omega)).trans ((fr8 (96) (by omega)).trans b1)))))))))
    have hv9_31_97 := ((o88 (97) (by omega)).trans ((o80 (97) (by omega)).trans ((o72 (97) (by omega)).trans ((o64 (97) (by omega)).trans ((o59 (97) (by omega)).trans ((fr51 (97) (by omega)).trans ((o37 (97) (by omega)).trans ((fr29 (97) (by omega)).trans ((fr8 (97) (by omega)).trans b2)))))))))
    have hv9_32_98 := ((o88 (98) (by omega)).trans ((o80 (98) (by omega)).trans ((o72 (98) (by omega)).trans ((o64 (98) (by omega)).trans ((o59 (98) (by omega)).trans ((fr51 (98) (by omega)).trans ((o37 (98) (by omega)).trans ((fr29 (98) (by omega)).trans ((fr8 (98) (by omega)).trans b3)))))))))
    refine ⟨rfl, ⟨fun z => if z = 0 then tx 0 else if z = 2 then (fun _ => 0) else if z = 3 then (fun _ => nI y.1) else if z = 4 then (fun _ => nI (tkK (tx 0) N q)) else if z = 5 then (fun _ => nI (tsp (tx 0) N q)) else if z = 6 then (fun _ => nI (tkE (tx 0) N q)) else (fun _ => -1), ⟨hv9_17_12, hv9_18_13⟩, rfl, rfl⟩, ⟨_, e9.keep (fun j h1 h2 => ((o88 j (by omega)).trans ((o80 j (by omega)).trans ((o72 j (by omega)).trans ((o64 j (by omega)).trans ((o59 j (by omega)).trans ((fr51 j (by omega)).trans ((o37 j (by omega)).trans (fr29 j (by omega))))))))))⟩, hU29.keep (fun j h1 h2 => ((o88 j (by omega)).trans ((o80 j (by omega)).trans ((o72 j (by omega)).trans ((o64 j (by omega)).trans ((o59 j (by omega)).trans ((fr51 j (by omega)).trans (o37 j (by omega))))))))), hV51.keep (fun j h1 h2 => ((o88 j (by omega)).trans ((o80 j (by omega)).trans ((o72 j (by omega)).trans ((o64 j (by omega)).trans (o59 j (by omega))))))), ⟨hv9_19_29, hv9_22_30, fun j hj => (hPa.2.2 j hj).keep (fun i h1 h2 => ((o88 i (by omega)).trans ((o80 i (by omega)).trans ((o72 i (by omega)).trans ((o64 i (by omega)).trans ((o59 i (by omega)).trans ((fr51 i (by omega)).trans ((o37 i (by omega)).trans ((fr29 i (by omega)).trans (fr8 i (by omega)))))))))))⟩, hv9_16_0, ?_, ?_, ?_, fun j a1 a2 a3 => ((o88 j (by omega)).trans ((o80 j (by omega)).trans ((o72 j (by omega)).trans ((o64 j (by omega)).trans ((o59 j (by omega)).trans ((fr51 j (by omega)).trans ((o37 j (by omega)).trans ((fr29 j (by omega)).trans (fr8 j (by omega))))))))))⟩
    · exact ⟨u, ⟨hv9_20_83, hv9_23_84, hv9_24_85, hv9_25_86, hv9_26_87, hv9_27_88, hv9_28_89⟩⟩
    · exact ⟨hv9_21_93, hv9_29_94⟩
    · exact ⟨w88, hv9_30_96, hv9_31_97, hv9_32_98⟩

