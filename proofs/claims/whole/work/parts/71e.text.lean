theorem rm_1 {P W G c : Nat} (h1 : 1 ≤ c) (h2 : c < 5) : rm P W G c = decide (P < 5) := by unfold rm; rw [if_pos ⟨h1, h2⟩]
theorem rm_6 {P W G : Nat} : rm P W G 6 = decide (W < 6) := by unfold rm; rw [if_neg (by omega), if_pos rfl]
theorem rm_7 {P W G c : Nat} (h : c = 7 ∨ c = 8) : rm P W G c = decide (G < 5) := by unfold rm; rw [if_neg (by omega), if_neg (by omega), if_pos h]
theorem rm_o {P W G c : Nat} (h : c = 0 ∨ c = 5 ∨ c = 9 ∨ c = 10 ∨ c = 11) : rm P W G c = true := by unfold rm; rw [if_neg (by omega), if_neg (by omega), if_neg (by omega)]
/-- what takesClause answers for the word that was found -/
theorem mr_no {t : Nat → Nat → Int32} {u : Nat → Nat → Int64} {lt w : Nat → Int32} {N P W G q x : Nat} {a iw ib v c : Int32} {M' : Nat → xE} (hx : wdT lt N q = some x) (hr : ¬ rm P W G x = true) (h : oR t u lt N w a (nI (tsp lt N q)) iw ib v c M') : mrP t u lt N P W G w c (rdC lt N P W G q) (some (.int 0)) M' := by
  unfold rdC
  rw [hx]
  show mrP t u lt N P W G w c (if rm P W G x = true then _ else _) _ _
  rw [if_neg hr]
  exact ⟨rfl, _, _, _, _, _, h, fun _ _ => rfl⟩
theorem mr_none {t : Nat → Nat → Int32} {u : Nat → Nat → Int64} {lt w : Nat → Int32} {N P W G q : Nat} {a iw ib v c : Int32} {M' : Nat → xE} (hx : wdT lt N q = none) (h : oR t u lt N w a (nI (tsp lt N q)) iw ib v c M') : mrP t u lt N P W G w c (rdC lt N P W G q) (some (.int 0)) M' := by
  unfold rdC
  rw [hx]
  exact ⟨rfl, _, _, _, _, _, h, fun _ _ => rfl⟩
theorem mr_yes {t : Nat → Nat → Int32} {u : Nat → Nat → Int64} {lt w : Nat → Int32} {N P W G q x : Nat} {c : Int32} {r : Option Value} {M' : Nat → xE} (hx : wdT lt N q = some x) (hr : rm P W G x = true) (h : mrP t u lt N P W G w c (rdB lt N P x (tkE lt N q)) r M') : mrP t u lt N P W G w c (rdC lt N P W G q) r M' := by
  unfold rdC
  rw [hx]
  show mrP t u lt N P W G w c (if rm P W G x = true then _ else _) _ _
  rw [if_pos hr]
  exact h
theorem mr_at {t : Nat → Nat → Int32} {u : Nat → Nat → Int64} {lt w : Nat → Int32} {N P W G x q : Nat} {s iw ib v c : Int32} {M' : Nat → xE} (hx : x = 0 ∨ x = 11 ∨ (1 ≤ x ∧ x < 5)) (hq : q ≤ N) (h : oR t u lt N (doM P W G w (x, 0, 0, 0, 0)) (nI q) s iw ib v c M') : mrP t u lt N P W G w c (rdB lt N P x q) (some (.int 1)) M' := by
  unfold rdB
  rw [if_neg (by omega), if_neg (by omega), if_neg (by omega), if_neg (by omega), if_neg (by omega)]
  exact ⟨rfl, hq, _, _, _, _, h⟩
/-- the model's own cells while it reads -/
def rT (t : Nat → Nat → Int32) (lt : Nat → Int32) (N : Nat) (w : Nat → Int32) (a s iw ib v c : Int32) : Nat → Nat → Int32 := fun z => if z = 0 then w else if z = 4 then lt else if z = 5 then (fun _ => nI N) else if z = 6 then (fun _ => a) else if z = 7 then (fun _ => s) else if z = 8 then (fun _ => iw) else if z = 9 then (fun _ => ib) else if z = 10 then (fun _ => v) else if z = 11 then (fun _ => c) else t z
theorem rT_R {t : Nat → Nat → Int32} {u : Nat → Nat → Int64} {lt w : Nat → Int32} {N : Nat} {a s iw ib v c : Int32} {M : Nat → xE} (h : oX11 99 (rT t lt N w a s iw ib v c) u M) : oR t u lt N w a s iw ib v c M := ⟨h.1, h.2.1, h.2.2.2.2.1⟩
theorem rT_K {t : Nat → Nat → Int32} {u : Nat → Nat → Int64} {lt w w' : Nat → Int32} {N : Nat} {a s iw ib v c a' s' iw' ib' v' c' : Int32} {M M' : Nat → xE} (h : oX11 99 (rT t lt N w a s iw ib v c) u M) (h' : oR t u lt N w' a' s' iw' ib' v' c' M') (hf : ∀ j, ¬ j = 99 → ¬ j = 100 → M' j = M j) : oX11 99 (rT t lt N w' a' s' iw' ib' v' c') u M' := by
  obtain ⟨h0, h1, h2, h3, h4, h5, h6, h7, h8, h9, h10, h11, h12, h13, h14⟩ := h
  exact ⟨h'.1, h'.2.1, (hf _ (by decide) (by decide)).trans h2, (hf _ (by decide) (by decide)).trans h3, (hf _ (by decide) (by decide)).trans h4, (hf _ (by decide) (by decide)).trans h5, (hf _ (by decide) (by decide)).trans h6, (hf _ (by decide) (by decide)).trans h7, (hf _ (by decide) (by decide)).trans h8, (hf _ (by decide) (by decide)).trans h9, (hf _ (by decide) (by decide)).trans h10, (hf _ (by decide) (by decide)).trans h11, (hf _ (by decide) (by decide)).trans h12, (hf _ (by decide) (by decide)).trans h13, (hf _ (by decide) (by decide)).trans h14⟩
theorem rT_F {t : Nat → Nat → Int32} {u : Nat → Nat → Int64} {lt w w' : Nat → Int32} {N : Nat} {a s iw ib v c : Int32} {M M' : Nat → xE} (h : oX11 99 (rT t lt N w a s iw ib v c) u M) (h' : oX11 99 (fun z => if z = 0 then w' else rT t lt N w a s iw ib v c z) u M') (hf : xfr 99 114 M M') : oR t u lt N w' a s iw ib v c M' ∧ ∀ j, ¬ j = 99 → ¬ j = 100 → M' j = M j := by
  obtain ⟨h0, h1, h2, h3, h4, h5, h6, h7, h8, h9, h10, h11, h12, h13, h14⟩ := h
  obtain ⟨g0, g1, g2, g3, g4, g5, g6, g7, g8, g9, g10, g11, g12, g13, g14⟩ := h'
  refine ⟨⟨g0, g1, g4⟩, fun j a b => ?_⟩
  rcases (show j = 101 ∨ j = 102 ∨ j = 103 ∨ j = 104 ∨ j = 105 ∨ j = 106 ∨ j = 107 ∨ j = 108 ∨ j = 109 ∨ j = 110 ∨ j = 111 ∨ j = 112 ∨ j = 113 ∨ (j < 99 ∨ 114 ≤ j) by omega) with e | e | e | e | e | e | e | e | e | e | e | e | e | e
  · subst e; exact g2.trans h2.symm
  · subst e; exact g3.trans h3.symm
  · subst e; exact g4.trans h4.symm
  · subst e; exact g5.trans h5.symm
  · subst e; exact g6.trans h6.symm
  · subst e; exact g7.trans h7.symm
  · subst e; exact g8.trans h8.symm
  · subst e; exact g9.trans h9.symm
  · subst e; exact g10.trans h10.symm
  · subst e; exact g11.trans h11.symm
  · subst e; exact g12.trans h12.symm
  · subst e; exact g13.trans h13.symm
  · subst e; exact g14.trans h14.symm
  · exact hf j e
set_option maxHeartbeats 4000000 in
set_option maxRecDepth 100000 in
theorem c_m_tc0 {n N : Nat} {M : Nat → xE} {t : Nat → Nat → Int32} {u : Nat → Nat → Int64} {lt w : Nat → Int32} {ib v c : Int32} {q P W G : Nat} (hn : 113 < n) (hN : N ≤ 160) (hq : q ≤ N) (hM : oX11 99 (rT t lt N w (nI (tkE lt N q)) (nI (tsp lt N q)) (kw (tkK lt N q)) ib v c) u M) (hP : P ≤ 5) (hW : W ≤ 6) (hG : G ≤ 5) (hP0 : w 61 = nI P) (hW0 : w 72 = nI W) (hG0 : w 98 = nI G) (hx : wdT lt N q = some 0) : xMet mX11_takesClause [.ref 99, .int 4] n M (fun r M' => mrP t u lt N P W G w c (rdC lt N P W G q) r M' ∧ (∀ j, ¬ j = 99 → ¬ j = 100 → M' j = M j)) := by
  have hR0 := rT_R hM
  obtain ⟨mp0, mp1, mp4⟩ := id hR0
  have hb := tkE_b lt hq
  refine xMet.of _ (by decide) rfl (Nat.le_of_ble_eq_true rfl) ?_
  refine x_iload_n (q := 1) dX11_takesClause_0 rfl rfl ?_
  refine x_tableIn (t := 70) (off := 69) dX11_takesClause_1 (by decide) (by decide) (by decide +kernel) (by decide) ?_
  refine x_aload_n (q := 71) dX11_takesClause_70 rfl rfl ?_
  refine x_bipush (v := 61) (q := 73) dX11_takesClause_71 rfl (by decide) ?_
  refine x_callV (q := 76) (ci := 11) (c_m_begins hn hM (R := 61) (by decide)) eX11_takesClause_58 gX11_takesClause_X11_begins mp0 (by omega) rfl rfl rfl (Nat.le_of_ble_eq_true rfl) ⟨Nat.le_refl _, Nat.le_refl _⟩ dX11_takesClause_73 rfl rfl (fun r73 M73 p73 => ?_)
  obtain ⟨rfl, hV, frV⟩ := p73
  obtain ⟨hR9, fr9⟩ := rT_F hM hV frV
  refine x_iconst (v := 1) (q := 77) dX11_takesClause_76 rfl (by decide) ?_
  refine x_zret dX11_takesClause_77 rfl (by first | rfl | decide) rfl (Nat.le_refl _) ?_
  exact ⟨mr_yes hx (rm_o (by omega)) (mr_at (by omega) hb.2 hR9), fr9⟩

set_option maxHeartbeats 4000000 in
set_option maxRecDepth 100000 in
theorem c_m_tc1 {n N : Nat} {M : Nat → xE} {t : Nat → Nat → Int32} {u : Nat → Nat → Int64} {lt w : Nat → Int32} {ib v c : Int32} {q P W G : Nat} (hn : 113 < n) (hN : N ≤ 160) (hq : q ≤ N) (hM : oX11 99 (rT t lt N w (nI (tkE lt N q)) (nI (tsp lt N q)) (kw (tkK lt N q)) ib v c) u M) (hP : P ≤ 5) (hW : W ≤ 6) (hG : G ≤ 5) (hP0 : w 61 = nI P) (hW0 : w 72 = nI W) (hG0 : w 98 = nI G) (hx : wdT lt N q = some 1) : xMet mX11_takesClause [.ref 99, .int 0] n M (fun r M' => mrP t u lt N P W G w c (rdC lt N P W G q) r M' ∧ (∀ j, ¬ j = 99 → ¬ j = 100 → M' j = M j)) := by
  have hR0 := rT_R hM
  obtain ⟨mp0, mp1, mp4⟩ := id hR0
  have hb := tkE_b lt hq
  refine xMet.of _ (by decide) rfl (Nat.le_of_ble_eq_true rfl) ?_
  refine x_iload_n (q := 1) dX11_takesClause_0 rfl rfl ?_
  refine x_tableIn (t := 64) (off := 63) dX11_takesClause_1 (by decide) (by decide) (by decide +kernel) (by decide) ?_
  refine x_aload_n (q := 65) dX11_takesClause_64 rfl rfl ?_
  refine x_iload_n (q := 66) dX11_takesClause_65 rfl rfl ?_
  refine x_callV (q := 69) (ci := 11) (c_m_tOne hn hN hR0 hP hP0) eX11_takesClause_131 gX11_takesClause_X11_takesOne mp0 (by omega) rfl rfl rfl (Nat.le_of_ble_eq_true rfl) ⟨Nat.le_refl _, Nat.le_refl _⟩ dX11_takesClause_66 rfl rfl (fun r66 M66 p66 => ?_)
  obtain ⟨p66, fr66⟩ := p66; rcases p66 with ⟨d66, rfl, hR66⟩ | ⟨d66, rfl, rfl⟩
  · refine x_zret dX11_takesClause_69 rfl (by first | rfl | decide) rfl (Nat.le_refl _) ?_
    exact ⟨mr_yes hx (by rw [rm_1 (by decide) (by decide)]; exact decide_eq_true d66) (mr_at (by omega) hb.2 hR66), fr66⟩
  · refine x_zret dX11_takesClause_69 rfl (by first | rfl | decide) rfl (Nat.le_refl _) ?_
    exact ⟨mr_no hx (by rw [rm_1 (by decide) (by decide)]; intro h; have := of_decide_eq_true h; omega) hR0, fr66⟩

set_option maxHeartbeats 4000000 in
set_option maxRecDepth 100000 in
theorem c_m_tc2 {n N : Nat} {M : Nat → xE} {t : Nat → Nat → Int32} {u : Nat → Nat → Int64} {lt w : Nat → Int32} {ib v c : Int32} {q P W G : Nat} (hn : 113 < n) (hN : N ≤ 160) (hq : q ≤ N) (hM : oX11 99 (rT t lt N w (nI (tkE lt N q)) (nI (tsp lt N q)) (kw (tkK lt N q)) ib v c) u M) (hP : P ≤ 5) (hW : W ≤ 6) (hG : G ≤ 5) (hP0 : w 61 = nI P) (hW0 : w 72 = nI W) (hG0 : w 98 = nI G) (hx : wdT lt N q = some 2) : xMet mX11_takesClause [.ref 99, .int 1] n M (fun r M' => mrP t u lt N P W G w c (rdC lt N P W G q) r M' ∧ (∀ j, ¬ j = 99 → ¬ j = 100 → M' j = M j)) := by
  have hR0 := rT_R hM
  obtain ⟨mp0, mp1, mp4⟩ := id hR0
  have hb := tkE_b lt hq
  refine xMet.of _ (by decide) rfl (Nat.le_of_ble_eq_true rfl) ?_
  refine x_iload_n (q := 1) dX11_takesClause_0 rfl rfl ?_
  refine x_tableIn (t := 64) (off := 63) dX11_takesClause_1 (by decide) (by decide) (by decide +kernel) (by decide) ?_
  refine x_aload_n (q := 65) dX11_takesClause_64 rfl rfl ?_
  refine x_iload_n (q := 66) dX11_takesClause_65 rfl rfl ?_
  refine x_callV (q := 69) (ci := 11) (c_m_tOne hn hN hR0 hP hP0) eX11_takesClause_131 gX11_takesClause_X11_takesOne mp0 (by omega) rfl rfl rfl (Nat.le_of_ble_eq_true rfl) ⟨Nat.le_refl _, Nat.le_refl _⟩ dX11_takesClause_66 rfl rfl (fun r66 M66 p66 => ?_)
  obtain ⟨p66, fr66⟩ := p66; rcases p66 with ⟨d66, rfl, hR66⟩ | ⟨d66, rfl, rfl⟩
  · refine x_zret dX11_takesClause_69 rfl (by first | rfl | decide) rfl (Nat.le_refl _) ?_
    exact ⟨mr_yes hx (by rw [rm_1 (by decide) (by decide)]; exact decide_eq_true d66) (mr_at (by omega) hb.2 hR66), fr66⟩
  · refine x_zret dX11_takesClause_69 rfl (by first | rfl | decide) rfl (Nat.le_refl _) ?_
    exact ⟨mr_no hx (by rw [rm_1 (by decide) (by decide)]; intro h; have := of_decide_eq_true h; omega) hR0, fr66⟩

set_option maxHeartbeats 4000000 in
set_option maxRecDepth 100000 in
theorem c_m_tc3 {n N : Nat} {M : Nat → xE} {t : Nat → Nat → Int32} {u : Nat → Nat → Int64} {lt w : Nat → Int32} {ib v c : Int32} {q P W G : Nat} (hn : 113 < n) (hN : N ≤ 160) (hq : q ≤ N) (hM : oX11 99 (rT t lt N w (nI (tkE lt N q)) (nI (tsp lt N q)) (kw (tkK lt N q)) ib v c) u M) (hP : P ≤ 5) (hW : W ≤ 6) (hG : G ≤ 5) (hP0 : w 61 = nI P) (hW0 : w 72 = nI W) (hG0 : w 98 = nI G) (hx : wdT lt N q = some 3) : xMet mX11_takesClause [.ref 99, .int 2] n M (fun r M' => mrP t u lt N P W G w c (rdC lt N P W G q) r M' ∧ (∀ j, ¬ j = 99 → ¬ j = 100 → M' j = M j)) := by
  have hR0 := rT_R hM
  obtain ⟨mp0, mp1, mp4⟩ := id hR0
  have hb := tkE_b lt hq
  refine xMet.of _ (by decide) rfl (Nat.le_of_ble_eq_true rfl) ?_
  refine x_iload_n (q := 1) dX11_takesClause_0 rfl rfl ?_
  refine x_tableIn (t := 64) (off := 63) dX11_takesClause_1 (by decide) (by decide) (by decide +kernel) (by decide) ?_
  refine x_aload_n (q := 65) dX11_takesClause_64 rfl rfl ?_
  refine x_iload_n (q := 66) dX11_takesClause_65 rfl rfl ?_
  refine x_callV (q := 69) (ci := 11) (c_m_tOne hn hN hR0 hP hP0) eX11_takesClause_131 gX11_takesClause_X11_takesOne mp0 (by omega) rfl rfl rfl (Nat.le_of_ble_eq_true rfl) ⟨Nat.le_refl _, Nat.le_refl _⟩ dX11_takesClause_66 rfl rfl (fun r66 M66 p66 => ?_)
  obtain ⟨p66, fr66⟩ := p66; rcases p66 with ⟨d66, rfl, hR66⟩ | ⟨d66, rfl, rfl⟩
  · refine x_zret dX11_takesClause_69 rfl (by first | rfl | decide) rfl (Nat.le_refl _) ?_
    exact ⟨mr_yes hx (by rw [rm_1 (by decide) (by decide)]; exact decide_eq_true d66) (mr_at (by omega) hb.2 hR66), fr66⟩
  · refine x_zret dX11_takesClause_69 rfl (by first | rfl | decide) rfl (Nat.le_refl _) ?_
    exact ⟨mr_no hx (by rw [rm_1 (by decide) (by decide)]; intro h; have := of_decide_eq_true h; omega) hR0, fr66⟩

set_option maxHeartbeats 4000000 in
set_option maxRecDepth 100000 in
theorem c_m_tc4 {n N : Nat} {M : Nat → xE} {t : Nat → Nat → Int32} {u : Nat → Nat → Int64} {lt w : Nat → Int32} {ib v c : Int32} {q P W G : Nat} (hn : 113 < n) (hN : N ≤ 160) (hq : q ≤ N) (hM : oX11 99 (rT t lt N w (nI (tkE lt N q)) (nI (tsp lt N q)) (kw (tkK lt N q)) ib v c) u M) (hP : P ≤ 5) (hW : W ≤ 6) (hG : G ≤ 5) (hP0 : w 61 = nI P) (hW0 : w 72 = nI W) (hG0 : w 98 = nI G) (hx : wdT lt N q = some 4) : xMet mX11_takesClause [.ref 99, .int 3] n M (fun r M' => mrP t u lt N P W G w c (rdC lt N P W G q) r M' ∧ (∀ j, ¬ j = 99 → ¬ j = 100 → M' j = M j)) := by
  have hR0 := rT_R hM
  obtain ⟨mp0, mp1, mp4⟩ := id hR0
  have hb := tkE_b lt hq
  refine xMet.of _ (by decide) rfl (Nat.le_of_ble_eq_true rfl) ?_
  refine x_iload_n (q := 1) dX11_takesClause_0 rfl rfl ?_
  refine x_tableIn (t := 64) (off := 63) dX11_takesClause_1 (by decide) (by decide) (by decide +kernel) (by decide) ?_
  refine x_aload_n (q := 65) dX11_takesClause_64 rfl rfl ?_
  refine x_iload_n (q := 66) dX11_takesClause_65 rfl rfl ?_
  refine x_callV (q := 69) (ci := 11) (c_m_tOne hn hN hR0 hP hP0) eX11_takesClause_131 gX11_takesClause_X11_takesOne mp0 (by omega) rfl rfl rfl (Nat.le_of_ble_eq_true rfl) ⟨Nat.le_refl _, Nat.le_refl _⟩ dX11_takesClause_66 rfl rfl (fun r66 M66 p66 => ?_)
  obtain ⟨p66, fr66⟩ := p66; rcases p66 with ⟨d66, rfl, hR66⟩ | ⟨d66, rfl, rfl⟩
  · refine x_zret dX11_takesClause_69 rfl (by first | rfl | decide) rfl (Nat.le_refl _) ?_
    exact ⟨mr_yes hx (by rw [rm_1 (by decide) (by decide)]; exact decide_eq_true d66) (mr_at (by omega) hb.2 hR66), fr66⟩
  · refine x_zret dX11_takesClause_69 rfl (by first | rfl | decide) rfl (Nat.le_refl _) ?_
    exact ⟨mr_no hx (by rw [rm_1 (by decide) (by decide)]; intro h; have := of_decide_eq_true h; omega) hR0, fr66⟩

set_option maxHeartbeats 4000000 in
set_option maxRecDepth 100000 in
theorem c_m_tc5 {n N : Nat} {M : Nat → xE} {t : Nat → Nat → Int32} {u : Nat → Nat → Int64} {lt w : Nat → Int32} {ib v c : Int32} {q P W G : Nat} (hn : 113 < n) (hN : N ≤ 160) (hq : q ≤ N) (hM : oX11 99 (rT t lt N w (nI (tkE lt N q)) (nI (tsp lt N q)) (kw (tkK lt N q)) ib v c) u M) (hP : P ≤ 5) (hW : W ≤ 6) (hG : G ≤ 5) (hP0 : w 61 = nI P) (hW0 : w 72 = nI W) (hG0 : w 98 = nI G) (hx : wdT lt N q = some 5) : xMet mX11_takesClause [.ref 99, .int 5] n M (fun r M' => mrP t u lt N P W G w c (rdC lt N P W G q) r M' ∧ (∀ j, ¬ j = 99 → ¬ j = 100 → M' j = M j)) := by
  have hR0 := rT_R hM
  obtain ⟨mp0, mp1, mp4⟩ := id hR0
  have hb := tkE_b lt hq
  refine xMet.of _ (by decide) rfl (Nat.le_of_ble_eq_true rfl) ?_
  refine x_iload_n (q := 1) dX11_takesClause_0 rfl rfl ?_
  refine x_tableIn (t := 78) (off := 77) dX11_takesClause_1 (by decide) (by decide) (by decide +kernel) (by decide) ?_
  refine x_aload_n (q := 79) dX11_takesClause_78 rfl rfl ?_
  refine x_callV (q := 82) (ci := 11) (c_m_tLikes (P := P) (W := W) (G := G) hn hN hb.2 hR0 hP hP0) eX11_takesClause_135 gX11_takesClause_X11_takesLikes mp0 (by omega) rfl rfl rfl (Nat.le_of_ble_eq_true rfl) ⟨Nat.le_refl _, Nat.le_refl _⟩ dX11_takesClause_79 rfl rfl (fun r79 M79 p79 => ?_)
  obtain ⟨hV, frV⟩ := p79; rcases hres : rdB lt N P 5 (tkE lt N q) with s9 | x9
  · have hV2 := hV
    rw [hres] at hV
    obtain ⟨rfl, -⟩ := hV
    refine x_zret dX11_takesClause_82 rfl (by first | rfl | decide) rfl (Nat.le_refl _) ?_
    exact ⟨mr_yes hx (rm_o (by omega)) hV2, frV⟩
  · have hV2 := hV
    rw [hres] at hV
    obtain ⟨rfl, -⟩ := hV
    refine x_zret dX11_takesClause_82 rfl (by first | rfl | decide) rfl (Nat.le_refl _) ?_
    exact ⟨mr_yes hx (rm_o (by omega)) hV2, frV⟩

set_option maxHeartbeats 4000000 in
set_option maxRecDepth 100000 in
theorem c_m_tc6 {n N : Nat} {M : Nat → xE} {t : Nat → Nat → Int32} {u : Nat → Nat → Int64} {lt w : Nat → Int32} {ib v c : Int32} {q P W G : Nat} (hn : 113 < n) (hN : N ≤ 160) (hq : q ≤ N) (hM : oX11 99 (rT t lt N w (nI (tkE lt N q)) (nI (tsp lt N q)) (kw (tkK lt N q)) ib v c) u M) (hP : P ≤ 5) (hW : W ≤ 6) (hG : G ≤ 5) (hP0 : w 61 = nI P) (hW0 : w 72 = nI W) (hG0 : w 98 = nI G) (hx : wdT lt N q = some 6) (hWl : W < 6) : xMet mX11_takesClause [.ref 99, .int 6] n M (fun r M' => mrP t u lt N P W G w c (rdC lt N P W G q) r M' ∧ (∀ j, ¬ j = 99 → ¬ j = 100 → M' j = M j)) := by
  have hR0 := rT_R hM
  obtain ⟨mp0, mp1, mp4⟩ := id hR0
  have hb := tkE_b lt hq
  refine xMet.of _ (by decide) rfl (Nat.le_of_ble_eq_true rfl) ?_
  refine x_iload_n (q := 1) dX11_takesClause_0 rfl rfl ?_
  refine x_tableIn (t := 83) (off := 82) dX11_takesClause_1 (by decide) (by decide) (by decide +kernel) (by decide) ?_
  refine x_aload_n (q := 84) dX11_takesClause_83 rfl rfl ?_
  refine x_callV (q := 87) (ci := 11) (c_m_tWork (P := P) (W := W) (G := G) hn hN hb.2 hR0 hWl hW0) eX11_takesClause_139 gX11_takesClause_X11_takesWork mp0 (by omega) rfl rfl rfl (Nat.le_of_ble_eq_true rfl) ⟨Nat.le_refl _, Nat.le_refl _⟩ dX11_takesClause_84 rfl rfl (fun r84 M84 p84 => ?_)
  obtain ⟨hV, frV⟩ := p84; rcases hres : rdB lt N P 6 (tkE lt N q) with s9 | x9
  · have hV2 := hV
    rw [hres] at hV
    obtain ⟨rfl, -⟩ := hV
    refine x_zret dX11_takesClause_87 rfl (by first | rfl | decide) rfl (Nat.le_refl _) ?_
    exact ⟨mr_yes hx (by rw [rm_6]; exact decide_eq_true hWl) hV2, frV⟩
  · have hV2 := hV
    rw [hres] at hV
    obtain ⟨rfl, -⟩ := hV
    refine x_zret dX11_takesClause_87 rfl (by first | rfl | decide) rfl (Nat.le_refl _) ?_
    exact ⟨mr_yes hx (by rw [rm_6]; exact decide_eq_true hWl) hV2, frV⟩

set_option maxHeartbeats 4000000 in
set_option maxRecDepth 100000 in
theorem c_m_tc6f {n N : Nat} {M : Nat → xE} {t : Nat → Nat → Int32} {u : Nat → Nat → Int64} {lt w : Nat → Int32} {ib v c : Int32} {q P W G : Nat} (hn : 113 < n) (hN : N ≤ 160) (hq : q ≤ N) (hM : oX11 99 (rT t lt N w (nI (tkE lt N q)) (nI (tsp lt N q)) (kw (tkK lt N q)) ib v c) u M) (hP : P ≤ 5) (hW : W ≤ 6) (hG : G ≤ 5) (hP0 : w 61 = nI P) (hW0 : w 72 = nI W) (hG0 : w 98 = nI G) (hx : wdT lt N q = some 6) (hWl : W = 6) : xMet mX11_takesClause [.ref 99, .int 6] n M (fun r M' => mrP t u lt N P W G w c (rdC lt N P W G q) r M' ∧ (∀ j, ¬ j = 99 → ¬ j = 100 → M' j = M j)) := by
  have hR0 := rT_R hM
  obtain ⟨mp0, mp1, mp4⟩ := id hR0
  have hb := tkE_b lt hq
  refine xMet.of _ (by decide) rfl (Nat.le_of_ble_eq_true rfl) ?_
  refine x_iload_n (q := 1) dX11_takesClause_0 rfl rfl ?_
  refine x_tableIn (t := 83) (off := 82) dX11_takesClause_1 (by decide) (by decide) (by decide +kernel) (by decide) ?_
  refine x_aload_n (q := 84) dX11_takesClause_83 rfl rfl ?_
  refine x_callV (q := 87) (ci := 11) (c_m_tWork6 hn hN hR0 (by rw [hW0, hWl])) eX11_takesClause_139 gX11_takesClause_X11_takesWork mp0 (by omega) rfl rfl rfl (Nat.le_of_ble_eq_true rfl) ⟨Nat.le_refl _, Nat.le_refl _⟩ dX11_takesClause_84 rfl rfl (fun r84 M84 p84 => ?_)
  obtain ⟨rfl, rfl⟩ := p84
  refine x_zret dX11_takesClause_87 rfl (by first | rfl | decide) rfl (Nat.le_refl _) ?_
  exact ⟨mr_no hx (by rw [rm_6]; intro h; have := of_decide_eq_true h; omega) hR0, fun j _ _ => rfl⟩

set_option maxHeartbeats 4000000 in
set_option maxRecDepth 100000 in
theorem c_m_tc7 {n N : Nat} {M : Nat → xE} {t : Nat → Nat → Int32} {u : Nat → Nat → Int64} {lt w : Nat → Int32} {ib v c : Int32} {q P W G : Nat} (hn : 113 < n) (hN : N ≤ 160) (hq : q ≤ N) (hM : oX11 99 (rT t lt N w (nI (tkE lt N q)) (nI (tsp lt N q)) (kw (tkK lt N q)) ib v c) u M) (hP : P ≤ 5) (hW : W ≤ 6) (hG : G ≤ 5) (hP0 : w 61 = nI P) (hW0 : w 72 = nI W) (hG0 : w 98 = nI G) (hx : wdT lt N q = some 7) (hGl : G < 5) : xMet mX11_takesClause [.ref 99, .int 7] n M (fun r M' => mrP t u lt N P W G w c (rdC lt N P W G q) r M' ∧ (∀ j, ¬ j = 99 → ¬ j = 100 → M' j = M j)) := by
  have hR0 := rT_R hM
  obtain ⟨mp0, mp1, mp4⟩ := id hR0
  have hb := tkE_b lt hq
  refine xMet.of _ (by decide) rfl (Nat.le_of_ble_eq_true rfl) ?_
  refine x_iload_n (q := 1) dX11_takesClause_0 rfl rfl ?_
  refine x_tableIn (t := 88) (off := 87) dX11_takesClause_1 (by decide) (by decide) (by decide +kernel) (by decide) ?_
  refine x_aload_n (q := 89) dX11_takesClause_88 rfl rfl ?_
  refine x_iload_n (q := 90) dX11_takesClause_89 rfl rfl ?_
  refine x_bipush (v := 6) (q := 92) dX11_takesClause_90 rfl (by decide) ?_
  refine x_isub (q := 93) dX11_takesClause_92 rfl ?_
  refine x_callV (q := 96) (ci := 11) (c_m_tGrow (P := P) (W := W) (G := G) hn hN hb.2 hR0 hGl hG0) eX11_takesClause_142 gX11_takesClause_X11_takesGood mp0 (by omega) rfl rfl rfl (Nat.le_of_ble_eq_true rfl) ⟨Nat.le_refl _, Nat.le_refl _⟩ dX11_takesClause_93 rfl rfl (fun r93 M93 p93 => ?_)
  obtain ⟨hV, frV⟩ := p93; rcases hres : rdB lt N P 7 (tkE lt N q) with s9 | x9
  · have hV2 := hV
    rw [hres] at hV
    obtain ⟨rfl, -⟩ := hV
    refine x_zret dX11_takesClause_96 rfl (by first | rfl | decide) rfl (Nat.le_refl _) ?_
    exact ⟨mr_yes hx (by rw [rm_7 (by omega)]; exact decide_eq_true hGl) hV2, frV⟩
  · have hV2 := hV
    rw [hres] at hV
    obtain ⟨rfl, -⟩ := hV
    refine x_zret dX11_takesClause_96 rfl (by first | rfl | decide) rfl (Nat.le_refl _) ?_
    exact ⟨mr_yes hx (by rw [rm_7 (by omega)]; exact decide_eq_true hGl) hV2, frV⟩

set_option maxHeartbeats 4000000 in
set_option maxRecDepth 100000 in
theorem c_m_tc7f {n N : Nat} {M : Nat → xE} {t : Nat → Nat → Int32} {u : Nat → Nat → Int64} {lt w : Nat → Int32} {ib v c : Int32} {q P W G : Nat} (hn : 113 < n) (hN : N ≤ 160) (hq : q ≤ N) (hM : oX11 99 (rT t lt N w (nI (tkE lt N q)) (nI (tsp lt N q)) (kw (tkK lt N q)) ib v c) u M) (hP : P ≤ 5) (hW : W ≤ 6) (hG : G ≤ 5) (hP0 : w 61 = nI P) (hW0 : w 72 = nI W) (hG0 : w 98 = nI G) (hx : wdT lt N q = some 7) (hGl : G = 5) : xMet mX11_takesClause [.ref 99, .int 7] n M (fun r M' => mrP t u lt N P W G w c (rdC lt N P W G q) r M' ∧ (∀ j, ¬ j = 99 → ¬ j = 100 → M' j = M j)) := by
  have hR0 := rT_R hM
  obtain ⟨mp0, mp1, mp4⟩ := id hR0
  have hb := tkE_b lt hq
  refine xMet.of _ (by decide) rfl (Nat.le_of_ble_eq_true rfl) ?_
  refine x_iload_n (q := 1) dX11_takesClause_0 rfl rfl ?_
  refine x_tableIn (t := 88) (off := 87) dX11_takesClause_1 (by decide) (by decide) (by decide +kernel) (by decide) ?_
  refine x_aload_n (q := 89) dX11_takesClause_88 rfl rfl ?_
  refine x_iload_n (q := 90) dX11_takesClause_89 rfl rfl ?_
  refine x_bipush (v := 6) (q := 92) dX11_takesClause_90 rfl (by decide) ?_
  refine x_isub (q := 93) dX11_takesClause_92 rfl ?_
  refine x_callV (q := 96) (ci := 11) (c_m_tGood5 hn hN hR0 (by rw [hG0, hGl])) eX11_takesClause_142 gX11_takesClause_X11_takesGood mp0 (by omega) rfl rfl rfl (Nat.le_of_ble_eq_true rfl) ⟨Nat.le_refl _, Nat.le_refl _⟩ dX11_takesClause_93 rfl rfl (fun r93 M93 p93 => ?_)
  obtain ⟨rfl, rfl⟩ := p93
  refine x_zret dX11_takesClause_96 rfl (by first | rfl | decide) rfl (Nat.le_refl _) ?_
  exact ⟨mr_no hx (by rw [rm_7 (by omega)]; intro h; have := of_decide_eq_true h; omega) hR0, fun j _ _ => rfl⟩

set_option maxHeartbeats 4000000 in
set_option maxRecDepth 100000 in
theorem c_m_tc8 {n N : Nat} {M : Nat → xE} {t : Nat → Nat → Int32} {u : Nat → Nat → Int64} {lt w : Nat → Int32} {ib v c : Int32} {q P W G : Nat} (hn : 113 < n) (hN : N ≤ 160) (hq : q ≤ N) (hM : oX11 99 (rT t lt N w (nI (tkE lt N q)) (nI (tsp lt N q)) (kw (tkK lt N q)) ib v c) u M) (hP : P ≤ 5) (hW : W ≤ 6) (hG : G ≤ 5) (hP0 : w 61 = nI P) (hW0 : w 72 = nI W) (hG0 : w 98 = nI G) (hx : wdT lt N q = some 8) (hGl : G < 5) : xMet mX11_takesClause [.ref 99, .int 8] n M (fun r M' => mrP t u lt N P W G w c (rdC lt N P W G q) r M' ∧ (∀ j, ¬ j = 99 → ¬ j = 100 → M' j = M j)) := by
  have hR0 := rT_R hM
  obtain ⟨mp0, mp1, mp4⟩ := id hR0
  have hb := tkE_b lt hq
  refine xMet.of _ (by decide) rfl (Nat.le_of_ble_eq_true rfl) ?_
  refine x_iload_n (q := 1) dX11_takesClause_0 rfl rfl ?_
  refine x_tableIn (t := 88) (off := 87) dX11_takesClause_1 (by decide) (by decide) (by decide +kernel) (by decide) ?_
  refine x_aload_n (q := 89) dX11_takesClause_88 rfl rfl ?_
  refine x_iload_n (q := 90) dX11_takesClause_89 rfl rfl ?_
  refine x_bipush (v := 6) (q := 92) dX11_takesClause_90 rfl (by decide) ?_
  refine x_isub (q := 93) dX11_takesClause_92 rfl ?_
  refine x_callV (q := 96) (ci := 11) (c_m_tWither (P := P) (W := W) (G := G) hn hN hb.2 hR0 hGl hG0) eX11_takesClause_142 gX11_takesClause_X11_takesGood mp0 (by omega) rfl rfl rfl (Nat.le_of_ble_eq_true rfl) ⟨Nat.le_refl _, Nat.le_refl _⟩ dX11_takesClause_93 rfl rfl (fun r93 M93 p93 => ?_)
  obtain ⟨hV, frV⟩ := p93; rcases hres : rdB lt N P 8 (tkE lt N q) with s9 | x9
  · have hV2 := hV
    rw [hres] at hV
    obtain ⟨rfl, -⟩ := hV
    refine x_zret dX11_takesClause_96 rfl (by first | rfl | decide) rfl (Nat.le_refl _) ?_
    exact ⟨mr_yes hx (by rw [rm_7 (by omega)]; exact decide_eq_true hGl) hV2, frV⟩
  · have hV2 := hV
    rw [hres] at hV
    obtain ⟨rfl, -⟩ := hV
    refine x_zret dX11_takesClause_96 rfl (by first | rfl | decide) rfl (Nat.le_refl _) ?_
    exact ⟨mr_yes hx (by rw [rm_7 (by omega)]; exact decide_eq_true hGl) hV2, frV⟩

set_option maxHeartbeats 4000000 in
set_option maxRecDepth 100000 in
theorem c_m_tc8f {n N : Nat} {M : Nat → xE} {t : Nat → Nat → Int32} {u : Nat → Nat → Int64} {lt w : Nat → Int32} {ib v c : Int32} {q P W G : Nat} (hn : 113 < n) (hN : N ≤ 160) (hq : q ≤ N) (hM : oX11 99 (rT t lt N w (nI (tkE lt N q)) (nI (tsp lt N q)) (kw (tkK lt N q)) ib v c) u M) (hP : P ≤ 5) (hW : W ≤ 6) (hG : G ≤ 5) (hP0 : w 61 = nI P) (hW0 : w 72 = nI W) (hG0 : w 98 = nI G) (hx : wdT lt N q = some 8) (hGl : G = 5) : xMet mX11_takesClause [.ref 99, .int 8] n M (fun r M' => mrP t u lt N P W G w c (rdC lt N P W G q) r M' ∧ (∀ j, ¬ j = 99 → ¬ j = 100 → M' j = M j)) := by
  have hR0 := rT_R hM
  obtain ⟨mp0, mp1, mp4⟩ := id hR0
  have hb := tkE_b lt hq
  refine xMet.of _ (by decide) rfl (Nat.le_of_ble_eq_true rfl) ?_
  refine x_iload_n (q := 1) dX11_takesClause_0 rfl rfl ?_
  refine x_tableIn (t := 88) (off := 87) dX11_takesClause_1 (by decide) (by decide) (by decide +kernel) (by decide) ?_
  refine x_aload_n (q := 89) dX11_takesClause_88 rfl rfl ?_
  refine x_iload_n (q := 90) dX11_takesClause_89 rfl rfl ?_
  refine x_bipush (v := 6) (q := 92) dX11_takesClause_90 rfl (by decide) ?_
  refine x_isub (q := 93) dX11_takesClause_92 rfl ?_
  refine x_callV (q := 96) (ci := 11) (c_m_tGood5 hn hN hR0 (by rw [hG0, hGl])) eX11_takesClause_142 gX11_takesClause_X11_takesGood mp0 (by omega) rfl rfl rfl (Nat.le_of_ble_eq_true rfl) ⟨Nat.le_refl _, Nat.le_refl _⟩ dX11_takesClause_93 rfl rfl (fun r93 M93 p93 => ?_)
  obtain ⟨rfl, rfl⟩ := p93
  refine x_zret dX11_takesClause_96 rfl (by first | rfl | decide) rfl (Nat.le_refl _) ?_
  exact ⟨mr_no hx (by rw [rm_7 (by omega)]; intro h; have := of_decide_eq_true h; omega) hR0, fun j _ _ => rfl⟩

set_option maxHeartbeats 4000000 in
set_option maxRecDepth 100000 in
theorem c_m_tc9 {n N : Nat} {M : Nat → xE} {t : Nat → Nat → Int32} {u : Nat → Nat → Int64} {lt w : Nat → Int32} {ib v c : Int32} {q P W G : Nat} (hn : 113 < n) (hN : N ≤ 160) (hq : q ≤ N) (hM : oX11 99 (rT t lt N w (nI (tkE lt N q)) (nI (tsp lt N q)) (kw (tkK lt N q)) ib v c) u M) (hP : P ≤ 5) (hW : W ≤ 6) (hG : G ≤ 5) (hP0 : w 61 = nI P) (hW0 : w 72 = nI W) (hG0 : w 98 = nI G) (hx : wdT lt N q = some 9) : xMet mX11_takesClause [.ref 99, .int 9] n M (fun r M' => mrP t u lt N P W G w c (rdC lt N P W G q) r M' ∧ (∀ j, ¬ j = 99 → ¬ j = 100 → M' j = M j)) := by
  have hR0 := rT_R hM
  obtain ⟨mp0, mp1, mp4⟩ := id hR0
  have hb := tkE_b lt hq
  refine xMet.of _ (by decide) rfl (Nat.le_of_ble_eq_true rfl) ?_
  refine x_iload_n (q := 1) dX11_takesClause_0 rfl rfl ?_
  refine x_tableIn (t := 97) (off := 96) dX11_takesClause_1 (by decide) (by decide) (by decide +kernel) (by decide) ?_
  refine x_aload_n (q := 98) dX11_takesClause_97 rfl rfl ?_
  refine x_callV (q := 101) (ci := 11) (c_m_tLen (P := P) (W := W) (G := G) hn hN hb.2 hR0) eX11_takesClause_145 gX11_takesClause_X11_takesLength mp0 (by omega) rfl rfl rfl (Nat.le_of_ble_eq_true rfl) ⟨Nat.le_refl _, Nat.le_refl _⟩ dX11_takesClause_98 rfl rfl (fun r98 M98 p98 => ?_)
  obtain ⟨hV, frV⟩ := p98; rcases hres : rdB lt N P 9 (tkE lt N q) with s9 | x9
  · have hV2 := hV
    rw [hres] at hV
    obtain ⟨rfl, -⟩ := hV
    refine x_zret dX11_takesClause_101 rfl (by first | rfl | decide) rfl (Nat.le_refl _) ?_
    exact ⟨mr_yes hx (rm_o (by omega)) hV2, frV⟩
  · have hV2 := hV
    rw [hres] at hV
    obtain ⟨rfl, -⟩ := hV
    refine x_zret dX11_takesClause_101 rfl (by first | rfl | decide) rfl (Nat.le_refl _) ?_
    exact ⟨mr_yes hx (rm_o (by omega)) hV2, frV⟩

set_option maxHeartbeats 4000000 in
set_option maxRecDepth 100000 in
theorem c_m_tc10 {n N : Nat} {M : Nat → xE} {t : Nat → Nat → Int32} {u : Nat → Nat → Int64} {lt w : Nat → Int32} {ib v c : Int32} {q P W G : Nat} (hn : 113 < n) (hN : N ≤ 160) (hq : q ≤ N) (hM : oX11 99 (rT t lt N w (nI (tkE lt N q)) (nI (tsp lt N q)) (kw (tkK lt N q)) ib v c) u M) (hP : P ≤ 5) (hW : W ≤ 6) (hG : G ≤ 5) (hP0 : w 61 = nI P) (hW0 : w 72 = nI W) (hG0 : w 98 = nI G) (hx : wdT lt N q = some 10) : xMet mX11_takesClause [.ref 99, .int 10] n M (fun r M' => mrP t u lt N P W G w c (rdC lt N P W G q) r M' ∧ (∀ j, ¬ j = 99 → ¬ j = 100 → M' j = M j)) := by
  have hR0 := rT_R hM
  obtain ⟨mp0, mp1, mp4⟩ := id hR0
  have hb := tkE_b lt hq
  refine xMet.of _ (by decide) rfl (Nat.le_of_ble_eq_true rfl) ?_
  refine x_iload_n (q := 1) dX11_takesClause_0 rfl rfl ?_
  refine x_tableIn (t := 102) (off := 101) dX11_takesClause_1 (by decide) (by decide) (by decide +kernel) (by decide) ?_
  refine x_aload_n (q := 103) dX11_takesClause_102 rfl rfl ?_
  refine x_callV (q := 106) (ci := 11) (c_m_tWorld (P := P) (W := W) (G := G) hn hN hb.2 hR0) eX11_takesClause_148 gX11_takesClause_X11_takesWorld mp0 (by omega) rfl rfl rfl (Nat.le_of_ble_eq_true rfl) ⟨Nat.le_refl _, Nat.le_refl _⟩ dX11_takesClause_103 rfl rfl (fun r103 M103 p103 => ?_)
  obtain ⟨hV, frV⟩ := p103; rcases hres : rdB lt N P 10 (tkE lt N q) with s9 | x9
  · have hV2 := hV
    rw [hres] at hV
    obtain ⟨rfl, -⟩ := hV
    refine x_zret dX11_takesClause_106 rfl (by first | rfl | decide) rfl (Nat.le_refl _) ?_
    exact ⟨mr_yes hx (rm_o (by omega)) hV2, frV⟩
  · have hV2 := hV
    rw [hres] at hV
    obtain ⟨rfl, -⟩ := hV
    refine x_zret dX11_takesClause_106 rfl (by first | rfl | decide) rfl (Nat.le_refl _) ?_
    exact ⟨mr_yes hx (rm_o (by omega)) hV2, frV⟩

set_option maxHeartbeats 4000000 in
set_option maxRecDepth 100000 in
theorem c_m_tc11 {n N : Nat} {M : Nat → xE} {t : Nat → Nat → Int32} {u : Nat → Nat → Int64} {lt w : Nat → Int32} {ib v c : Int32} {q P W G : Nat} (hn : 113 < n) (hN : N ≤ 160) (hq : q ≤ N) (hM : oX11 99 (rT t lt N w (nI (tkE lt N q)) (nI (tsp lt N q)) (kw (tkK lt N q)) ib v c) u M) (hP : P ≤ 5) (hW : W ≤ 6) (hG : G ≤ 5) (hP0 : w 61 = nI P) (hW0 : w 72 = nI W) (hG0 : w 98 = nI G) (hx : wdT lt N q = some 11) : xMet mX11_takesClause [.ref 99, .int 11] n M (fun r M' => mrP t u lt N P W G w c (rdC lt N P W G q) r M' ∧ (∀ j, ¬ j = 99 → ¬ j = 100 → M' j = M j)) := by
  have hR0 := rT_R hM
  obtain ⟨mp0, mp1, mp4⟩ := id hR0
  have hb := tkE_b lt hq
  refine xMet.of _ (by decide) rfl (Nat.le_of_ble_eq_true rfl) ?_
  refine x_iload_n (q := 1) dX11_takesClause_0 rfl rfl ?_
  refine x_tableIn (t := 107) (off := 106) dX11_takesClause_1 (by decide) (by decide) (by decide +kernel) (by decide) ?_
  refine x_aload_n (q := 108) dX11_takesClause_107 rfl rfl ?_
  refine x_bipush (v := 61) (q := 110) dX11_takesClause_108 rfl (by decide) ?_
  refine x_callV (q := 113) (ci := 11) (c_m_stills hn hM (R := 61) (by decide)) eX11_takesClause_71 gX11_takesClause_X11_stills mp0 (by omega) rfl rfl rfl (Nat.le_of_ble_eq_true rfl) ⟨Nat.le_refl _, Nat.le_refl _⟩ dX11_takesClause_110 rfl rfl (fun r110 M110 p110 => ?_)
  obtain ⟨rfl, hV, frV⟩ := p110
  obtain ⟨hR9, fr9⟩ := rT_F hM hV frV
  refine x_iconst (v := 1) (q := 114) dX11_takesClause_113 rfl (by decide) ?_
  refine x_zret dX11_takesClause_114 rfl (by first | rfl | decide) rfl (Nat.le_refl _) ?_
  exact ⟨mr_yes hx (rm_o (by omega)) (mr_at (by omega) hb.2 hR9), fr9⟩

set_option maxHeartbeats 4000000 in
set_option maxRecDepth 100000 in
theorem c_m_tcN {n N : Nat} {M : Nat → xE} {t : Nat → Nat → Int32} {u : Nat → Nat → Int64} {lt w : Nat → Int32} {ib v c : Int32} {q P W G : Nat} (hn : 113 < n) (hN : N ≤ 160) (hq : q ≤ N) (hM : oX11 99 (rT t lt N w (nI (tkE lt N q)) (nI (tsp lt N q)) (kw (tkK lt N q)) ib v c) u M) (hP : P ≤ 5) (hW : W ≤ 6) (hG : G ≤ 5) (hP0 : w 61 = nI P) (hW0 : w 72 = nI W) (hG0 : w 98 = nI G) (hx : wdT lt N q = none) : xMet mX11_takesClause [.ref 99, .int (-1)] n M (fun r M' => mrP t u lt N P W G w c (rdC lt N P W G q) r M' ∧ (∀ j, ¬ j = 99 → ¬ j = 100 → M' j = M j)) := by
  have hR0 := rT_R hM
  obtain ⟨mp0, mp1, mp4⟩ := id hR0
  have hb := tkE_b lt hq
  refine xMet.of _ (by decide) rfl (Nat.le_of_ble_eq_true rfl) ?_
  refine x_iload_n (q := 1) dX11_takesClause_0 rfl rfl ?_
  refine x_tableOut (t := 115) dX11_takesClause_1 (by decide) (by decide) ?_
  refine x_iconst (v := 0) (q := 116) dX11_takesClause_115 rfl (by decide) ?_
  refine x_zret dX11_takesClause_116 rfl (by first | rfl | decide) rfl (Nat.le_refl _) ?_
  exact ⟨mr_none hx hR0, fun j _ _ => rfl⟩

theorem c_m_tc {n N : Nat} {M : Nat → xE} {t : Nat → Nat → Int32} {u : Nat → Nat → Int64} {lt w : Nat → Int32} {ib v c : Int32} {q P W G : Nat} (hn : 113 < n) (hN : N ≤ 160) (hq : q ≤ N) (hM : oX11 99 (rT t lt N w (nI (tkE lt N q)) (nI (tsp lt N q)) (kw (tkK lt N q)) ib v c) u M) (hP : P ≤ 5) (hW : W ≤ 6) (hG : G ≤ 5) (hP0 : w 61 = nI P) (hW0 : w 72 = nI W) (hG0 : w 98 = nI G) : xMet mX11_takesClause [.ref 99, .int (mwO (wdT lt N q))] n M (fun r M' => mrP t u lt N P W G w c (rdC lt N P W G q) r M' ∧ (∀ j, ¬ j = 99 → ¬ j = 100 → M' j = M j)) := by
  cases hx : wdT lt N q with
  | none => exact c_m_tcN hn hN hq hM hP hW hG hP0 hW0 hG0 hx
  | some x =>
    have hl := wdT_lt hx
    rcases (show x = 0 ∨ x = 1 ∨ x = 2 ∨ x = 3 ∨ x = 4 ∨ x = 5 ∨ x = 6 ∨ x = 7 ∨ x = 8 ∨ x = 9 ∨ x = 10 ∨ x = 11 by omega) with e | e | e | e | e | e | e | e | e | e | e | e <;> subst e
    · exact c_m_tc0 hn hN hq hM hP hW hG hP0 hW0 hG0 hx
    · exact c_m_tc1 hn hN hq hM hP hW hG hP0 hW0 hG0 hx
    · exact c_m_tc2 hn hN hq hM hP hW hG hP0 hW0 hG0 hx
    · exact c_m_tc3 hn hN hq hM hP hW hG hP0 hW0 hG0 hx
    · exact c_m_tc4 hn hN hq hM hP hW hG hP0 hW0 hG0 hx
    · exact c_m_tc5 hn hN hq hM hP hW hG hP0 hW0 hG0 hx
    · rcases Nat.lt_or_ge W 6 with h | h
      · exact c_m_tc6 hn hN hq hM hP hW hG hP0 hW0 hG0 hx h
      · exact c_m_tc6f hn hN hq hM hP hW hG hP0 hW0 hG0 hx (by omega)
    · rcases Nat.lt_or_ge G 5 with h | h
      · exact c_m_tc7 hn hN hq hM hP hW hG hP0 hW0 hG0 hx h
      · exact c_m_tc7f hn hN hq hM hP hW hG hP0 hW0 hG0 hx (by omega)
    · rcases Nat.lt_or_ge G 5 with h | h
      · exact c_m_tc8 hn hN hq hM hP hW hG hP0 hW0 hG0 hx h
      · exact c_m_tc8f hn hN hq hM hP hW hG hP0 hW0 hG0 hx (by omega)
    · exact c_m_tc9 hn hN hq hM hP hW hG hP0 hW0 hG0 hx
    · exact c_m_tc10 hn hN hq hM hP hW hG hP0 hW0 hG0 hx
    · exact c_m_tc11 hn hN hq hM hP hW hG hP0 hW0 hG0 hx
