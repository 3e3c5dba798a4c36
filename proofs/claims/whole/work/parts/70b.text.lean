theorem num_out {lt : Nat → Int32} {N q lo H : Nat} {c : Int32} (hc : c = nI H - 1) (hH : H ≤ 200) (hlo : lo ≤ 100) : (nvO lt N q < nI lo ∨ c < nvO lt N q) ↔ num lt N q lo H = none := by
  unfold nvO num
  by_cases h : tkK lt N q = 1 ∧ tkE lt N q - tsp lt N q ≤ 2
  · have hv := nvT_lt lt h.1 h.2
    have hc2 : c.toInt = (H : Int) - 1 := by rw [hc]; exact pk_sub_toInt (a := H) (b := 1) (by omega) (by decide)
    rw [if_pos h, fa_lt, fa_lt, nI_toInt (by omega), nI_toInt (by omega), hc2]
    by_cases h2 : lo ≤ nvT lt N q ∧ nvT lt N q < H
    · rw [if_pos ⟨h.1, h.2, h2⟩]
      exact ⟨fun q => by omega, fun q => by cases q⟩
    · rw [if_neg (fun q => h2 q.2.2)]
      exact ⟨fun _ => rfl, fun _ => by omega⟩
  · rw [if_neg h, if_neg (fun q => h ⟨q.1, q.2.1⟩)]
    exact ⟨fun _ => rfl, fun _ => Or.inl (by rw [fa_lt, nI_toInt (by omega)]; show (-1 : Int) < _; omega)⟩
theorem num_some {lt : Nat → Int32} {N q lo H v : Nat} (h : num lt N q lo H = some v) : v = nvT lt N q ∧ tkK lt N q = 1 ∧ lo ≤ v ∧ v < H ∧ v < 100 ∧ nvO lt N q = nI v := by
  unfold num at h
  split at h
  · rename_i h1
    cases h
    exact ⟨rfl, h1.1, h1.2.2.1, h1.2.2.2, nvT_lt lt h1.1 h1.2.1, by unfold nvO; rw [if_pos ⟨h1.1, h1.2.1⟩]⟩
  · cases h
set_option maxHeartbeats 4000000 in
set_option maxRecDepth 100000 in
theorem c_take {n N : Nat} {M : Nat → xE} {lt : Nat → Int32} {cl : Int32} {q : Nat} (hn : 24 < n) (hN : N ≤ 160) (hq : q ≤ N) (hX : oTx lt N cl q (-1) M) {lo : Nat} (hlo : lo ≤ 100) {H : Nat} {c : Int32} (hc : c = nI H - 1) (hH : H ≤ 200) : xMet mX7_takeNumber [.ref 12, .int (nI lo), .int c] n M (fun r M' => ((∃ v, num lt N q lo H = some v ∧ some (.int (nI v)) = r ∧ oTx lt N cl (tkE lt N q) (-1) M') ∨ (num lt N q lo H = none ∧ some (.int (-1)) = r ∧ oTx lt N cl q (nI (tsp lt N q)) M')) ∧ xfr 12 14 M M') := by
  have hX0 := hX
  obtain ⟨xp0, xp1⟩ := hX
  have hb := tkE_b lt hq
  have hb0 := tsp_b lt hq
  have hiX7 : ∀ w ∈ wsX70, w ∈ wsX7_takeNumber := by decide +kernel
  refine xMet.of _ (by decide) rfl (Nat.le_of_ble_eq_true rfl) ?_
  refine x_aload_n (q := 1) dX7_takeNumber_0 rfl rfl ?_
  refine x_getf (C := RX7) (T := TX7) (N := 8) (k := 7) (q := 4) xp0 (by omega) rfl hiX7 (by decide) (by decide +kernel) rfl dX7_takeNumber_1 rfl ?_
  refine x_iconst (v := -1) (q := 5) dX7_takeNumber_4 rfl (by decide) ?_
  refine x_icmp_eq (t := 10) (q := 8) dX7_takeNumber_5 (by decide) rfl (fun c5 => ?_) (fun c5 => absurd rfl c5)
  refine x_aload_n (q := 11) dX7_takeNumber_10 rfl rfl ?_
  refine x_callV (q := 14) (ci := 7) (c_number hn hN hq hX0) eX7_takeNumber_160 gX7_takeNumber_X7_numberOfToken xp0 (by omega) rfl rfl rfl (Nat.le_of_ble_eq_true rfl) ⟨Nat.le_refl _, Nat.le_refl _⟩ dX7_takeNumber_11 rfl rfl (fun r11 M11 p11 => ?_)
  obtain ⟨rfl, rfl⟩ := p11
  refine x_istore_n (L' := fun x3_14 => [(3, .int x3_14), (0, .ref 12), (1, .int (nI lo)), (2, .int c)]) (q := 15) dX7_takeNumber_14 rfl (by decide) (fun _ => rfl) (fun x3_14 ex3_14 => ?_)
  refine x_iload_n (q := 16) dX7_takeNumber_15 rfl rfl ?_
  refine x_iload_n (q := 17) dX7_takeNumber_16 rfl rfl ?_
  refine x_iload_n (q := 18) dX7_takeNumber_17 rfl rfl ?_
  refine x_callSN (q := 21) c_isOutside eX7_takeNumber_163 gX7_takeNumber_X10_isOutside_n163 (by decide) (by decide +kernel) (by decide +kernel) rfl (Nat.le_of_ble_eq_true rfl) ⟨Nat.le_refl _, Nat.le_refl _⟩ dX7_takeNumber_18 rfl rfl (fun r18 M18 p18 => ?_)
  obtain ⟨rfl, p18⟩ := p18
  rcases p18 with ⟨b18, rfl⟩ | ⟨b18, rfl⟩
  · rw [ex3_14] at b18
    refine x_if_eq (t := 34) (q := 24) dX7_takeNumber_21 (by decide) rfl (fun c21 => absurd c21 (by decide)) (fun c21 => ?_)
    refine x_aload_n (q := 25) dX7_takeNumber_24 rfl rfl ?_
    refine x_aload_n (q := 26) dX7_takeNumber_25 rfl rfl ?_
    refine x_getf (C := RX7) (T := TX7) (N := 8) (k := 5) (q := 29) xp0 (by omega) rfl hiX7 (by decide) (by decide +kernel) rfl dX7_takeNumber_26 rfl ?_
    refine x_put (C := RX7) (T := TX7) (N := 8) (k := 7) (q := 32) (ty := .int) tyX7_ok nmX7 xp0 (by omega) rfl hiX7 (by decide) (by decide +kernel) rfl (by decide +kernel) (fun _ => rfl) (fun _ => rfl) (Nat.le_of_ble_eq_true rfl) dX7_takeNumber_29 rfl (fun M29 w29 o29 => ?_)
    refine x_iconst (v := -1) (q := 33) dX7_takeNumber_32 rfl (by decide) ?_
    refine x_iret dX7_takeNumber_33 rfl rfl (Nat.le_refl _) ?_
    have hv1_1_13 := ((o29 (13) (by omega)).trans xp1)
    exact ⟨Or.inr ⟨(num_out hc hH hlo).mp b18, rfl, w29, hv1_1_13⟩, (fun j hj => ((o29 j (by omega)).trans rfl))⟩
  · rw [ex3_14] at b18
    obtain ⟨v, hv⟩ : ∃ v, num lt N q lo H = some v := by
      cases e9 : num lt N q lo H with
      | none => exact absurd ((num_out hc hH hlo).mpr e9) b18
      | some v => exact ⟨v, rfl⟩
    have hs := num_some hv
    obtain rfl : x3_14 = nI v := ex3_14.trans hs.2.2.2.2.2
    refine x_if_eq (t := 34) (q := 24) dX7_takeNumber_21 (by decide) rfl (fun c21 => ?_) (fun c21 => absurd c21 (by decide))
    refine x_aload_n (q := 35) dX7_takeNumber_34 rfl rfl ?_
    refine x_aload_n (q := 36) dX7_takeNumber_35 rfl rfl ?_
    refine x_getf (C := RX7) (T := TX7) (N := 8) (k := 6) (q := 39) xp0 (by omega) rfl hiX7 (by decide) (by decide +kernel) rfl dX7_takeNumber_36 rfl ?_
    refine x_callV (q := 42) (ci := 7) (c_rt hn hN hX0 (p := tkE lt N q) (by omega)) eX7_takeNumber_36 gX7_takeNumber_X7_readToken xp0 (by omega) rfl rfl rfl (Nat.le_of_ble_eq_true rfl) ⟨Nat.le_refl _, Nat.le_refl _⟩ dX7_takeNumber_39 rfl rfl (fun r39 M39 p39 => ?_)
    obtain ⟨rfl, hT39, fr39⟩ := p39
    refine x_iload_n (q := 43) dX7_takeNumber_42 rfl rfl ?_
    refine x_iret dX7_takeNumber_43 rfl rfl (Nat.le_refl _) ?_
    exact ⟨Or.inl ⟨v, hv, rfl, hT39⟩, fr39⟩

set_option maxHeartbeats 4000000 in
set_option maxRecDepth 100000 in
theorem c_take_f {n N : Nat} {M : Nat → xE} {lt : Nat → Int32} {cl f : Int32} {q : Nat} (hn : 24 < n) (hN : N ≤ 160) (hq : q ≤ N) (hX : oTx lt N cl q f M) (hf : ¬ f = -1) {a c : Int32} : xMet mX7_takeNumber [.ref 12, .int a, .int c] n M (fun r M' => M = M' ∧ some (.int (-1)) = r) := by
  have hX0 := hX
  obtain ⟨xp0, xp1⟩ := hX
  have hb := tkE_b lt hq
  have hb0 := tsp_b lt hq
  have hiX7 : ∀ w ∈ wsX70, w ∈ wsX7_takeNumber := by decide +kernel
  refine xMet.of _ (by decide) rfl (Nat.le_of_ble_eq_true rfl) ?_
  refine x_aload_n (q := 1) dX7_takeNumber_0 rfl rfl ?_
  refine x_getf (C := RX7) (T := TX7) (N := 8) (k := 7) (q := 4) xp0 (by omega) rfl hiX7 (by decide) (by decide +kernel) rfl dX7_takeNumber_1 rfl ?_
  refine x_iconst (v := -1) (q := 5) dX7_takeNumber_4 rfl (by decide) ?_
  refine x_icmp_eq (t := 10) (q := 8) dX7_takeNumber_5 (by decide) rfl (fun c5 => absurd c5 hf) (fun c5 => ?_)
  refine x_iconst (v := -1) (q := 9) dX7_takeNumber_8 rfl (by decide) ?_
  refine x_iret dX7_takeNumber_9 rfl rfl (Nat.le_refl _) ?_
  exact ⟨rfl, rfl⟩

set_option maxHeartbeats 4000000 in
set_option maxRecDepth 100000 in
theorem c_unlike {n N : Nat} {M : Nat → xE} {lt : Nat → Int32} {cl : Int32} {q : Nat} (hn : 24 < n) (hN : N ≤ 160) (hq : q ≤ N) (hX : oTx lt N cl q (-1) M) {u : Int32} {H : Nat} {c : Int32} (hc : c = nI H - 1) (hH : H ≤ 200) : xMet mX7_takeNumberUnlike [.ref 12, .int u, .int c] n M (fun r M' => ((∃ v, num lt N q 0 H = some v ∧ some (.int (nI v)) = r ∧ ((¬ nI v = u ∧ oTx lt N cl (tkE lt N q) (-1) M') ∨ (nI v = u ∧ oTx lt N cl (tkE lt N q) (nI (tsp lt N q)) M'))) ∨ (num lt N q 0 H = none ∧ some (.int (-1)) = r ∧ oTx lt N cl q (nI (tsp lt N q)) M')) ∧ xfr 12 14 M M') := by
  have hX0 := hX
  obtain ⟨xp0, xp1⟩ := hX
  have hb := tkE_b lt hq
  have hb0 := tsp_b lt hq
  have hiX7 : ∀ w ∈ wsX70, w ∈ wsX7_takeNumberUnlike := by decide +kernel
  refine xMet.of _ (by decide) rfl (Nat.le_of_ble_eq_true rfl) ?_
  refine x_aload_n (q := 1) dX7_takeNumberUnlike_0 rfl rfl ?_
  refine x_getf (C := RX7) (T := TX7) (N := 8) (k := 5) (q := 4) xp0 (by omega) rfl hiX7 (by decide) (by decide +kernel) rfl dX7_takeNumberUnlike_1 rfl ?_
  refine x_istore_n (L' := fun x3_4 => [(3, .int x3_4), (0, .ref 12), (1, .int u), (2, .int c)]) (q := 5) dX7_takeNumberUnlike_4 rfl (by decide) (fun _ => rfl) (fun x3_4 ex3_4 => ?_)
  refine x_aload_n (q := 6) dX7_takeNumberUnlike_5 rfl rfl ?_
  refine x_iconst (v := 0) (q := 7) dX7_takeNumberUnlike_6 rfl (by decide) ?_
  refine x_iload_n (q := 8) dX7_takeNumberUnlike_7 rfl rfl ?_
  refine x_callV (q := 11) (ci := 7) (c_take hn hN hq hX0 (lo := 0) (by decide) hc hH) eX7_takeNumberUnlike_137 gX7_takeNumberUnlike_X7_takeNumber xp0 (by omega) rfl rfl rfl (Nat.le_of_ble_eq_true rfl) ⟨Nat.le_refl _, Nat.le_refl _⟩ dX7_takeNumberUnlike_8 rfl rfl (fun r8 M8 p8 => ?_)
  obtain ⟨p8, fr8⟩ := p8; rcases p8 with ⟨v, hv, rfl, z0, z1⟩ | ⟨hv, rfl, z0, z1⟩
  · refine x_istore (L' := fun x4_11 => [(4, .int x4_11), (3, .int x3_4), (0, .ref 12), (1, .int u), (2, .int c)]) (q := 13) dX7_takeNumberUnlike_11 rfl (by decide) (fun _ => rfl) (fun x4_11 ex4_11 => ?_)
    refine x_aload_n (q := 14) dX7_takeNumberUnlike_13 rfl rfl ?_
    refine x_getf (C := RX7) (T := TX7) (N := 8) (k := 7) (q := 17) z0 (by omega) rfl hiX7 (by decide) (by decide +kernel) rfl dX7_takeNumberUnlike_14 rfl ?_
    refine x_iconst (v := -1) (q := 18) dX7_takeNumberUnlike_17 rfl (by decide) ?_
    refine x_icmp_ne (t := 32) (q := 21) dX7_takeNumberUnlike_18 (by decide) rfl (fun c18 => absurd rfl c18) (fun c18 => ?_)
    refine x_iload (q := 23) dX7_takeNumberUnlike_21 rfl rfl ?_
    refine x_iload_n (q := 24) dX7_takeNumberUnlike_23 rfl rfl ?_
    refine x_icmp_ne (t := 32) (q := 27) dX7_takeNumberUnlike_24 (by decide) rfl (fun c24 => ?_) (fun c24 => ?_)
    · refine x_iload (q := 34) dX7_takeNumberUnlike_32 rfl rfl ?_
      refine x_iret dX7_takeNumberUnlike_34 rfl rfl (Nat.le_refl _) ?_
      exact ⟨Or.inl ⟨v, hv, by rw [ex4_11], Or.inl ⟨by rw [← ex4_11]; exact c24, z0, z1⟩⟩, fr8⟩
    · refine x_aload_n (q := 28) dX7_takeNumberUnlike_27 rfl rfl ?_
      refine x_iload_n (q := 29) dX7_takeNumberUnlike_28 rfl rfl ?_
      refine x_put (C := RX7) (T := TX7) (N := 8) (k := 7) (q := 32) (ty := .int) tyX7_ok nmX7 z0 (by omega) rfl hiX7 (by decide) (by decide +kernel) rfl (by decide +kernel) (fun _ => rfl) (fun _ => rfl) (Nat.le_of_ble_eq_true rfl) dX7_takeNumberUnlike_29 rfl (fun M29 w29 o29 => ?_)
      refine x_iload (q := 34) dX7_takeNumberUnlike_32 rfl rfl ?_
      refine x_iret dX7_takeNumberUnlike_34 rfl rfl (Nat.le_refl _) ?_
      have hv2_1_13 := ((o29 (13) (by omega)).trans z1)
      exact ⟨Or.inl ⟨v, hv, by rw [ex4_11], Or.inr ⟨by rw [← ex4_11]; exact c24, by rw [← ex3_4]; exact w29, hv2_1_13⟩⟩, fun j hj => ((o29 j (by omega)).trans (fr8 j hj))⟩
  · refine x_istore (L' := fun x4_11 => [(4, .int x4_11), (3, .int x3_4), (0, .ref 12), (1, .int u), (2, .int c)]) (q := 13) dX7_takeNumberUnlike_11 rfl (by decide) (fun _ => rfl) (fun x4_11 ex4_11 => ?_)
    refine x_aload_n (q := 14) dX7_takeNumberUnlike_13 rfl rfl ?_
    refine x_getf (C := RX7) (T := TX7) (N := 8) (k := 7) (q := 17) z0 (by omega) rfl hiX7 (by decide) (by decide +kernel) rfl dX7_takeNumberUnlike_14 rfl ?_
    refine x_iconst (v := -1) (q := 18) dX7_takeNumberUnlike_17 rfl (by decide) ?_
    refine x_icmp_ne (t := 32) (q := 21) dX7_takeNumberUnlike_18 (by decide) rfl (fun c18 => ?_) (fun c18 => absurd c18 (m1ne (by omega)))
    refine x_iload (q := 34) dX7_takeNumberUnlike_32 rfl rfl ?_
    refine x_iret dX7_takeNumberUnlike_34 rfl rfl (Nat.le_refl _) ?_
    subst ex4_11
    exact ⟨Or.inr ⟨hv, rfl, z0, z1⟩, fr8⟩

set_option maxHeartbeats 4000000 in
set_option maxRecDepth 100000 in
theorem c_unlike_f {n N : Nat} {M : Nat → xE} {lt : Nat → Int32} {cl f : Int32} {q : Nat} (hn : 24 < n) (hN : N ≤ 160) (hq : q ≤ N) (hX : oTx lt N cl q f M) (hf : ¬ f = -1) {u c : Int32} : xMet mX7_takeNumberUnlike [.ref 12, .int u, .int c] n M (fun r M' => M = M' ∧ some (.int (-1)) = r) := by
  have hX0 := hX
  obtain ⟨xp0, xp1⟩ := hX
  have hb := tkE_b lt hq
  have hb0 := tsp_b lt hq
  have hiX7 : ∀ w ∈ wsX70, w ∈ wsX7_takeNumberUnlike := by decide +kernel
  refine xMet.of _ (by decide) rfl (Nat.le_of_ble_eq_true rfl) ?_
  refine x_aload_n (q := 1) dX7_takeNumberUnlike_0 rfl rfl ?_
  refine x_getf (C := RX7) (T := TX7) (N := 8) (k := 5) (q := 4) xp0 (by omega) rfl hiX7 (by decide) (by decide +kernel) rfl dX7_takeNumberUnlike_1 rfl ?_
  refine x_istore_n (L' := fun x3_4 => [(3, .int x3_4), (0, .ref 12), (1, .int u), (2, .int c)]) (q := 5) dX7_takeNumberUnlike_4 rfl (by decide) (fun _ => rfl) (fun x3_4 ex3_4 => ?_)
  refine x_aload_n (q := 6) dX7_takeNumberUnlike_5 rfl rfl ?_
  refine x_iconst (v := 0) (q := 7) dX7_takeNumberUnlike_6 rfl (by decide) ?_
  refine x_iload_n (q := 8) dX7_takeNumberUnlike_7 rfl rfl ?_
  refine x_callV (q := 11) (ci := 7) (c_take_f hn hN hq hX0 hf) eX7_takeNumberUnlike_137 gX7_takeNumberUnlike_X7_takeNumber xp0 (by omega) rfl rfl rfl (Nat.le_of_ble_eq_true rfl) ⟨Nat.le_refl _, Nat.le_refl _⟩ dX7_takeNumberUnlike_8 rfl rfl (fun r8 M8 p8 => ?_)
  obtain ⟨rfl, rfl⟩ := p8
  refine x_istore (L' := fun x4_11 => [(4, .int x4_11), (3, .int x3_4), (0, .ref 12), (1, .int u), (2, .int c)]) (q := 13) dX7_takeNumberUnlike_11 rfl (by decide) (fun _ => rfl) (fun x4_11 ex4_11 => ?_)
  refine x_aload_n (q := 14) dX7_takeNumberUnlike_13 rfl rfl ?_
  refine x_getf (C := RX7) (T := TX7) (N := 8) (k := 7) (q := 17) xp0 (by omega) rfl hiX7 (by decide) (by decide +kernel) rfl dX7_takeNumberUnlike_14 rfl ?_
  refine x_iconst (v := -1) (q := 18) dX7_takeNumberUnlike_17 rfl (by decide) ?_
  refine x_icmp_ne (t := 32) (q := 21) dX7_takeNumberUnlike_18 (by decide) rfl (fun c18 => ?_) (fun c18 => absurd c18 hf)
  refine x_iload (q := 34) dX7_takeNumberUnlike_32 rfl rfl ?_
  refine x_iret dX7_takeNumberUnlike_34 rfl rfl (Nat.le_refl _) ?_
  exact ⟨rfl, by rw [ex4_11]⟩

def tLik (τ : Nat → Nat → Int32) (a b : Nat) : Nat → Nat → Int32 := fun i => if i = 2 then upd (τ 2) a (τ 2 a ||| (1 <<< (nI b &&& 31))) else τ i
def tLen (τ : Nat → Nat → Int32) (a : Nat) : Nat → Nat → Int32 := fun i => if i = 12 then (fun _ => nI a) else τ i
def tWld (τ : Nat → Nat → Int32) (a b d : Nat) : Nat → Nat → Int32 := fun i => if i = 13 then upd (τ 13) a (nI b) else if i = 14 then upd (τ 14) a (nI d) else τ i
def doA (τ : Nat → Nat → Int32) (x : tAct) : Nat → Nat → Int32 :=
  if x.1 = 0 then tNone τ else if x.1 = 5 then tLik τ x.2.1 x.2.2.1 else if x.1 = 6 then tWork τ (nI x.2.1) (nI x.2.2.1) (nI x.2.2.2.1) (nI x.2.2.2.2) else if x.1 = 7 then tGood τ (nI x.2.1) (nI x.2.2.1) 1 else if x.1 = 8 then tGood τ (nI x.2.1) (nI x.2.2.1) 0
  else if x.1 = 9 then tLen τ x.2.1 else if x.1 = 10 then tWld τ x.2.1 x.2.2.1 x.2.2.2.1 else if x.1 = 11 then tStill τ else tOne τ (nI (x.1 - 1))
def rdP (lt : Nat → Int32) (N : Nat) (cl : Int32) (τ : Nat → Nat → Int32) (res : tRes) (M' : Nat → xE) : Prop := res.elim (fun s => (∃ q', oTx lt N cl q' (nI s) M') ∧ s ≤ N ∧ ∃ τ', oX8 14 τ' M') (fun x => oTx lt N cl x.1 (-1) M' ∧ x.1 ≤ N ∧ oX8 14 (doA τ x.2) M')
theorem nB_s {lt : Nat → Int32} {n p lo H v : Nat} {f : Nat → Nat → tRes} (h : num lt n p lo H = some v) : nB lt n p lo H f = f v (tkE lt n p) := by unfold nB; rw [h]; rfl
theorem nB_n {lt : Nat → Int32} {n p lo H : Nat} {f : Nat → Nat → tRes} (h : num lt n p lo H = none) : nB lt n p lo H f = .inl (tsp lt n p) := by unfold nB; rw [h]; rfl
set_option maxHeartbeats 4000000 in
set_option maxRecDepth 100000 in
theorem c_rLikes {n N : Nat} {M : Nat → xE} {lt : Nat → Int32} {cl : Int32} {q : Nat} (hn : 24 < n) (hN : N ≤ 160) (hq : q ≤ N) (hX : oTx lt N cl q (-1) M) {τ : Nat → Nat → Int32} (hD : oX8 14 τ M) {P : Nat} (hP : P ≤ 5) (hP0 : τ 0 0 = nI P) : xMet mX7_readLikes [.ref 12] n M (fun r M' => none = r ∧ rdP lt N cl τ (rdB lt N P 5 q) M' ∧ xfr 12 25 M M') := by
  have hX0 := hX
  obtain ⟨xp0, xp1⟩ := hX
  have hb := tkE_b lt hq
  have hb0 := tsp_b lt hq
  have hD0 := hD
  obtain ⟨dp0, dp1, dp2, dp3, dp4, dp5, dp6, dp7, dp8, dp9, dp10⟩ := hD
  have hiX7 : ∀ w ∈ wsX70, w ∈ wsX7_readLikes := by decide +kernel
  have hiX8 : ∀ w ∈ wsX80, w ∈ wsX7_readLikes := by decide +kernel
  refine xMet.of _ (by decide) rfl (Nat.le_of_ble_eq_true rfl) ?_
  refine x_aload_n (q := 1) dX7_readLikes_0 rfl rfl ?_
  refine x_iconst (v := 0) (q := 2) dX7_readLikes_1 rfl (by decide) ?_
  refine x_aload_n (q := 3) dX7_readLikes_2 rfl rfl ?_
  refine x_getf (C := RX7) (T := TX7) (N := 8) (k := 1) (q := 6) xp0 (by omega) rfl hiX7 (by decide) (by decide +kernel) rfl dX7_readLikes_3 rfl ?_
  refine x_getf (C := RX8) (T := TX8) (N := 15) (k := 0) (q := 9) dp0 (by omega) rfl hiX8 (by decide) (by decide +kernel) rfl dX7_readLikes_6 rfl ?_
  rw [hP0]
  refine x_iconst (v := 1) (q := 10) dX7_readLikes_9 rfl (by decide) ?_
  refine x_isub (q := 11) dX7_readLikes_10 rfl ?_
  refine x_callV (q := 14) (ci := 7) (c_take hn hN hq ⟨xp0, xp1⟩ (lo := 0) (by decide) (H := P) rfl (by omega)) eX7_readLikes_137 gX7_readLikes_X7_takeNumber xp0 (by omega) rfl rfl rfl (Nat.le_of_ble_eq_true rfl) ⟨Nat.le_refl _, Nat.le_refl _⟩ dX7_readLikes_11 rfl rfl (fun r11 M11 p11 => ?_)
  obtain ⟨p11, fr11⟩ := p11; rcases p11 with ⟨v11, hv11, rfl, z11_0, z11_1⟩ | ⟨hv11, rfl, z11_0, z11_1⟩
  · have hs11 := num_some hv11
    have hq11 : tkE lt N (q) ≤ N := (tkE_b lt hq).2
    have ht11 := tsp_b lt hq11
    refine x_istore_n (L' := fun x1_14 => [(1, .int x1_14), (0, .ref 12)]) (q := 15) dX7_readLikes_14 rfl (by decide) (fun _ => rfl) (fun x1_14 ex1_14 => ?_)
    obtain rfl : x1_14 = nI v11 := ex1_14
    refine x_aload_n (q := 16) dX7_readLikes_15 rfl rfl ?_
    refine x_iload_n (q := 17) dX7_readLikes_16 rfl rfl ?_
    refine x_aload_n (q := 18) dX7_readLikes_17 rfl rfl ?_
    refine x_getf (C := RX7) (T := TX7) (N := 8) (k := 1) (q := 21) z11_0 (by omega) rfl hiX7 (by decide) (by decide +kernel) rfl dX7_readLikes_18 rfl ?_
    have hv1_1_14 := ((fr11 (14) (by omega)).trans dp0)
    refine x_getf (C := RX8) (T := TX8) (N := 15) (k := 0) (q := 24) hv1_1_14 (by omega) rfl hiX8 (by decide) (by decide +kernel) rfl dX7_readLikes_21 rfl ?_
    rw [hP0]
    refine x_iconst (v := 1) (q := 25) dX7_readLikes_24 rfl (by decide) ?_
    refine x_isub (q := 26) dX7_readLikes_25 rfl ?_
    refine x_callV (q := 29) (ci := 7) (c_unlike hn hN hq11 ⟨z11_0, z11_1⟩ (H := P) rfl (by omega)) eX7_readLikes_141 gX7_readLikes_X7_takeNumberUnlike z11_0 (by omega) rfl rfl rfl (Nat.le_of_ble_eq_true rfl) ⟨Nat.le_refl _, Nat.le_refl _⟩ dX7_readLikes_26 rfl rfl (fun r26 M26 p26 => ?_)
    obtain ⟨p26, fr26⟩ := p26; rcases p26 with ⟨v26, hv26, rfl, ⟨eu26, z26_0, z26_1⟩ | ⟨eu26, z26_0, z26_1⟩⟩ | ⟨hv26, rfl, z26_0, z26_1⟩
    · have hs26 := num_some hv26
      have hq26 : tkE lt N (tkE lt N (q)) ≤ N := (tkE_b lt hq11).2
      have ht26 := tsp_b lt hq26
      refine x_istore_n (L' := fun x2_29 => [(2, .int x2_29), (1, .int (nI v11)), (0, .ref 12)]) (q := 30) dX7_readLikes_29 rfl (by decide) (fun _ => rfl) (fun x2_29 ex2_29 => ?_)
      obtain rfl : x2_29 = nI v26 := ex2_29
      refine x_aload_n (q := 31) dX7_readLikes_30 rfl rfl ?_
      refine x_getf (C := RX7) (T := TX7) (N := 8) (k := 7) (q := 34) z26_0 (by omega) rfl hiX7 (by decide) (by decide +kernel) rfl dX7_readLikes_31 rfl ?_
      refine x_iconst (v := -1) (q := 35) dX7_readLikes_34 rfl (by decide) ?_
      refine x_icmp_ne (t := 53) (q := 38) dX7_readLikes_35 (by decide) rfl (fun c35 => absurd rfl c35) (fun c35 => ?_)
      refine x_aload_n (q := 39) dX7_readLikes_38 rfl rfl ?_
      refine x_getf (C := RX7) (T := TX7) (N := 8) (k := 1) (q := 42) z26_0 (by omega) rfl hiX7 (by decide) (by decide +kernel) rfl dX7_readLikes_39 rfl ?_
      have hv2_2_14 := ((fr26 (14) (by omega)).trans hv1_1_14)
      refine x_getf (C := RX8) (T := TX8) (N := 15) (k := 2) (q := 45) hv2_2_14 (by omega) rfl hiX8 (by decide) (by decide +kernel) rfl dX7_readLikes_42 rfl ?_
      refine x_iload_n (q := 46) dX7_readLikes_45 rfl rfl ?_
      refine x_dup2 (q := 47) dX7_readLikes_46 rfl rfl rfl ?_
      have hv2_3_16 := ((fr26 (16) (by omega)).trans ((fr11 (16) (by omega)).trans dp2))
      refine x_iald (q := 48) hv2_3_16 (by omega) (ixI (show (nI v11 : Int32) = nI v11 from rfl) (by omega) (by decide)) dX7_readLikes_47 rfl ?_
      rw [ixC (show (nI v11 : Int32) = nI v11 from rfl) (by omega)]
      refine x_iconst (v := 1) (q := 49) dX7_readLikes_48 rfl (by decide) ?_
      refine x_iload_n (q := 50) dX7_readLikes_49 rfl rfl ?_
      refine x_ishl (q := 51) dX7_readLikes_50 rfl ?_
      refine x_ior (q := 52) dX7_readLikes_51 rfl ?_
      refine x_iast (q := 53) hv2_3_16 (by omega) (ixI (show (nI v11 : Int32) = nI v11 from rfl) (by omega) (by decide)) dX7_readLikes_52 rfl (fun M52 w52 o52 => ?_)
      rw [ixC (show (nI v11 : Int32) = nI v11 from rfl) (by omega)] at w52
      refine x_vret dX7_readLikes_53 rfl rfl (Nat.le_refl _) ?_
      have hv3_4_12 := ((o52 (12) (by omega)).trans z26_0)
      have hv3_5_13 := ((o52 (13) (by omega)).trans z26_1)
      have hv3_6_14 := ((o52 (14) (by omega)).trans hv2_2_14)
      have hv3_7_15 := ((o52 (15) (by omega)).trans ((fr26 (15) (by omega)).trans ((fr11 (15) (by omega)).trans dp1)))
      have hv3_8_17 := ((o52 (17) (by omega)).trans ((fr26 (17) (by omega)).trans ((fr11 (17) (by omega)).trans dp3)))
      have hv3_9_18 := ((o52 (18) (by omega)).trans ((fr26 (18) (by omega)).trans ((fr11 (18) (by omega)).trans dp4)))
      have hv3_10_19 := ((o52 (19) (by omega)).trans ((fr26 (19) (by omega)).trans ((fr11 (19) (by omega)).trans dp5)))
      have hv3_11_20 := ((o52 (20) (by omega)).trans ((fr26 (20) (by omega)).trans ((fr11 (20) (by omega)).trans dp6)))
      have hv3_12_21 := ((o52 (21) (by omega)).trans ((fr26 (21) (by omega)).trans ((fr11 (21) (by omega)).trans dp7)))
      have hv3_13_22 := ((o52 (22) (by omega)).trans ((fr26 (22) (by omega)).trans ((fr11 (22) (by omega)).trans dp8)))
      have hv3_14_23 := ((o52 (23) (by omega)).trans ((fr26 (23) (by omega)).trans ((fr11 (23) (by omega)).trans dp9)))
      have hv3_15_24 := ((o52 (24) (by omega)).trans ((fr26 (24) (by omega)).trans ((fr11 (24) (by omega)).trans dp10)))
      refine ⟨rfl, ?_, (fun j hj => ((o52 j (by omega)).trans ((fr26 j (by omega)).trans ((fr11 j (by omega)).trans rfl))))⟩
      show rdP lt N cl τ (rdB lt N P 5 q) _
      unfold rdB
      rw [if_pos (by decide), nB_s hv11, nB_s hv26, if_neg (show ¬ v26 = v11 from fun h => eu26 (by rw [h]))]
      exact ⟨⟨hv3_4_12, hv3_5_13⟩, hq26, ⟨hv3_6_14, hv3_7_15, w52, hv3_8_17, hv3_9_18, hv3_10_19, hv3_11_20, hv3_12_21, hv3_13_22, hv3_14_23, hv3_15_24⟩⟩
    · have hs26 := num_some hv26
      have hq26 : tkE lt N (tkE lt N (q)) ≤ N := (tkE_b lt hq11).2
      have htf := tsp_b lt hq11
      refine x_istore_n (L' := fun x2_29 => [(2, .int x2_29), (1, .int (nI v11)), (0, .ref 12)]) (q := 30) dX7_readLikes_29 rfl (by decide) (fun _ => rfl) (fun x2_29 ex2_29 => ?_)
      obtain rfl : x2_29 = nI v26 := ex2_29
      refine x_aload_n (q := 31) dX7_readLikes_30 rfl rfl ?_
      refine x_getf (C := RX7) (T := TX7) (N := 8) (k := 7) (q := 34) z26_0 (by omega) rfl hiX7 (by decide) (by decide +kernel) rfl dX7_readLikes_31 rfl ?_
      refine x_iconst (v := -1) (q := 35) dX7_readLikes_34 rfl (by decide) ?_
      refine x_icmp_ne (t := 53) (q := 38) dX7_readLikes_35 (by decide) rfl (fun c35 => ?_) (fun c35 => absurd c35 (m1ne (by omega)))
      refine x_vret dX7_readLikes_53 rfl rfl (Nat.le_refl _) ?_
      have hv2_2_14 := ((fr26 (14) (by omega)).trans hv1_1_14)
      have hv2_3_15 := ((fr26 (15) (by omega)).trans ((fr11 (15) (by omega)).trans dp1))
      have hv2_4_16 := ((fr26 (16) (by omega)).trans ((fr11 (16) (by omega)).trans dp2))
      have hv2_5_17 := ((fr26 (17) (by omega)).trans ((fr11 (17) (by omega)).trans dp3))
      have hv2_6_18 := ((fr26 (18) (by omega)).trans ((fr11 (18) (by omega)).trans dp4))
      have hv2_7_19 := ((fr26 (19) (by omega)).trans ((fr11 (19) (by omega)).trans dp5))
      have hv2_8_20 := ((fr26 (20) (by omega)).trans ((fr11 (20) (by omega)).trans dp6))
      have hv2_9_21 := ((fr26 (21) (by omega)).trans ((fr11 (21) (by omega)).trans dp7))
      have hv2_10_22 := ((fr26 (22) (by omega)).trans ((fr11 (22) (by omega)).trans dp8))
      have hv2_11_23 := ((fr26 (23) (by omega)).trans ((fr11 (23) (by omega)).trans dp9))
      have hv2_12_24 := ((fr26 (24) (by omega)).trans ((fr11 (24) (by omega)).trans dp10))
      refine ⟨rfl, ?_, (fun j hj => ((fr26 j (by omega)).trans ((fr11 j (by omega)).trans rfl)))⟩
      show rdP lt N cl τ (rdB lt N P 5 q) _
      unfold rdB
      rw [if_pos (by decide), nB_s hv11, nB_s hv26, if_pos (show v26 = v11 from (nIne (by omega) (by omega)).mp eu26)]
      exact ⟨⟨_, ⟨z26_0, z26_1⟩⟩, by omega, τ, ⟨hv2_2_14, hv2_3_15, hv2_4_16, hv2_5_17, hv2_6_18, hv2_7_19, hv2_8_20, hv2_9_21, hv2_10_22, hv2_11_23, hv2_12_24⟩⟩
    · have htf := tsp_b lt hq11
      refine x_istore_n (L' := fun x2_29 => [(2, .int x2_29), (1, .int (nI v11)), (0, .ref 12)]) (q := 30) dX7_readLikes_29 rfl (by decide) (fun _ => rfl) (fun x2_29 ex2_29 => ?_)
      obtain rfl : x2_29 = -1 := ex2_29
      refine x_aload_n (q := 31) dX7_readLikes_30 rfl rfl ?_
      refine x_getf (C := RX7) (T := TX7) (N := 8) (k := 7) (q := 34) z26_0 (by omega) rfl hiX7 (by decide) (by decide +kernel) rfl dX7_readLikes_31 rfl ?_
      refine x_iconst (v := -1) (q := 35) dX7_readLikes_34 rfl (by decide) ?_
      refine x_icmp_ne (t := 53) (q := 38) dX7_readLikes_35 (by decide) rfl (fun c35 => ?_) (fun c35 => absurd c35 (m1ne (by omega)))
      refine x_vret dX7_readLikes_53 rfl rfl (Nat.le_refl _) ?_
      have hv2_2_14 := ((fr26 (14) (by omega)).trans hv1_1_14)
      have hv2_3_15 := ((fr26 (15) (by omega)).trans ((fr11 (15) (by omega)).trans dp1))
      have hv2_4_16 := ((fr26 (16) (by omega)).trans ((fr11 (16) (by omega)).trans dp2))
      have hv2_5_17 := ((fr26 (17) (by omega)).trans ((fr11 (17) (by omega)).trans dp3))
      have hv2_6_18 := ((fr26 (18) (by omega)).trans ((fr11 (18) (by omega)).trans dp4))
      have hv2_7_19 := ((fr26 (19) (by omega)).trans ((fr11 (19) (by omega)).trans dp5))
      have hv2_8_20 := ((fr26 (20) (by omega)).trans ((fr11 (20) (by omega)).trans dp6))
      have hv2_9_21 := ((fr26 (21) (by omega)).trans ((fr11 (21) (by omega)).trans dp7))
      have hv2_10_22 := ((fr26 (22) (by omega)).trans ((fr11 (22) (by omega)).trans dp8))
      have hv2_11_23 := ((fr26 (23) (by omega)).trans ((fr11 (23) (by omega)).trans dp9))
      have hv2_12_24 := ((fr26 (24) (by omega)).trans ((fr11 (24) (by omega)).trans dp10))
      refine ⟨rfl, ?_, (fun j hj => ((fr26 j (by omega)).trans ((fr11 j (by omega)).trans rfl)))⟩
      show rdP lt N cl τ (rdB lt N P 5 q) _
      unfold rdB
      rw [if_pos (by decide), nB_s hv11, nB_n hv26]
      exact ⟨⟨_, ⟨z26_0, z26_1⟩⟩, by omega, τ, ⟨hv2_2_14, hv2_3_15, hv2_4_16, hv2_5_17, hv2_6_18, hv2_7_19, hv2_8_20, hv2_9_21, hv2_10_22, hv2_11_23, hv2_12_24⟩⟩
  · have htf := tsp_b lt hq
    refine x_istore_n (L' := fun x1_14 => [(1, .int x1_14), (0, .ref 12)]) (q := 15) dX7_readLikes_14 rfl (by decide) (fun _ => rfl) (fun x1_14 ex1_14 => ?_)
    obtain rfl : x1_14 = -1 := ex1_14
    refine x_aload_n (q := 16) dX7_readLikes_15 rfl rfl ?_
    refine x_iload_n (q := 17) dX7_readLikes_16 rfl rfl ?_
    refine x_aload_n (q := 18) dX7_readLikes_17 rfl rfl ?_
    refine x_getf (C := RX7) (T := TX7) (N := 8) (k := 1) (q := 21) z11_0 (by omega) rfl hiX7 (by decide) (by decide +kernel) rfl dX7_readLikes_18 rfl ?_
    have hv1_1_14 := ((fr11 (14) (by omega)).trans dp0)
    refine x_getf (C := RX8) (T := TX8) (N := 15) (k := 0) (q := 24) hv1_1_14 (by omega) rfl hiX8 (by decide) (by decide +kernel) rfl dX7_readLikes_21 rfl ?_
    rw [hP0]
    refine x_iconst (v := 1) (q := 25) dX7_readLikes_24 rfl (by decide) ?_
    refine x_isub (q := 26) dX7_readLikes_25 rfl ?_
    refine x_callV (q := 29) (ci := 7) (c_unlike_f hn hN hq ⟨z11_0, z11_1⟩ (m1ne (by omega))) eX7_readLikes_141 gX7_readLikes_X7_takeNumberUnlike z11_0 (by omega) rfl rfl rfl (Nat.le_of_ble_eq_true rfl) ⟨Nat.le_refl _, Nat.le_refl _⟩ dX7_readLikes_26 rfl rfl (fun r26 M26 p26 => ?_)
    obtain ⟨rfl, rfl⟩ := p26
    refine x_istore_n (L' := fun x2_29 => [(2, .int x2_29), (1, .int (-1)), (0, .ref 12)]) (q := 30) dX7_readLikes_29 rfl (by decide) (fun _ => rfl) (fun x2_29 ex2_29 => ?_)
    obtain rfl : x2_29 = -1 := ex2_29
    refine x_aload_n (q := 31) dX7_readLikes_30 rfl rfl ?_
    refine x_getf (C := RX7) (T := TX7) (N := 8) (k := 7) (q := 34) z11_0 (by omega) rfl hiX7 (by decide) (by decide +kernel) rfl dX7_readLikes_31 rfl ?_
    refine x_iconst (v := -1) (q := 35) dX7_readLikes_34 rfl (by decide) ?_
    refine x_icmp_ne (t := 53) (q := 38) dX7_readLikes_35 (by decide) rfl (fun c35 => ?_) (fun c35 => absurd c35 (m1ne (by omega)))
    refine x_vret dX7_readLikes_53 rfl rfl (Nat.le_refl _) ?_
    have hv1_2_15 := ((fr11 (15) (by omega)).trans dp1)
    have hv1_3_16 := ((fr11 (16) (by omega)).trans dp2)
    have hv1_4_17 := ((fr11 (17) (by omega)).trans dp3)
    have hv1_5_18 := ((fr11 (18) (by omega)).trans dp4)
    have hv1_6_19 := ((fr11 (19) (by omega)).trans dp5)
    have hv1_7_20 := ((fr11 (20) (by omega)).trans dp6)
    have hv1_8_21 := ((fr11 (21) (by omega)).trans dp7)
    have hv1_9_22 := ((fr11 (22) (by omega)).trans dp8)
    have hv1_10_23 := ((fr11 (23) (by omega)).trans dp9)
    have hv1_11_24 := ((fr11 (24) (by omega)).trans dp10)
    refine ⟨rfl, ?_, (fun j hj => ((fr11 j (by omega)).trans rfl))⟩
    show rdP lt N cl τ (rdB lt N P 5 q) _
    unfold rdB
    rw [if_pos (by decide), nB_n hv11]
    exact ⟨⟨_, ⟨z11_0, z11_1⟩⟩, by omega, τ, ⟨hv1_1_14, hv1_2_15, hv1_3_16, hv1_4_17, hv1_5_18, hv1_6_19, hv1_7_20, hv1_8_21, hv1_9_22, hv1_10_23, hv1_11_24⟩⟩

set_option maxHeartbeats 4000000 in
set_option maxRecDepth 100000 in
theorem c_rLength {n N : Nat} {M : Nat → xE} {lt : Nat → Int32} {cl : Int32} {q : Nat} (hn : 24 < n) (hN : N ≤ 160) (hq : q ≤ N) (hX : oTx lt N cl q (-1) M) {τ : Nat → Nat → Int32} (hD : oX8 14 τ M) {P : Nat} (hP : P ≤ 5) (hP0 : τ 0 0 = nI P) : xMet mX7_readLength [.ref 12] n M (fun r M' => none = r ∧ rdP lt N cl τ (rdB lt N P 9 q) M' ∧ xfr 12 25 M M') := by
  have hX0 := hX
  obtain ⟨xp0, xp1⟩ := hX
  have hb := tkE_b lt hq
  have hb0 := tsp_b lt hq
  have hD0 := hD
  obtain ⟨dp0, dp1, dp2, dp3, dp4, dp5, dp6, dp7, dp8, dp9, dp10⟩ := hD
  have hiX7 : ∀ w ∈ wsX70, w ∈ wsX7_readLength := by decide +kernel
  have hiX8 : ∀ w ∈ wsX80, w ∈ wsX7_readLength := by decide +kernel
  refine xMet.of _ (by decide) rfl (Nat.le_of_ble_eq_true rfl) ?_
  refine x_aload_n (q := 1) dX7_readLength_0 rfl rfl ?_
  refine x_iconst (v := 1) (q := 2) dX7_readLength_1 rfl (by decide) ?_
  refine x_bipush (v := 99) (q := 4) dX7_readLength_2 rfl (by decide) ?_
  refine x_callV (q := 7) (ci := 7) (c_take hn hN hq ⟨xp0, xp1⟩ (lo := 1) (by decide) (H := 100) rfl (by omega)) eX7_readLength_137 gX7_readLength_X7_takeNumber xp0 (by omega) rfl rfl rfl (Nat.le_of_ble_eq_true rfl) ⟨Nat.le_refl _, Nat.le_refl _⟩ dX7_readLength_4 rfl rfl (fun r4 M4 p4 => ?_)
  obtain ⟨p4, fr4⟩ := p4; rcases p4 with ⟨v4, hv4, rfl, z4_0, z4_1⟩ | ⟨hv4, rfl, z4_0, z4_1⟩
  · have hs4 := num_some hv4
    have hq4 : tkE lt N (q) ≤ N := (tkE_b lt hq).2
    have ht4 := tsp_b lt hq4
    refine x_istore_n (L' := fun x1_7 => [(1, .int x1_7), (0, .ref 12)]) (q := 8) dX7_readLength_7 rfl (by decide) (fun _ => rfl) (fun x1_7 ex1_7 => ?_)
    obtain rfl : x1_7 = nI v4 := ex1_7
    refine x_aload_n (q := 9) dX7_readLength_8 rfl rfl ?_
    refine x_getf (C := RX7) (T := TX7) (N := 8) (k := 7) (q := 12) z4_0 (by omega) rfl hiX7 (by decide) (by decide +kernel) rfl dX7_readLength_9 rfl ?_
    refine x_iconst (v := -1) (q := 13) dX7_readLength_12 rfl (by decide) ?_
    refine x_icmp_ne (t := 24) (q := 16) dX7_readLength_13 (by decide) rfl (fun c13 => absurd rfl c13) (fun c13 => ?_)
    refine x_aload_n (q := 17) dX7_readLength_16 rfl rfl ?_
    refine x_getf (C := RX7) (T := TX7) (N := 8) (k := 1) (q := 20) z4_0 (by omega) rfl hiX7 (by decide) (by decide +kernel) rfl dX7_readLength_17 rfl ?_
    refine x_iload_n (q := 21) dX7_readLength_20 rfl rfl ?_
    have hv1_1_14 := ((fr4 (14) (by omega)).trans dp0)
    refine x_put (C := RX8) (T := TX8) (N := 15) (k := 12) (q := 24) (ty := .int) tyX8_ok nmX8 hv1_1_14 (by omega) rfl hiX8 (by decide) (by decide +kernel) rfl (by decide +kernel) (fun _ => rfl) (fun _ => rfl) (Nat.le_of_ble_eq_true rfl) dX7_readLength_21 rfl (fun M21 w21 o21 => ?_)
    refine x_vret dX7_readLength_24 rfl rfl (Nat.le_refl _) ?_
    have hv2_2_12 := ((o21 (12) (by omega)).trans z4_0)
    have hv2_3_13 := ((o21 (13) (by omega)).trans z4_1)
    have hv2_4_15 := ((o21 (15) (by omega)).trans ((fr4 (15) (by omega)).trans dp1))
    have hv2_5_16 := ((o21 (16) (by omega)).trans ((fr4 (16) (by omega)).trans dp2))
    have hv2_6_17 := ((o21 (17) (by omega)).trans ((fr4 (17) (by omega)).trans dp3))
    have hv2_7_18 := ((o21 (18) (by omega)).trans ((fr4 (18) (by omega)).trans dp4))
    have hv2_8_19 := ((o21 (19) (by omega)).trans ((fr4 (19) (by omega)).trans dp5))
    have hv2_9_20 := ((o21 (20) (by omega)).trans ((fr4 (20) (by omega)).trans dp6))
    have hv2_10_21 := ((o21 (21) (by omega)).trans ((fr4 (21) (by omega)).trans dp7))
    have hv2_11_22 := ((o21 (22) (by omega)).trans ((fr4 (22) (by omega)).trans dp8))
    have hv2_12_23 := ((o21 (23) (by omega)).trans ((fr4 (23) (by omega)).trans dp9))
    have hv2_13_24 := ((o21 (24) (by omega)).trans ((fr4 (24) (by omega)).trans dp10))
    refine ⟨rfl, ?_, (fun j hj => ((o21 j (by omega)).trans ((fr4 j (by omega)).trans rfl)))⟩
    show rdP lt N cl τ (rdB lt N P 9 q) _
    unfold rdB
    rw [if_neg (by decide), if_neg (by decide), if_neg (by decide), if_pos (by decide), nB_s hv4]
    exact ⟨⟨hv2_2_12, hv2_3_13⟩, hq4, ⟨w21, hv2_4_15, hv2_5_16, hv2_6_17, hv2_7_18, hv2_8_19, hv2_9_20, hv2_10_21, hv2_11_22, hv2_12_23, hv2_13_24⟩⟩
  · have htf := tsp_b lt hq
    refine x_istore_n (L' := fun x1_7 => [(1, .int x1_7), (0, .ref 12)]) (q := 8) dX7_readLength_7 rfl (by decide) (fun _ => rfl) (fun x1_7 ex1_7 => ?_)
    obtain rfl : x1_7 = -1 := ex1_7
    refine x_aload_n (q := 9) dX7_readLength_8 rfl rfl ?_
    refine x_getf (C := RX7) (T := TX7) (N := 8) (k := 7) (q := 12) z4_0 (by omega) rfl hiX7 (by decide) (by decide +kernel) rfl dX7_readLength_9 rfl ?_
    refine x_iconst (v := -1) (q := 13) dX7_readLength_12 rfl (by decide) ?_
    refine x_icmp_ne (t := 24) (q := 16) dX7_readLength_13 (by decide) rfl (fun c13 => ?_) (fun c13 => absurd c13 (m1ne (by omega)))
    refine x_vret dX7_readLength_24 rfl rfl (Nat.le_refl _) ?_
    have hv1_1_14 := ((fr4 (14) (by omega)).trans dp0)
    have hv1_2_15 := ((fr4 (15) (by omega)).trans dp1)
    have hv1_3_16 := ((fr4 (16) (by omega)).trans dp2)
    have hv1_4_17 := ((fr4 (17) (by omega)).trans dp3)
    have hv1_5_18 := ((fr4 (18) (by omega)).trans dp4)
    have hv1_6_19 := ((fr4 (19) (by omega)).trans dp5)
    have hv1_7_20 := ((fr4 (20) (by omega)).trans dp6)
    have hv1_8_21 := ((fr4 (21) (by omega)).trans dp7)
    have hv1_9_22 := ((fr4 (22) (by omega)).trans dp8)
    have hv1_10_23 := ((fr4 (23) (by omega)).trans dp9)
    have hv1_11_24 := ((fr4 (24) (by omega)).trans dp10)
    refine ⟨rfl, ?_, (fun j hj => ((fr4 j (by omega)).trans rfl))⟩
    show rdP lt N cl τ (rdB lt N P 9 q) _
    unfold rdB
    rw [if_neg (by decide), if_neg (by decide), if_neg (by decide), if_pos (by decide), nB_n hv4]
    exact ⟨⟨_, ⟨z4_0, z4_1⟩⟩, by omega, τ, ⟨hv1_1_14, hv1_2_15, hv1_3_16, hv1_4_17, hv1_5_18, hv1_6_19, hv1_7_20, hv1_8_21, hv1_9_22, hv1_10_23, hv1_11_24⟩⟩

set_option maxHeartbeats 4000000 in
set_option maxRecDepth 100000 in
theorem c_rWork {n N : Nat} {M : Nat → xE} {lt : Nat → Int32} {cl : Int32} {q : Nat} (hn : 24 < n) (hN : N ≤ 160) (hq : q ≤ N) (hX : oTx lt N cl q (-1) M) {τ : Nat → Nat → Int32} (hD : oX8 14 τ M) {P : Nat} (hP : P ≤ 5) (hP0 : τ 0 0 = nI P) {W : Nat} (hW : W < 6) (hW0 : τ 3 0 = nI W) : xMet mX7_readWork [.ref 12] n M (fun r M' => none = r ∧ rdP lt N cl τ (rdB lt N P 6 q) M' ∧ xfr 12 25 M M') := by
  have hX0 := hX
  obtain ⟨xp0, xp1⟩ := hX
  have hb := tkE_b lt hq
  have hb0 := tsp_b lt hq
  have hD0 := hD
  obtain ⟨dp0, dp1, dp2, dp3, dp4, dp5, dp6, dp7, dp8, dp9, dp10⟩ := hD
  have hiX7 : ∀ w ∈ wsX70, w ∈ wsX7_readWork := by decide +kernel
  refine xMet.of _ (by decide) rfl (Nat.le_of_ble_eq_true rfl) ?_
  refine x_aload_n (q := 1) dX7_readWork_0 rfl rfl ?_
  refine x_iconst (v := 0) (q := 2) dX7_readWork_1 rfl (by decide) ?_
  refine x_iconst (v := 2) (q := 3) dX7_readWork_2 rfl (by decide) ?_
  refine x_callV (q := 6) (ci := 7) (c_take hn hN hq ⟨xp0, xp1⟩ (lo := 0) (by decide) (H := 3) rfl (by omega)) eX7_readWork_137 gX7_readWork_X7_takeNumber xp0 (by omega) rfl rfl rfl (Nat.le_of_ble_eq_true rfl) ⟨Nat.le_refl _, Nat.le_refl _⟩ dX7_readWork_3 rfl rfl (fun r3 M3 p3 => ?_)
  obtain ⟨p3, fr3⟩ := p3; rcases p3 with ⟨v3, hv3, rfl, z3_0, z3_1⟩ | ⟨hv3, rfl, z3_0, z3_1⟩
  · have hs3 := num_some hv3
    have hq3 : tkE lt N (q) ≤ N := (tkE_b lt hq).2
    have ht3 := tsp_b lt hq3
    refine x_istore_n (L' := fun x1_6 => [(1, .int x1_6), (0, .ref 12)]) (q := 7) dX7_readWork_6 rfl (by decide) (fun _ => rfl) (fun x1_6 ex1_6 => ?_)
    obtain rfl : x1_6 = nI v3 := ex1_6
    refine x_aload_n (q := 8) dX7_readWork_7 rfl rfl ?_
    refine x_iconst (v := 1) (q := 9) dX7_readWork_8 rfl (by decide) ?_
    refine x_bipush (v := 60) (q := 11) dX7_readWork_9 rfl (by decide) ?_
    refine x_callV (q := 14) (ci := 7) (c_take hn hN hq3 ⟨z3_0, z3_1⟩ (lo := 1) (by decide) (H := 61) rfl (by omega)) eX7_readWork_137 gX7_readWork_X7_takeNumber z3_0 (by omega) rfl rfl rfl (Nat.le_of_ble_eq_true rfl) ⟨Nat.le_refl _, Nat.le_refl _⟩ dX7_readWork_11 rfl rfl (fun r11 M11 p11 => ?_)
    obtain ⟨p11, fr11⟩ := p11; rcases p11 with ⟨v11, hv11, rfl, z11_0, z11_1⟩ | ⟨hv11, rfl, z11_0, z11_1⟩
    · have hs11 := num_some hv11
      have hq11 : tkE lt N (tkE lt N (q)) ≤ N := (tkE_b lt hq3).2
      have ht11 := tsp_b lt hq11
      refine x_istore_n (L' := fun x2_14 => [(2, .int x2_14), (1, .int (nI v3)), (0, .ref 12)]) (q := 15) dX7_readWork_14 rfl (by decide) (fun _ => rfl) (fun x2_14 ex2_14 => ?_)
      obtain rfl : x2_14 = nI v11 := ex2_14
      refine x_aload_n (q := 16) dX7_readWork_15 rfl rfl ?_
      refine x_iconst (v := 1) (q := 17) dX7_readWork_16 rfl (by decide) ?_
      refine x_bipush (v := 9) (q := 19) dX7_readWork_17 rfl (by decide) ?_
      refine x_callV (q := 22) (ci := 7) (c_take hn hN hq11 ⟨z11_0, z11_1⟩ (lo := 1) (by decide) (H := 10) rfl (by omega)) eX7_readWork_137 gX7_readWork_X7_takeNumber z11_0 (by omega) rfl rfl rfl (Nat.le_of_ble_eq_true rfl) ⟨Nat.le_refl _, Nat.le_refl _⟩ dX7_readWork_19 rfl rfl (fun r19 M19 p19 => ?_)
      obtain ⟨p19, fr19⟩ := p19; rcases p19 with ⟨v19, hv19, rfl, z19_0, z19_1⟩ | ⟨hv19, rfl, z19_0, z19_1⟩
      · have hs19 := num_some hv19
        have hq19 : tkE lt N (tkE lt N (tkE lt N (q))) ≤ N := (tkE_b lt hq11).2
        have ht19 := tsp_b lt hq19
        refine x_istore_n (L' := fun x3_22 => [(3, .int x3_22), (2, .int (nI v11)), (1, .int (nI v3)), (0, .ref 12)]) (q := 23) dX7_readWork_22 rfl (by decide) (fun _ => rfl) (fun x3_22 ex3_22 => ?_)
        obtain rfl : x3_22 = nI v19 := ex3_22
        refine x_aload_n (q := 24) dX7_readWork_23 rfl rfl ?_
        refine x_iconst (v := 0) (q := 25) dX7_readWork_24 rfl (by decide) ?_
        refine x_bipush (v := 50) (q := 27) dX7_readWork_25 rfl (by decide) ?_
        refine x_callV (q := 30) (ci := 7) (c_take hn hN hq19 ⟨z19_0, z19_1⟩ (lo := 0) (by decide) (H := 51) rfl (by omega)) eX7_readWork_137 gX7_readWork_X7_takeNumber z19_0 (by omega) rfl rfl rfl (Nat.le_of_ble_eq_true rfl) ⟨Nat.le_refl _, Nat.le_refl _⟩ dX7_readWork_27 rfl rfl (fun r27 M27 p27 => ?_)
        obtain ⟨p27, fr27⟩ := p27; rcases p27 with ⟨v27, hv27, rfl, z27_0, z27_1⟩ | ⟨hv27, rfl, z27_0, z27_1⟩
        · have hs27 := num_some hv27
          have hq27 : tkE lt N (tkE lt N (tkE lt N (tkE lt N (q)))) ≤ N := (tkE_b lt hq19).2
          have ht27 := tsp_b lt hq27
          refine x_istore (L' := fun x4_30 => [(4, .int x4_30), (3, .int (nI v19)), (2, .int (nI v11)), (1, .int (nI v3)), (0, .ref 12)]) (q := 32) dX7_readWork_30 rfl (by decide) (fun _ => rfl) (fun x4_30 ex4_30 => ?_)
          obtain rfl : x4_30 = nI v27 := ex4_30
          refine x_aload_n (q := 33) dX7_readWork_32 rfl rfl ?_
          refine x_getf (C := RX7) (T := TX7) (N := 8) (k := 7) (q := 36) z27_0 (by omega) rfl hiX7 (by decide) (by decide +kernel) rfl dX7_readWork_33 rfl ?_
          refine x_iconst (v := -1) (q := 37) dX7_readWork_36 rfl (by decide) ?_
          refine x_icmp_ne (t := 52) (q := 40) dX7_readWork_37 (by decide) rfl (fun c37 => absurd rfl c37) (fun c37 => ?_)
          refine x_aload_n (q := 41) dX7_readWork_40 rfl rfl ?_
          refine x_getf (C := RX7) (T := TX7) (N := 8) (k := 1) (q := 44) z27_0 (by omega) rfl hiX7 (by decide) (by decide +kernel) rfl dX7_readWork_41 rfl ?_
          refine x_iload_n (q := 45) dX7_readWork_44 rfl rfl ?_
          refine x_iload_n (q := 46) dX7_readWork_45 rfl rfl ?_
          refine x_iload_n (q := 47) dX7_readWork_46 rfl rfl ?_
          refine x_iload (q := 49) dX7_readWork_47 rfl rfl ?_
          have hv4_1_14 := ((fr27 (14) (by omega)).trans ((fr19 (14) (by omega)).trans ((fr11 (14) (by omega)).trans ((fr3 (14) (by omega)).trans dp0))))
          have hv4_2_15 := ((fr27 (15) (by omega)).trans ((fr19 (15) (by omega)).trans ((fr11 (15) (by omega)).trans ((fr3 (15) (by omega)).trans dp1))))
          have hv4_3_16 := ((fr27 (16) (by omega)).trans ((fr19 (16) (by omega)).trans ((fr11 (16) (by omega)).trans ((fr3 (16) (by omega)).trans dp2))))
          have hv4_4_17 := ((fr27 (17) (by omega)).trans ((fr19 (17) (by omega)).trans ((fr11 (17) (by omega)).trans ((fr3 (17) (by omega)).trans dp3))))
          have hv4_5_18 := ((fr27 (18) (by omega)).trans ((fr19 (18) (by omega)).trans ((fr11 (18) (by omega)).trans ((fr3 (18) (by omega)).trans dp4))))
          have hv4_6_19 := ((fr27 (19) (by omega)).trans ((fr19 (19) (by omega)).trans ((fr11 (19) (by omega)).trans ((fr3 (19) (by omega)).trans dp5))))
          have hv4_7_20 := ((fr27 (20) (by omega)).trans ((fr19 (20) (by omega)).trans ((fr11 (20) (by omega)).trans ((fr3 (20) (by omega)).trans dp6))))
          have hv4_8_21 := ((fr27 (21) (by omega)).trans ((fr19 (21) (by omega)).trans ((fr11 (21) (by omega)).trans ((fr3 (21) (by omega)).trans dp7))))
          have hv4_9_22 := ((fr27 (22) (by omega)).trans ((fr19 (22) (by omega)).trans ((fr11 (22) (by omega)).trans ((fr3 (22) (by omega)).trans dp8))))
          have hv4_10_23 := ((fr27 (23) (by omega)).trans ((fr19 (23) (by omega)).trans ((fr11 (23) (by omega)).trans ((fr3 (23) (by omega)).trans dp9))))
          have hv4_11_24 := ((fr27 (24) (by omega)).trans ((fr19 (24) (by omega)).trans ((fr11 (24) (by omega)).trans ((fr3 (24) (by omega)).trans dp10))))
          refine x_callV (q := 52) (ci := 8) (c_Told_work (p := 14) (by omega) ⟨hv4_1_14, hv4_2_15, hv4_3_16, hv4_4_17, hv4_5_18, hv4_6_19, hv4_7_20, hv4_8_21, hv4_9_22, hv4_10_23, hv4_11_24⟩ (by rw [hW0]; exact vp_in_nI hW (by decide))) eX7_readWork_147 gX7_readWork_X8_addWork hv4_1_14 (by omega) rfl rfl rfl (Nat.le_of_ble_eq_true rfl) ⟨Nat.le_refl _, Nat.le_refl _⟩ dX7_readWork_49 rfl rfl (fun r49 M49 p49 => ?_)
          obtain ⟨rfl, hV49, fr49⟩ := p49
          obtain ⟨y49_0, y49_1, y49_2, y49_3, y49_4, y49_5, y49_6, y49_7, y49_8, y49_9, y49_10⟩ := hV49
          refine x_vret dX7_readWork_52 rfl rfl (Nat.le_refl _) ?_
          have hv5_12_12 := ((fr49 (12) (by omega)).trans z27_0)
          have hv5_13_13 := ((fr49 (13) (by omega)).trans z27_1)
          refine ⟨rfl, ?_, (fun j hj => ((fr49 j (by omega)).trans ((fr27 j (by omega)).trans ((fr19 j (by omega)).trans ((fr11 j (by omega)).trans ((fr3 j (by omega)).trans rfl))))))⟩
          show rdP lt N cl τ (rdB lt N P 6 q) _
          unfold rdB
          rw [if_neg (by decide), if_pos (by decide), nB_s hv3, nB_s hv11, nB_s hv19, nB_s hv27]
          exact ⟨⟨hv5_12_12, hv5_13_13⟩, hq27, ⟨y49_0, y49_1, y49_2, y49_3, y49_4, y49_5, y49_6, y49_7, y49_8, y49_9, y49_10⟩⟩
        · have htf := tsp_b lt hq19
          refine x_istore (L' := fun x4_30 => [(4, .int x4_30), (3, .int (nI v19)), (2, .int (nI v11)), (1, .int (nI v3)), (0, .ref 12)]) (q := 32) dX7_readWork_30 rfl (by decide) (fun _ => rfl) (fun x4_30 ex4_30 => ?_)
          obtain rfl : x4_30 = -1 := ex4_30
          refine x_aload_n (q := 33) dX7_readWork_32 rfl rfl ?_
          refine x_getf (C := RX7) (T := TX7) (N := 8) (k := 7) (q := 36) z27_0 (by omega) rfl hiX7 (by decide) (by decide +kernel) rfl dX7_readWork_33 rfl ?_
          refine x_iconst (v := -1) (q := 37) dX7_readWork_36 rfl (by decide) ?_
          refine x_icmp_ne (t := 52) (q := 40) dX7_readWork_37 (by decide) rfl (fun c37 => ?_) (fun c37 => absurd c37 (m1ne (by omega)))
          refine x_vret dX7_readWork_52 rfl rfl (Nat.le_refl _) ?_
          have hv4_1_14 := ((fr27 (14) (by omega)).trans ((fr19 (14) (by omega)).trans ((fr11 (14) (by omega)).trans ((fr3 (14) (by omega)).trans dp0))))
          have hv4_2_15 := ((fr27 (15) (by omega)).trans ((fr19 (15) (by omega)).trans ((fr11 (15) (by omega)).trans ((fr3 (15) (by omega)).trans dp1))))
          have hv4_3_16 := ((fr27 (16) (by omega)).trans ((fr19 (16) (by omega)).trans ((fr11 (16) (by omega)).trans ((fr3 (16) (by omega)).trans dp2))))
          have hv4_4_17 := ((fr27 (17) (by omega)).trans ((fr19 (17) (by omega)).trans ((fr11 (17) (by omega)).trans ((fr3 (17) (by omega)).trans dp3))))
          have hv4_5_18 := ((fr27 (18) (by omega)).trans ((fr19 (18) (by omega)).trans ((fr11 (18) (by omega)).trans ((fr3 (18) (by omega)).trans dp4))))
          have hv4_6_19 := ((fr27 (19) (by omega)).trans ((fr19 (19) (by omega)).trans ((fr11 (19) (by omega)).trans ((fr3 (19) (by omega)).trans dp5))))
          have hv4_7_20 := ((fr27 (20) (by omega)).trans ((fr19 (20) (by omega)).trans ((fr11 (20) (by omega)).trans ((fr3 (20) (by omega)).trans dp6))))
          have hv4_8_21 := ((fr27 (21) (by omega)).trans ((fr19 (21) (by omega)).trans ((fr11 (21) (by omega)).trans ((fr3 (21) (by omega)).trans dp7))))
          have hv4_9_22 := ((fr27 (22) (by omega)).trans ((fr19 (22) (by omega)).trans ((fr11 (22) (by omega)).trans ((fr3 (22) (by omega)).trans dp8))))
          have hv4_10_23 := ((fr27 (23) (by omega)).trans ((fr19 (23) (by omega)).trans ((fr11 (23) (by omega)).trans ((fr3 (23) (by omega)).trans dp9))))
          have hv4_11_24 := ((fr27 (24) (by omega)).trans ((fr19 (24) (by omega)).trans ((fr11 (24) (by omega)).trans ((fr3 (24) (by omega)).trans dp10))))
          refine ⟨rfl, ?_, (fun j hj => ((fr27 j (by omega)).trans ((fr19 j (by omega)).trans ((fr11 j (by omega)).trans ((fr3 j (by omega)).trans rfl)))))⟩
          show rdP lt N cl τ (rdB lt N P 6 q) _
          unfold rdB
          rw [if_neg (by decide), if_pos (by decide), nB_s hv3, nB_s hv11, nB_s hv19, nB_n hv27]
          exact ⟨⟨_, ⟨z27_0, z27_1⟩⟩, by omega, τ, ⟨hv4_1_14, hv4_2_15, hv4_3_16, hv4_4_17, hv4_5_18, hv4_6_19, hv4_7_20, hv4_8_21, hv4_9_22, hv4_10_23, hv4_11_24⟩⟩
      · have htf := tsp_b lt hq11
        refine x_istore_n (L' := fun x3_22 => [(3, .int x3_22), (2, .int (nI v11)), (1, .int (nI v3)), (0, .ref 12)]) (q := 23) dX7_readWork_22 rfl (by decide) (fun _ => rfl) (fun x3_22 ex3_22 => ?_)
        obtain rfl : x3_22 = -1 := ex3_22
        refine x_aload_n (q := 24) dX7_readWork_23 rfl rfl ?_
        refine x_iconst (v := 0) (q := 25) dX7_readWork_24 rfl (by decide) ?_
        refine x_bipush (v := 50) (q := 27) dX7_readWork_25 rfl (by decide) ?_
        refine x_callV (q := 30) (ci := 7) (c_take_f hn hN hq11 ⟨z19_0, z19_1⟩ (m1ne (by omega))) eX7_readWork_137 gX7_readWork_X7_takeNumber z19_0 (by omega) rfl rfl rfl (Nat.le_of_ble_eq_true rfl) ⟨Nat.le_refl _, Nat.le_refl _⟩ dX7_readWork_27 rfl rfl (fun r27 M27 p27 => ?_)
        obtain ⟨rfl, rfl⟩ := p27
        refine x_istore (L' := fun x4_30 => [(4, .int x4_30), (3, .int (-1)), (2, .int (nI v11)), (1, .int (nI v3)), (0, .ref 12)]) (q := 32) dX7_readWork_30 rfl (by decide) (fun _ => rfl) (fun x4_30 ex4_30 => ?_)
        obtain rfl : x4_30 = -1 := ex4_30
        refine x_aload_n (q := 33) dX7_readWork_32 rfl rfl ?_
        refine x_getf (C := RX7) (T := TX7) (N := 8) (k := 7) (q := 36) z19_0 (by omega) rfl hiX7 (by decide) (by decide +kernel) rfl dX7_readWork_33 rfl ?_
        refine x_iconst (v := -1) (q := 37) dX7_readWork_36 rfl (by decide) ?_
        refine x_icmp_ne (t := 52) (q := 40) dX7_readWork_37 (by decide) rfl (fun c37 => ?_) (fun c37 => absurd c37 (m1ne (by omega)))
        refine x_vret dX7_readWork_52 rfl rfl (Nat.le_refl _) ?_
        have hv3_1_14 := ((fr19 (14) (by omega)).trans ((fr11 (14) (by omega)).trans ((fr3 (14) (by omega)).trans dp0)))
        have hv3_2_15 := ((fr19 (15) (by omega)).trans ((fr11 (15) (by omega)).trans ((fr3 (15) (by omega)).trans dp1)))
        have hv3_3_16 := ((fr19 (16) (by omega)).trans ((fr11 (16) (by omega)).trans ((fr3 (16) (by omega)).trans dp2)))
        have hv3_4_17 := ((fr19 (17) (by omega)).trans ((fr11 (17) (by omega)).trans ((fr3 (17) (by omega)).trans dp3)))
        have hv3_5_18 := ((fr19 (18) (by omega)).trans ((fr11 (18) (by omega)).trans ((fr3 (18) (by omega)).trans dp4)))
        have hv3_6_19 := ((fr19 (19) (by omega)).trans ((fr11 (19) (by omega)).trans ((fr3 (19) (by omega)).trans dp5)))
        have hv3_7_20 := ((fr19 (20) (by omega)).trans ((fr11 (20) (by omega)).trans ((fr3 (20) (by omega)).trans dp6)))
        have hv3_8_21 := ((fr19 (21) (by omega)).trans ((fr11 (21) (by omega)).trans ((fr3 (21) (by omega)).trans dp7)))
        have hv3_9_22 := ((fr19 (22) (by omega)).trans ((fr11 (22) (by omega)).trans ((fr3 (22) (by omega)).trans dp8)))
        have hv3_10_23 := ((fr19 (23) (by omega)).trans ((fr11 (23) (by omega)).trans ((fr3 (23) (by omega)).trans dp9)))
        have hv3_11_24 := ((fr19 (24) (by omega)).trans ((fr11 (24) (by omega)).trans ((fr3 (24) (by omega)).trans dp10)))
        refine ⟨rfl, ?_, (fun j hj => ((fr19 j (by omega)).trans ((fr11 j (by omega)).trans ((fr3 j (by omega)).trans rfl))))⟩
        show rdP lt N cl τ (rdB lt N P 6 q) _
        unfold rdB
        rw [if_neg (by decide), if_pos (by decide), nB_s hv3, nB_s hv11, nB_n hv19]
        exact ⟨⟨_, ⟨z19_0, z19_1⟩⟩, by omega, τ, ⟨hv3_1_14, hv3_2_15, hv3_3_16, hv3_4_17, hv3_5_18, hv3_6_19, hv3_7_20, hv3_8_21, hv3_9_22, hv3_10_23, hv3_11_24⟩⟩
    · have htf := tsp_b lt hq3
      refine x_istore_n (L' := fun x2_14 => [(2, .int x2_14), (1, .int (nI v3)), (0, .ref 12)]) (q := 15) dX7_readWork_14 rfl (by decide) (fun _ => rfl) (fun x2_14 ex2_14 => ?_)
      obtain rfl : x2_14 = -1 := ex2_14
      refine x_aload_n (q := 16) dX7_readWork_15 rfl rfl ?_
      refine x_iconst (v := 1) (q := 17) dX7_readWork_16 rfl (by decide) ?_
      refine x_bipush (v := 9) (q := 19) dX7_readWork_17 rfl (by decide) ?_
      refine x_callV (q := 22) (ci := 7) (c_take_f hn hN hq3 ⟨z11_0, z11_1⟩ (m1ne (by omega))) eX7_readWork_137 gX7_readWork_X7_takeNumber z11_0 (by omega) rfl rfl rfl (Nat.le_of_ble_eq_true rfl) ⟨Nat.le_refl _, Nat.le_refl _⟩ dX7_readWork_19 rfl rfl (fun r19 M19 p19 => ?_)
      obtain ⟨rfl, rfl⟩ := p19
      refine x_istore_n (L' := fun x3_22 => [(3, .int x3_22), (2, .int (-1)), (1, .int (nI v3)), (0, .ref 12)]) (q := 23) dX7_readWork_22 rfl (by decide) (fun _ => rfl) (fun x3_22 ex3_22 => ?_)
      obtain rfl : x3_22 = -1 := ex3_22
      refine x_aload_n (q := 24) dX7_readWork_23 rfl rfl ?_
      refine x_iconst (v := 0) (q := 25) dX7_readWork_24 rfl (by decide) ?_
      refine x_bipush (v := 50) (q := 27) dX7_readWork_25 rfl (by decide) ?_
      refine x_callV (q := 30) (ci := 7) (c_take_f hn hN hq3 ⟨z11_0, z11_1⟩ (m1ne (by omega))) eX7_readWork_137 gX7_readWork_X7_takeNumber z11_0 (by omega) rfl rfl rfl (Nat.le_of_ble_eq_true rfl) ⟨Nat.le_refl _, Nat.le_refl _⟩ dX7_readWork_27 rfl rfl (fun r27 M27 p27 => ?_)
      obtain ⟨rfl, rfl⟩ := p27
      refine x_istore (L' := fun x4_30 => [(4, .int x4_30), (3, .int (-1)), (2, .int (-1)), (1, .int (nI v3)), (0, .ref 12)]) (q := 32) dX7_readWork_30 rfl (by decide) (fun _ => rfl) (fun x4_30 ex4_30 => ?_)
      obtain rfl : x4_30 = -1 := ex4_30
      refine x_aload_n (q := 33) dX7_readWork_32 rfl rfl ?_
      refine x_getf (C := RX7) (T := TX7) (N := 8) (k := 7) (q := 36) z11_0 (by omega) rfl hiX7 (by decide) (by decide +kernel) rfl dX7_readWork_33 rfl ?_
      refine x_iconst (v := -1) (q := 37) dX7_readWork_36 rfl (by decide) ?_
      refine x_icmp_ne (t := 52) (q := 40) dX7_readWork_37 (by decide) rfl (fun c37 => ?_) (fun c37 => absurd c37 (m1ne (by omega)))
      refine x_vret dX7_readWork_52 rfl rfl (Nat.le_refl _) ?_
      have hv2_1_14 := ((fr11 (14) (by omega)).trans ((fr3 (14) (by omega)).trans dp0))
      have hv2_2_15 := ((fr11 (15) (by omega)).trans ((fr3 (15) (by omega)).trans dp1))
      have hv2_3_16 := ((fr11 (16) (by omega)).trans ((fr3 (16) (by omega)).trans dp2))
      have hv2_4_17 := ((fr11 (17) (by omega)).trans ((fr3 (17) (by omega)).trans dp3))
      have hv2_5_18 := ((fr11 (18) (by omega)).trans ((fr3 (18) (by omega)).trans dp4))
      have hv2_6_19 := ((fr11 (19) (by omega)).trans ((fr3 (19) (by omega)).trans dp5))
      have hv2_7_20 := ((fr11 (20) (by omega)).trans ((fr3 (20) (by omega)).trans dp6))
      have hv2_8_21 := ((fr11 (21) (by omega)).trans ((fr3 (21) (by omega)).trans dp7))
      have hv2_9_22 := ((fr11 (22) (by omega)).trans ((fr3 (22) (by omega)).trans dp8))
      have hv2_10_23 := ((fr11 (23) (by omega)).trans ((fr3 (23) (by omega)).trans dp9))
      have hv2_11_24 := ((fr11 (24) (by omega)).trans ((fr3 (24) (by omega)).trans dp10))
      refine ⟨rfl, ?_, (fun j hj => ((fr11 j (by omega)).trans ((fr3 j (by omega)).trans rfl)))⟩
      show rdP lt N cl τ (rdB lt N P 6 q) _
      unfold rdB
      rw [if_neg (by decide), if_pos (by decide), nB_s hv3, nB_n hv11]
      exact ⟨⟨_, ⟨z11_0, z11_1⟩⟩, by omega, τ, ⟨hv2_1_14, hv2_2_15, hv2_3_16, hv2_4_17, hv2_5_18, hv2_6_19, hv2_7_20, hv2_8_21, hv2_9_22, hv2_10_23, hv2_11_24⟩⟩
  · have htf := tsp_b lt hq
    refine x_istore_n (L' := fun x1_6 => [(1, .int x1_6), (0, .ref 12)]) (q := 7) dX7_readWork_6 rfl (by decide) (fun _ => rfl) (fun x1_6 ex1_6 => ?_)
    obtain rfl : x1_6 = -1 := ex1_6
    refine x_aload_n (q := 8) dX7_readWork_7 rfl rfl ?_
    refine x_iconst (v := 1) (q := 9) dX7_readWork_8 rfl (by decide) ?_
    refine x_bipush (v := 60) (q := 11) dX7_readWork_9 rfl (by decide) ?_
    refine x_callV (q := 14) (ci := 7) (c_take_f hn hN hq ⟨z3_0, z3_1⟩ (m1ne (by omega))) eX7_readWork_137 gX7_readWork_X7_takeNumber z3_0 (by omega) rfl rfl rfl (Nat.le_of_ble_eq_true rfl) ⟨Nat.le_refl _, Nat.le_refl _⟩ dX7_readWork_11 rfl rfl (fun r11 M11 p11 => ?_)
    obtain ⟨rfl, rfl⟩ := p11
    refine x_istore_n (L' := fun x2_14 => [(2, .int x2_14), (1, .int (-1)), (0, .ref 12)]) (q := 15) dX7_readWork_14 rfl (by decide) (fun _ => rfl) (fun x2_14 ex2_14 => ?_)
    obtain rfl : x2_14 = -1 := ex2_14
    refine x_aload_n (q := 16) dX7_readWork_15 rfl rfl ?_
    refine x_iconst (v := 1) (q := 17) dX7_readWork_16 rfl (by decide) ?_
    refine x_bipush (v := 9) (q := 19) dX7_readWork_17 rfl (by decide) ?_
    refine x_callV (q := 22) (ci := 7) (c_take_f hn hN hq ⟨z3_0, z3_1⟩ (m1ne (by omega))) eX7_readWork_137 gX7_readWork_X7_takeNumber z3_0 (by omega) rfl rfl rfl (Nat.le_of_ble_eq_true rfl) ⟨Nat.le_refl _, Nat.le_refl _⟩ dX7_readWork_19 rfl rfl (fun r19 M19 p19 => ?_)
    obtain ⟨rfl, rfl⟩ := p19
    refine x_istore_n (L' := fun x3_22 => [(3, .int x3_22), (2, .int (-1)), (1, .int (-1)), (0, .ref 12)]) (q := 23) dX7_readWork_22 rfl (by decide) (fun _ => rfl) (fun x3_22 ex3_22 => ?_)
    obtain rfl : x3_22 = -1 := ex3_22
    refine x_aload_n (q := 24) dX7_readWork_23 rfl rfl ?_
    refine x_iconst (v := 0) (q := 25) dX7_readWork_24 rfl (by decide) ?_
    refine x_bipush (v := 50) (q := 27) dX7_readWork_25 rfl (by decide) ?_
    refine x_callV (q := 30) (ci := 7) (c_take_f hn hN hq ⟨z3_0, z3_1⟩ (m1ne (by omega))) eX7_readWork_137 gX7_readWork_X7_takeNumber z3_0 (by omega) rfl rfl rfl (Nat.le_of_ble_eq_true rfl) ⟨Nat.le_refl _, Nat.le_refl _⟩ dX7_readWork_27 rfl rfl (fun r27 M27 p27 => ?_)
    obtain ⟨rfl, rfl⟩ := p27
    refine x_istore (L' := fun x4_30 => [(4, .int x4_30), (3, .int (-1)), (2, .int (-1)), (1, .int (-1)), (0, .ref 12)]) (q := 32) dX7_readWork_30 rfl (by decide) (fun _ => rfl) (fun x4_30 ex4_30 => ?_)
    obtain rfl : x4_30 = -1 := ex4_30
    refine x_aload_n (q := 33) dX7_readWork_32 rfl rfl ?_
    refine x_getf (C := RX7) (T := TX7) (N := 8) (k := 7) (q := 36) z3_0 (by omega) rfl hiX7 (by decide) (by decide +kernel) rfl dX7_readWork_33 rfl ?_
    refine x_iconst (v := -1) (q := 37) dX7_readWork_36 rfl (by decide) ?_
    refine x_icmp_ne (t := 52) (q := 40) dX7_readWork_37 (by decide) rfl (fun c37 => ?_) (fun c37 => absurd c37 (m1ne (by omega)))
    refine x_vret dX7_readWork_52 rfl rfl (Nat.le_refl _) ?_
    have hv1_1_14 := ((fr3 (14) (by omega)).trans dp0)
    have hv1_2_15 := ((fr3 (15) (by omega)).trans dp1)
    have hv1_3_16 := ((fr3 (16) (by omega)).trans dp2)
    have hv1_4_17 := ((fr3 (17) (by omega)).trans dp3)
    have hv1_5_18 := ((fr3 (18) (by omega)).trans dp4)
    have hv1_6_19 := ((fr3 (19) (by omega)).trans dp5)
    have hv1_7_20 := ((fr3 (20) (by omega)).trans dp6)
    have hv1_8_21 := ((fr3 (21) (by omega)).trans dp7)
    have hv1_9_22 := ((fr3 (22) (by omega)).trans dp8)
    have hv1_10_23 := ((fr3 (23) (by omega)).trans dp9)
    have hv1_11_24 := ((fr3 (24) (by omega)).trans dp10)
    refine ⟨rfl, ?_, (fun j hj => ((fr3 j (by omega)).trans rfl))⟩
    show rdP lt N cl τ (rdB lt N P 6 q) _
    unfold rdB
    rw [if_neg (by decide), if_pos (by decide), nB_n hv3]
    exact ⟨⟨_, ⟨z3_0, z3_1⟩⟩, by omega, τ, ⟨hv1_1_14, hv1_2_15, hv1_3_16, hv1_4_17, hv1_5_18, hv1_6_19, hv1_7_20, hv1_8_21, hv1_9_22, hv1_10_23, hv1_11_24⟩⟩

set_option maxHeartbeats 4000000 in
set_option maxRecDepth 100000 in
theorem c_rGrow {n N : Nat} {M : Nat → xE} {lt : Nat → Int32} {cl : Int32} {q : Nat} (hn : 24 < n) (hN : N ≤ 160) (hq : q ≤ N) (hX : oTx lt N cl q (-1) M) {τ : Nat → Nat → Int32} (hD : oX8 14 τ M) {P : Nat} (hP : P ≤ 5) (hP0 : τ 0 0 = nI P) {G : Nat} (hG : G < 5) (hG0 : τ 8 0 = nI G) : xMet mX7_readGood [.ref 12, .int 1] n M (fun r M' => none = r ∧ rdP lt N cl τ (rdB lt N P 7 q) M' ∧ xfr 12 25 M M') := by
  have hX0 := hX
  obtain ⟨xp0, xp1⟩ := hX
  have hb := tkE_b lt hq
  have hb0 := tsp_b lt hq
  have hD0 := hD
  obtain ⟨dp0, dp1, dp2, dp3, dp4, dp5, dp6, dp7, dp8, dp9, dp10⟩ := hD
  have hiX7 : ∀ w ∈ wsX70, w ∈ wsX7_readGood := by decide +kernel
  refine xMet.of _ (by decide) rfl (Nat.le_of_ble_eq_true rfl) ?_
  refine x_aload_n (q := 1) dX7_readGood_0 rfl rfl ?_
  refine x_iconst (v := 0) (q := 2) dX7_readGood_1 rfl (by decide) ?_
  refine x_bipush (v := 99) (q := 4) dX7_readGood_2 rfl (by decide) ?_
  refine x_callV (q := 7) (ci := 7) (c_take hn hN hq ⟨xp0, xp1⟩ (lo := 0) (by decide) (H := 100) rfl (by omega)) eX7_readGood_137 gX7_readGood_X7_takeNumber xp0 (by omega) rfl rfl rfl (Nat.le_of_ble_eq_true rfl) ⟨Nat.le_refl _, Nat.le_refl _⟩ dX7_readGood_4 rfl rfl (fun r4 M4 p4 => ?_)
  obtain ⟨p4, fr4⟩ := p4; rcases p4 with ⟨v4, hv4, rfl, z4_0, z4_1⟩ | ⟨hv4, rfl, z4_0, z4_1⟩
  · have hs4 := num_some hv4
    have hq4 : tkE lt N (q) ≤ N := (tkE_b lt hq).2
    have ht4 := tsp_b lt hq4
    refine x_istore_n (L' := fun x2_7 => [(2, .int x2_7), (0, .ref 12), (1, .int 1)]) (q := 8) dX7_readGood_7 rfl (by decide) (fun _ => rfl) (fun x2_7 ex2_7 => ?_)
    obtain rfl : x2_7 = nI v4 := ex2_7
    refine x_aload_n (q := 9) dX7_readGood_8 rfl rfl ?_
    refine x_iconst (v := 0) (q := 10) dX7_readGood_9 rfl (by decide) ?_
    refine x_bipush (v := 9) (q := 12) dX7_readGood_10 rfl (by decide) ?_
    refine x_callV (q := 15) (ci := 7) (c_take hn hN hq4 ⟨z4_0, z4_1⟩ (lo := 0) (by decide) (H := 10) rfl (by omega)) eX7_readGood_137 gX7_readGood_X7_takeNumber z4_0 (by omega) rfl rfl rfl (Nat.le_of_ble_eq_true rfl) ⟨Nat.le_refl _, Nat.le_refl _⟩ dX7_readGood_12 rfl rfl (fun r12 M12 p12 => ?_)
    obtain ⟨p12, fr12⟩ := p12; rcases p12 with ⟨v12, hv12, rfl, z12_0, z12_1⟩ | ⟨hv12, rfl, z12_0, z12_1⟩
    · have hs12 := num_some hv12
      have hq12 : tkE lt N (tkE lt N (q)) ≤ N := (tkE_b lt hq4).2
      have ht12 := tsp_b lt hq12
      refine x_istore_n (L' := fun x3_15 => [(3, .int x3_15), (2, .int (nI v4)), (0, .ref 12), (1, .int 1)]) (q := 16) dX7_readGood_15 rfl (by decide) (fun _ => rfl) (fun x3_15 ex3_15 => ?_)
      obtain rfl : x3_15 = nI v12 := ex3_15
      refine x_aload_n (q := 17) dX7_readGood_16 rfl rfl ?_
      refine x_getf (C := RX7) (T := TX7) (N := 8) (k := 7) (q := 20) z12_0 (by omega) rfl hiX7 (by decide) (by decide +kernel) rfl dX7_readGood_17 rfl ?_
      refine x_iconst (v := -1) (q := 21) dX7_readGood_20 rfl (by decide) ?_
      refine x_icmp_ne (t := 34) (q := 24) dX7_readGood_21 (by decide) rfl (fun c21 => absurd rfl c21) (fun c21 => ?_)
      refine x_aload_n (q := 25) dX7_readGood_24 rfl rfl ?_
      refine x_getf (C := RX7) (T := TX7) (N := 8) (k := 1) (q := 28) z12_0 (by omega) rfl hiX7 (by decide) (by decide +kernel) rfl dX7_readGood_25 rfl ?_
      refine x_iload_n (q := 29) dX7_readGood_28 rfl rfl ?_
      refine x_iload_n (q := 30) dX7_readGood_29 rfl rfl ?_
      refine x_iload_n (q := 31) dX7_readGood_30 rfl rfl ?_
      have hv2_1_14 := ((fr12 (14) (by omega)).trans ((fr4 (14) (by omega)).trans dp0))
      have hv2_2_15 := ((fr12 (15) (by omega)).trans ((fr4 (15) (by omega)).trans dp1))
      have hv2_3_16 := ((fr12 (16) (by omega)).trans ((fr4 (16) (by omega)).trans dp2))
      have hv2_4_17 := ((fr12 (17) (by omega)).trans ((fr4 (17) (by omega)).trans dp3))
      have hv2_5_18 := ((fr12 (18) (by omega)).trans ((fr4 (18) (by omega)).trans dp4))
      have hv2_6_19 := ((fr12 (19) (by omega)).trans ((fr4 (19) (by omega)).trans dp5))
      have hv2_7_20 := ((fr12 (20) (by omega)).trans ((fr4 (20) (by omega)).trans dp6))
      have hv2_8_21 := ((fr12 (21) (by omega)).trans ((fr4 (21) (by omega)).trans dp7))
      have hv2_9_22 := ((fr12 (22) (by omega)).trans ((fr4 (22) (by omega)).trans dp8))
      have hv2_10_23 := ((fr12 (23) (by omega)).trans ((fr4 (23) (by omega)).trans dp9))
      have hv2_11_24 := ((fr12 (24) (by omega)).trans ((fr4 (24) (by omega)).trans dp10))
      refine x_callV (q := 34) (ci := 8) (c_Told_good (p := 14) (by omega) ⟨hv2_1_14, hv2_2_15, hv2_3_16, hv2_4_17, hv2_5_18, hv2_6_19, hv2_7_20, hv2_8_21, hv2_9_22, hv2_10_23, hv2_11_24⟩ (by rw [hG0]; exact vp_in_nI hG (by decide))) eX7_readGood_151 gX7_readGood_X8_addGood hv2_1_14 (by omega) rfl rfl rfl (Nat.le_of_ble_eq_true rfl) ⟨Nat.le_refl _, Nat.le_refl _⟩ dX7_readGood_31 rfl rfl (fun r31 M31 p31 => ?_)
      obtain ⟨rfl, hV31, fr31⟩ := p31
      obtain ⟨y31_0, y31_1, y31_2, y31_3, y31_4, y31_5, y31_6, y31_7, y31_8, y31_9, y31_10⟩ := hV31
      refine x_vret dX7_readGood_34 rfl rfl (Nat.le_refl _) ?_
      have hv3_12_12 := ((fr31 (12) (by omega)).trans z12_0)
      have hv3_13_13 := ((fr31 (13) (by omega)).trans z12_1)
      refine ⟨rfl, ?_, (fun j hj => ((fr31 j (by omega)).trans ((fr12 j (by omega)).trans ((fr4 j (by omega)).trans rfl))))⟩
      show rdP lt N cl τ (rdB lt N P 7 q) _
      unfold rdB
      rw [if_neg (by decide), if_neg (by decide), if_pos (by decide), nB_s hv4, nB_s hv12]
      exact ⟨⟨hv3_12_12, hv3_13_13⟩, hq12, ⟨y31_0, y31_1, y31_2, y31_3, y31_4, y31_5, y31_6, y31_7, y31_8, y31_9, y31_10⟩⟩
    · have htf := tsp_b lt hq4
      refine x_istore_n (L' := fun x3_15 => [(3, .int x3_15), (2, .int (nI v4)), (0, .ref 12), (1, .int 1)]) (q := 16) dX7_readGood_15 rfl (by decide) (fun _ => rfl) (fun x3_15 ex3_15 => ?_)
      obtain rfl : x3_15 = -1 := ex3_15
      refine x_aload_n (q := 17) dX7_readGood_16 rfl rfl ?_
      refine x_getf (C := RX7) (T := TX7) (N := 8) (k := 7) (q := 20) z12_0 (by omega) rfl hiX7 (by decide) (by decide +kernel) rfl dX7_readGood_17 rfl ?_
      refine x_iconst (v := -1) (q := 21) dX7_readGood_20 rfl (by decide) ?_
      refine x_icmp_ne (t := 34) (q := 24) dX7_readGood_21 (by decide) rfl (fun c21 => ?_) (fun c21 => absurd c21 (m1ne (by omega)))
      refine x_vret dX7_readGood_34 rfl rfl (Nat.le_refl _) ?_
      have hv2_1_14 := ((fr12 (14) (by omega)).trans ((fr4 (14) (by omega)).trans dp0))
      have hv2_2_15 := ((fr12 (15) (by omega)).trans ((fr4 (15) (by omega)).trans dp1))
      have hv2_3_16 := ((fr12 (16) (by omega)).trans ((fr4 (16) (by omega)).trans dp2))
      have hv2_4_17 := ((fr12 (17) (by omega)).trans ((fr4 (17) (by omega)).trans dp3))
      have hv2_5_18 := ((fr12 (18) (by omega)).trans ((fr4 (18) (by omega)).trans dp4))
      have hv2_6_19 := ((fr12 (19) (by omega)).trans ((fr4 (19) (by omega)).trans dp5))
      have hv2_7_20 := ((fr12 (20) (by omega)).trans ((fr4 (20) (by omega)).trans dp6))
      have hv2_8_21 := ((fr12 (21) (by omega)).trans ((fr4 (21) (by omega)).trans dp7))
      have hv2_9_22 := ((fr12 (22) (by omega)).trans ((fr4 (22) (by omega)).trans dp8))
      have hv2_10_23 := ((fr12 (23) (by omega)).trans ((fr4 (23) (by omega)).trans dp9))
      have hv2_11_24 := ((fr12 (24) (by omega)).trans ((fr4 (24) (by omega)).trans dp10))
      refine ⟨rfl, ?_, (fun j hj => ((fr12 j (by omega)).trans ((fr4 j (by omega)).trans rfl)))⟩
      show rdP lt N cl τ (rdB lt N P 7 q) _
      unfold rdB
      rw [if_neg (by decide), if_neg (by decide), if_pos (by decide), nB_s hv4, nB_n hv12]
      exact ⟨⟨_, ⟨z12_0, z12_1⟩⟩, by omega, τ, ⟨hv2_1_14, hv2_2_15, hv2_3_16, hv2_4_17, hv2_5_18, hv2_6_19, hv2_7_20, hv2_8_21, hv2_9_22, hv2_10_23, hv2_11_24⟩⟩
  · have htf := tsp_b lt hq
    refine x_istore_n (L' := fun x2_7 => [(2, .int x2_7), (0, .ref 12), (1, .int 1)]) (q := 8) dX7_readGood_7 rfl (by decide) (fun _ => rfl) (fun x2_7 ex2_7 => ?_)
    obtain rfl : x2_7 = -1 := ex2_7
    refine x_aload_n (q := 9) dX7_readGood_8 rfl rfl ?_
    refine x_iconst (v := 0) (q := 10) dX7_readGood_9 rfl (by decide) ?_
    refine x_bipush (v := 9) (q := 12) dX7_readGood_10 rfl (by decide) ?_
    refine x_callV (q := 15) (ci := 7) (c_take_f hn hN hq ⟨z4_0, z4_1⟩ (m1ne (by omega))) eX7_readGood_137 gX7_readGood_X7_takeNumber z4_0 (by omega) rfl rfl rfl (Nat.le_of_ble_eq_true rfl) ⟨Nat.le_refl _, Nat.le_refl _⟩ dX7_readGood_12 rfl rfl (fun r12 M12 p12 => ?_)
    obtain ⟨rfl, rfl⟩ := p12
    refine x_istore_n (L' := fun x3_15 => [(3, .int x3_15), (2, .int (-1)), (0, .ref 12), (1, .int 1)]) (q := 16) dX7_readGood_15 rfl (by decide) (fun _ => rfl) (fun x3_15 ex3_15 => ?_)
    obtain rfl : x3_15 = -1 := ex3_15
    refine x_aload_n (q := 17) dX7_readGood_16 rfl rfl ?_
    refine x_getf (C := RX7) (T := TX7) (N := 8) (k := 7) (q := 20) z4_0 (by omega) rfl hiX7 (by decide) (by decide +kernel) rfl dX7_readGood_17 rfl ?_
    refine x_iconst (v := -1) (q := 21) dX7_readGood_20 rfl (by decide) ?_
    refine x_icmp_ne (t := 34) (q := 24) dX7_readGood_21 (by decide) rfl (fun c21 => ?_) (fun c21 => absurd c21 (m1ne (by omega)))
    refine x_vret dX7_readGood_34 rfl rfl (Nat.le_refl _) ?_
    have hv1_1_14 := ((fr4 (14) (by omega)).trans dp0)
    have hv1_2_15 := ((fr4 (15) (by omega)).trans dp1)
    have hv1_3_16 := ((fr4 (16) (by omega)).trans dp2)
    have hv1_4_17 := ((fr4 (17) (by omega)).trans dp3)
    have hv1_5_18 := ((fr4 (18) (by omega)).trans dp4)
    have hv1_6_19 := ((fr4 (19) (by omega)).trans dp5)
    have hv1_7_20 := ((fr4 (20) (by omega)).trans dp6)
    have hv1_8_21 := ((fr4 (21) (by omega)).trans dp7)
    have hv1_9_22 := ((fr4 (22) (by omega)).trans dp8)
    have hv1_10_23 := ((fr4 (23) (by omega)).trans dp9)
    have hv1_11_24 := ((fr4 (24) (by omega)).trans dp10)
    refine ⟨rfl, ?_, (fun j hj => ((fr4 j (by omega)).trans rfl))⟩
    show rdP lt N cl τ (rdB lt N P 7 q) _
    unfold rdB
    rw [if_neg (by decide), if_neg (by decide), if_pos (by decide), nB_n hv4]
    exact ⟨⟨_, ⟨z4_0, z4_1⟩⟩, by omega, τ, ⟨hv1_1_14, hv1_2_15, hv1_3_16, hv1_4_17, hv1_5_18, hv1_6_19, hv1_7_20, hv1_8_21, hv1_9_22, hv1_10_23, hv1_11_24⟩⟩

set_option maxHeartbeats 4000000 in
set_option maxRecDepth 100000 in
theorem c_rWither {n N : Nat} {M : Nat → xE} {lt : Nat → Int32} {cl : Int32} {q : Nat} (hn : 24 < n) (hN : N ≤ 160) (hq : q ≤ N) (hX : oTx lt N cl q (-1) M) {τ : Nat → Nat → Int32} (hD : oX8 14 τ M) {P : Nat} (hP : P ≤ 5) (hP0 : τ 0 0 = nI P) {G : Nat} (hG : G < 5) (hG0 : τ 8 0 = nI G) : xMet mX7_readGood [.ref 12, .int 0] n M (fun r M' => none = r ∧ rdP lt N cl τ (rdB lt N P 8 q) M' ∧ xfr 12 25 M M') := by
  have hX0 := hX
  obtain ⟨xp0, xp1⟩ := hX
  have hb := tkE_b lt hq
  have hb0 := tsp_b lt hq
  have hD0 := hD
  obtain ⟨dp0, dp1, dp2, dp3, dp4, dp5, dp6, dp7, dp8, dp9, dp10⟩ := hD
  have hiX7 : ∀ w ∈ wsX70, w ∈ wsX7_readGood := by decide +kernel
  refine xMet.of _ (by decide) rfl (Nat.le_of_ble_eq_true rfl) ?_
  refine x_aload_n (q := 1) dX7_readGood_0 rfl rfl ?_
  refine x_iconst (v := 0) (q := 2) dX7_readGood_1 rfl (by decide) ?_
  refine x_bipush (v := 99) (q := 4) dX7_readGood_2 rfl (by decide) ?_
  refine x_callV (q := 7) (ci := 7) (c_take hn hN hq ⟨xp0, xp1⟩ (lo := 0) (by decide) (H := 100) rfl (by omega)) eX7_readGood_137 gX7_readGood_X7_takeNumber xp0 (by omega) rfl rfl rfl (Nat.le_of_ble_eq_true rfl) ⟨Nat.le_refl _, Nat.le_refl _⟩ dX7_readGood_4 rfl rfl (fun r4 M4 p4 => ?_)
  obtain ⟨p4, fr4⟩ := p4; rcases p4 with ⟨v4, hv4, rfl, z4_0, z4_1⟩ | ⟨hv4, rfl, z4_0, z4_1⟩
  · have hs4 := num_some hv4
    have hq4 : tkE lt N (q) ≤ N := (tkE_b lt hq).2
    have ht4 := tsp_b lt hq4
    refine x_istore_n (L' := fun x2_7 => [(2, .int x2_7), (0, .ref 12), (1, .int 0)]) (q := 8) dX7_readGood_7 rfl (by decide) (fun _ => rfl) (fun x2_7 ex2_7 => ?_)
    obtain rfl : x2_7 = nI v4 := ex2_7
    refine x_aload_n (q := 9) dX7_readGood_8 rfl rfl ?_
    refine x_iconst (v := 0) (q := 10) dX7_readGood_9 rfl (by decide) ?_
    refine x_bipush (v := 9) (q := 12) dX7_readGood_10 rfl (by decide) ?_
    refine x_callV (q := 15) (ci := 7) (c_take hn hN hq4 ⟨z4_0, z4_1⟩ (lo := 0) (by decide) (H := 10) rfl (by omega)) eX7_readGood_137 gX7_readGood_X7_takeNumber z4_0 (by omega) rfl rfl rfl (Nat.le_of_ble_eq_true rfl) ⟨Nat.le_refl _, Nat.le_refl _⟩ dX7_readGood_12 rfl rfl (fun r12 M12 p12 => ?_)
    obtain ⟨p12, fr12⟩ := p12; rcases p12 with ⟨v12, hv12, rfl, z12_0, z12_1⟩ | ⟨hv12, rfl, z12_0, z12_1⟩
    · have hs12 := num_some hv12
      have hq12 : tkE lt N (tkE lt N (q)) ≤ N := (tkE_b lt hq4).2
      have ht12 := tsp_b lt hq12
      refine x_istore_n (L' := fun x3_15 => [(3, .int x3_15), (2, .int (nI v4)), (0, .ref 12), (1, .int 0)]) (q := 16) dX7_readGood_15 rfl (by decide) (fun _ => rfl) (fun x3_15 ex3_15 => ?_)
      obtain rfl : x3_15 = nI v12 := ex3_15
      refine x_aload_n (q := 17) dX7_readGood_16 rfl rfl ?_
      refine x_getf (C := RX7) (T := TX7) (N := 8) (k := 7) (q := 20) z12_0 (by omega) rfl hiX7 (by decide) (by decide +kernel) rfl dX7_readGood_17 rfl ?_
      refine x_iconst (v := -1) (q := 21) dX7_readGood_20 rfl (by decide) ?_
      refine x_icmp_ne (t := 34) (q := 24) dX7_readGood_21 (by decide) rfl (fun c21 => absurd rfl c21) (fun c21 => ?_)
      refine x_aload_n (q := 25) dX7_readGood_24 rfl rfl ?_
      refine x_getf (C := RX7) (T := TX7) (N := 8) (k := 1) (q := 28) z12_0 (by omega) rfl hiX7 (by decide) (by decide +kernel) rfl dX7_readGood_25 rfl ?_
      refine x_iload_n (q := 29) dX7_readGood_28 rfl rfl ?_
      refine x_iload_n (q := 30) dX7_readGood_29 rfl rfl ?_
      refine x_iload_n (q := 31) dX7_readGood_30 rfl rfl ?_
      have hv2_1_14 := ((fr12 (14) (by omega)).trans ((fr4 (14) (by omega)).trans dp0))
      have hv2_2_15 := ((fr12 (15) (by omega)).trans ((fr4 (15) (by omega)).trans dp1))
      have hv2_3_16 := ((fr12 (16) (by omega)).trans ((fr4 (16) (by omega)).trans dp2))
      have hv2_4_17 := ((fr12 (17) (by omega)).trans ((fr4 (17) (by omega)).trans dp3))
      have hv2_5_18 := ((fr12 (18) (by omega)).trans ((fr4 (18) (by omega)).trans dp4))
      have hv2_6_19 := ((fr12 (19) (by omega)).trans ((fr4 (19) (by omega)).trans dp5))
      have hv2_7_20 := ((fr12 (20) (by omega)).trans ((fr4 (20) (by omega)).trans dp6))
      have hv2_8_21 := ((fr12 (21) (by omega)).trans ((fr4 (21) (by omega)).trans dp7))
      have hv2_9_22 := ((fr12 (22) (by omega)).trans ((fr4 (22) (by omega)).trans dp8))
      have hv2_10_23 := ((fr12 (23) (by omega)).trans ((fr4 (23) (by omega)).trans dp9))
      have hv2_11_24 := ((fr12 (24) (by omega)).trans ((fr4 (24) (by omega)).trans dp10))
      refine x_callV (q := 34) (ci := 8) (c_Told_good (p := 14) (by omega) ⟨hv2_1_14, hv2_2_15, hv2_3_16, hv2_4_17, hv2_5_18, hv2_6_19, hv2_7_20, hv2_8_21, hv2_9_22, hv2_10_23, hv2_11_24⟩ (by rw [hG0]; exact vp_in_nI hG (by decide))) eX7_readGood_151 gX7_readGood_X8_addGood hv2_1_14 (by omega) rfl rfl rfl (Nat.le_of_ble_eq_true rfl) ⟨Nat.le_refl _, Nat.le_refl _⟩ dX7_readGood_31 rfl rfl (fun r31 M31 p31 => ?_)
      obtain ⟨rfl, hV31, fr31⟩ := p31
      obtain ⟨y31_0, y31_1, y31_2, y31_3, y31_4, y31_5, y31_6, y31_7, y31_8, y31_9, y31_10⟩ := hV31
      refine x_vret dX7_readGood_34 rfl rfl (Nat.le_refl _) ?_
      have hv3_12_12 := ((fr31 (12) (by omega)).trans z12_0)
      have hv3_13_13 := ((fr31 (13) (by omega)).trans z12_1)
      refine ⟨rfl, ?_, (fun j hj => ((fr31 j (by omega)).trans ((fr12 j (by omega)).trans ((fr4 j (by omega)).trans rfl))))⟩
      show rdP lt N cl τ (rdB lt N P 8 q) _
      unfold rdB
      rw [if_neg (by decide), if_neg (by decide), if_pos (by decide), nB_s hv4, nB_s hv12]
      exact ⟨⟨hv3_12_12, hv3_13_13⟩, hq12, ⟨y31_0, y31_1, y31_2, y31_3, y31_4, y31_5, y31_6, y31_7, y31_8, y31_9, y31_10⟩⟩
    · have htf := tsp_b lt hq4
      refine x_istore_n (L' := fun x3_15 => [(3, .int x3_15), (2, .int (nI v4)), (0, .ref 12), (1, .int 0)]) (q := 16) dX7_readGood_15 rfl (by decide) (fun _ => rfl) (fun x3_15 ex3_15 => ?_)
      obtain rfl : x3_15 = -1 := ex3_15
      refine x_aload_n (q := 17) dX7_readGood_16 rfl rfl ?_
      refine x_getf (C := RX7) (T := TX7) (N := 8) (k := 7) (q := 20) z12_0 (by omega) rfl hiX7 (by decide) (by decide +kernel) rfl dX7_readGood_17 rfl ?_
      refine x_iconst (v := -1) (q := 21) dX7_readGood_20 rfl (by decide) ?_
      refine x_icmp_ne (t := 34) (q := 24) dX7_readGood_21 (by decide) rfl (fun c21 => ?_) (fun c21 => absurd c21 (m1ne (by omega)))
      refine x_vret dX7_readGood_34 rfl rfl (Nat.le_refl _) ?_
      have hv2_1_14 := ((fr12 (14) (by omega)).trans ((fr4 (14) (by omega)).trans dp0))
      have hv2_2_15 := ((fr12 (15) (by omega)).trans ((fr4 (15) (by omega)).trans dp1))
      have hv2_3_16 := ((fr12 (16) (by omega)).trans ((fr4 (16) (by omega)).trans dp2))
      have hv2_4_17 := ((fr12 (17) (by omega)).trans ((fr4 (17) (by omega)).trans dp3))
      have hv2_5_18 := ((fr12 (18) (by omega)).trans ((fr4 (18) (by omega)).trans dp4))
      have hv2_6_19 := ((fr12 (19) (by omega)).trans ((fr4 (19) (by omega)).trans dp5))
      have hv2_7_20 := ((fr12 (20) (by omega)).trans ((fr4 (20) (by omega)).trans dp6))
      have hv2_8_21 := ((fr12 (21) (by omega)).trans ((fr4 (21) (by omega)).trans dp7))
      have hv2_9_22 := ((fr12 (22) (by omega)).trans ((fr4 (22) (by omega)).trans dp8))
      have hv2_10_23 := ((fr12 (23) (by omega)).trans ((fr4 (23) (by omega)).trans dp9))
      have hv2_11_24 := ((fr12 (24) (by omega)).trans ((fr4 (24) (by omega)).trans dp10))
      refine ⟨rfl, ?_, (fun j hj => ((fr12 j (by omega)).trans ((fr4 j (by omega)).trans rfl)))⟩
      show rdP lt N cl τ (rdB lt N P 8 q) _
      unfold rdB
      rw [if_neg (by decide), if_neg (by decide), if_pos (by decide), nB_s hv4, nB_n hv12]
      exact ⟨⟨_, ⟨z12_0, z12_1⟩⟩, by omega, τ, ⟨hv2_1_14, hv2_2_15, hv2_3_16, hv2_4_17, hv2_5_18, hv2_6_19, hv2_7_20, hv2_8_21, hv2_9_22, hv2_10_23, hv2_11_24⟩⟩
  · have htf := tsp_b lt hq
    refine x_istore_n (L' := fun x2_7 => [(2, .int x2_7), (0, .ref 12), (1, .int 0)]) (q := 8) dX7_readGood_7 rfl (by decide) (fun _ => rfl) (fun x2_7 ex2_7 => ?_)
    obtain rfl : x2_7 = -1 := ex2_7
    refine x_aload_n (q := 9) dX7_readGood_8 rfl rfl ?_
    refine x_iconst (v := 0) (q := 10) dX7_readGood_9 rfl (by decide) ?_
    refine x_bipush (v := 9) (q := 12) dX7_readGood_10 rfl (by decide) ?_
    refine x_callV (q := 15) (ci := 7) (c_take_f hn hN hq ⟨z4_0, z4_1⟩ (m1ne (by omega))) eX7_readGood_137 gX7_readGood_X7_takeNumber z4_0 (by omega) rfl rfl rfl (Nat.le_of_ble_eq_true rfl) ⟨Nat.le_refl _, Nat.le_refl _⟩ dX7_readGood_12 rfl rfl (fun r12 M12 p12 => ?_)
    obtain ⟨rfl, rfl⟩ := p12
    refine x_istore_n (L' := fun x3_15 => [(3, .int x3_15), (2, .int (-1)), (0, .ref 12), (1, .int 0)]) (q := 16) dX7_readGood_15 rfl (by decide) (fun _ => rfl) (fun x3_15 ex3_15 => ?_)
    obtain rfl : x3_15 = -1 := ex3_15
    refine x_aload_n (q := 17) dX7_readGood_16 rfl rfl ?_
    refine x_getf (C := RX7) (T := TX7) (N := 8) (k := 7) (q := 20) z4_0 (by omega) rfl hiX7 (by decide) (by decide +kernel) rfl dX7_readGood_17 rfl ?_
    refine x_iconst (v := -1) (q := 21) dX7_readGood_20 rfl (by decide) ?_
    refine x_icmp_ne (t := 34) (q := 24) dX7_readGood_21 (by decide) rfl (fun c21 => ?_) (fun c21 => absurd c21 (m1ne (by omega)))
    refine x_vret dX7_readGood_34 rfl rfl (Nat.le_refl _) ?_
    have hv1_1_14 := ((fr4 (14) (by omega)).trans dp0)
    have hv1_2_15 := ((fr4 (15) (by omega)).trans dp1)
    have hv1_3_16 := ((fr4 (16) (by omega)).trans dp2)
    have hv1_4_17 := ((fr4 (17) (by omega)).trans dp3)
    have hv1_5_18 := ((fr4 (18) (by omega)).trans dp4)
    have hv1_6_19 := ((fr4 (19) (by omega)).trans dp5)
    have hv1_7_20 := ((fr4 (20) (by omega)).trans dp6)
    have hv1_8_21 := ((fr4 (21) (by omega)).trans dp7)
    have hv1_9_22 := ((fr4 (22) (by omega)).trans dp8)
    have hv1_10_23 := ((fr4 (23) (by omega)).trans dp9)
    have hv1_11_24 := ((fr4 (24) (by omega)).trans dp10)
    refine ⟨rfl, ?_, (fun j hj => ((fr4 j (by omega)).trans rfl))⟩
    show rdP lt N cl τ (rdB lt N P 8 q) _
    unfold rdB
    rw [if_neg (by decide), if_neg (by decide), if_pos (by decide), nB_n hv4]
    exact ⟨⟨_, ⟨z4_0, z4_1⟩⟩, by omega, τ, ⟨hv1_1_14, hv1_2_15, hv1_3_16, hv1_4_17, hv1_5_18, hv1_6_19, hv1_7_20, hv1_8_21, hv1_9_22, hv1_10_23, hv1_11_24⟩⟩

set_option maxHeartbeats 4000000 in
set_option maxRecDepth 100000 in
theorem c_rWorld {n N : Nat} {M : Nat → xE} {lt : Nat → Int32} {cl : Int32} {q : Nat} (hn : 24 < n) (hN : N ≤ 160) (hq : q ≤ N) (hX : oTx lt N cl q (-1) M) {τ : Nat → Nat → Int32} (hD : oX8 14 τ M) {P : Nat} (hP : P ≤ 5) (hP0 : τ 0 0 = nI P) : xMet mX7_readWorld [.ref 12] n M (fun r M' => none = r ∧ rdP lt N cl τ (rdB lt N P 10 q) M' ∧ xfr 12 25 M M') := by
  have hX0 := hX
  obtain ⟨xp0, xp1⟩ := hX
  have hb := tkE_b lt hq
  have hb0 := tsp_b lt hq
  have hD0 := hD
  obtain ⟨dp0, dp1, dp2, dp3, dp4, dp5, dp6, dp7, dp8, dp9, dp10⟩ := hD
  have hiX7 : ∀ w ∈ wsX70, w ∈ wsX7_readWorld := by decide +kernel
  refine xMet.of _ (by decide) rfl (Nat.le_of_ble_eq_true rfl) ?_
  refine x_aload_n (q := 1) dX7_readWorld_0 rfl rfl ?_
  refine x_iconst (v := 0) (q := 2) dX7_readWorld_1 rfl (by decide) ?_
  refine x_iconst (v := 3) (q := 3) dX7_readWorld_2 rfl (by decide) ?_
  refine x_callV (q := 6) (ci := 7) (c_take hn hN hq ⟨xp0, xp1⟩ (lo := 0) (by decide) (H := 4) rfl (by omega)) eX7_readWorld_137 gX7_readWorld_X7_takeNumber xp0 (by omega) rfl rfl rfl (Nat.le_of_ble_eq_true rfl) ⟨Nat.le_refl _, Nat.le_refl _⟩ dX7_readWorld_3 rfl rfl (fun r3 M3 p3 => ?_)
  obtain ⟨p3, fr3⟩ := p3; rcases p3 with ⟨v3, hv3, rfl, z3_0, z3_1⟩ | ⟨hv3, rfl, z3_0, z3_1⟩
  · have hs3 := num_some hv3
    have hq3 : tkE lt N (q) ≤ N := (tkE_b lt hq).2
    have ht3 := tsp_b lt hq3
    refine x_istore_n (L' := fun x1_6 => [(1, .int x1_6), (0, .ref 12)]) (q := 7) dX7_readWorld_6 rfl (by decide) (fun _ => rfl) (fun x1_6 ex1_6 => ?_)
    obtain rfl : x1_6 = nI v3 := ex1_6
    refine x_aload_n (q := 8) dX7_readWorld_7 rfl rfl ?_
    refine x_iload_n (q := 9) dX7_readWorld_8 rfl rfl ?_
    refine x_iconst (v := 3) (q := 10) dX7_readWorld_9 rfl (by decide) ?_
    refine x_callV (q := 13) (ci := 7) (c_unlike hn hN hq3 ⟨z3_0, z3_1⟩ (H := 4) rfl (by omega)) eX7_readWorld_141 gX7_readWorld_X7_takeNumberUnlike z3_0 (by omega) rfl rfl rfl (Nat.le_of_ble_eq_true rfl) ⟨Nat.le_refl _, Nat.le_refl _⟩ dX7_readWorld_10 rfl rfl (fun r10 M10 p10 => ?_)
    obtain ⟨p10, fr10⟩ := p10; rcases p10 with ⟨v10, hv10, rfl, ⟨eu10, z10_0, z10_1⟩ | ⟨eu10, z10_0, z10_1⟩⟩ | ⟨hv10, rfl, z10_0, z10_1⟩
    · have hs10 := num_some hv10
      have hq10 : tkE lt N (tkE lt N (q)) ≤ N := (tkE_b lt hq3).2
      have ht10 := tsp_b lt hq10
      refine x_istore_n (L' := fun x2_13 => [(2, .int x2_13), (1, .int (nI v3)), (0, .ref 12)]) (q := 14) dX7_readWorld_13 rfl (by decide) (fun _ => rfl) (fun x2_13 ex2_13 => ?_)
      obtain rfl : x2_13 = nI v10 := ex2_13
      refine x_aload_n (q := 15) dX7_readWorld_14 rfl rfl ?_
      refine x_iconst (v := 0) (q := 16) dX7_readWorld_15 rfl (by decide) ?_
      refine x_bipush (v := 9) (q := 18) dX7_readWorld_16 rfl (by decide) ?_
      refine x_callV (q := 21) (ci := 7) (c_take hn hN hq10 ⟨z10_0, z10_1⟩ (lo := 0) (by decide) (H := 10) rfl (by omega)) eX7_readWorld_137 gX7_readWorld_X7_takeNumber z10_0 (by omega) rfl rfl rfl (Nat.le_of_ble_eq_true rfl) ⟨Nat.le_refl _, Nat.le_refl _⟩ dX7_readWorld_18 rfl rfl (fun r18 M18 p18 => ?_)
      obtain ⟨p18, fr18⟩ := p18; rcases p18 with ⟨v18, hv18, rfl, z18_0, z18_1⟩ | ⟨hv18, rfl, z18_0, z18_1⟩
      · have hs18 := num_some hv18
        have hq18 : tkE lt N (tkE lt N (tkE lt N (q))) ≤ N := (tkE_b lt hq10).2
        have ht18 := tsp_b lt hq18
        refine x_istore_n (L' := fun x3_21 => [(3, .int x3_21), (2, .int (nI v10)), (1, .int (nI v3)), (0, .ref 12)]) (q := 22) dX7_readWorld_21 rfl (by decide) (fun _ => rfl) (fun x3_21 ex3_21 => ?_)
        obtain rfl : x3_21 = nI v18 := ex3_21
        refine x_aload_n (q := 23) dX7_readWorld_22 rfl rfl ?_
        refine x_getf (C := RX7) (T := TX7) (N := 8) (k := 7) (q := 26) z18_0 (by omega) rfl hiX7 (by decide) (by decide +kernel) rfl dX7_readWorld_23 rfl ?_
        refine x_iconst (v := -1) (q := 27) dX7_readWorld_26 rfl (by decide) ?_
        refine x_icmp_ne (t := 40) (q := 30) dX7_readWorld_27 (by decide) rfl (fun c27 => absurd rfl c27) (fun c27 => ?_)
        refine x_aload_n (q := 31) dX7_readWorld_30 rfl rfl ?_
        refine x_getf (C := RX7) (T := TX7) (N := 8) (k := 1) (q := 34) z18_0 (by omega) rfl hiX7 (by decide) (by decide +kernel) rfl dX7_readWorld_31 rfl ?_
        refine x_iload_n (q := 35) dX7_readWorld_34 rfl rfl ?_
        refine x_iload_n (q := 36) dX7_readWorld_35 rfl rfl ?_
        refine x_iload_n (q := 37) dX7_readWorld_36 rfl rfl ?_
        have hv3_1_14 := ((fr18 (14) (by omega)).trans ((fr10 (14) (by omega)).trans ((fr3 (14) (by omega)).trans dp0)))
        have hv3_2_15 := ((fr18 (15) (by omega)).trans ((fr10 (15) (by omega)).trans ((fr3 (15) (by omega)).trans dp1)))
        have hv3_3_16 := ((fr18 (16) (by omega)).trans ((fr10 (16) (by omega)).trans ((fr3 (16) (by omega)).trans dp2)))
        have hv3_4_17 := ((fr18 (17) (by omega)).trans ((fr10 (17) (by omega)).trans ((fr3 (17) (by omega)).trans dp3)))
        have hv3_5_18 := ((fr18 (18) (by omega)).trans ((fr10 (18) (by omega)).trans ((fr3 (18) (by omega)).trans dp4)))
        have hv3_6_19 := ((fr18 (19) (by omega)).trans ((fr10 (19) (by omega)).trans ((fr3 (19) (by omega)).trans dp5)))
        have hv3_7_20 := ((fr18 (20) (by omega)).trans ((fr10 (20) (by omega)).trans ((fr3 (20) (by omega)).trans dp6)))
        have hv3_8_21 := ((fr18 (21) (by omega)).trans ((fr10 (21) (by omega)).trans ((fr3 (21) (by omega)).trans dp7)))
        have hv3_9_22 := ((fr18 (22) (by omega)).trans ((fr10 (22) (by omega)).trans ((fr3 (22) (by omega)).trans dp8)))
        have hv3_10_23 := ((fr18 (23) (by omega)).trans ((fr10 (23) (by omega)).trans ((fr3 (23) (by omega)).trans dp9)))
        have hv3_11_24 := ((fr18 (24) (by omega)).trans ((fr10 (24) (by omega)).trans ((fr3 (24) (by omega)).trans dp10)))
        refine x_callV (q := 40) (ci := 8) (c_Told_world (p := 14) (by omega) ⟨hv3_1_14, hv3_2_15, hv3_3_16, hv3_4_17, hv3_5_18, hv3_6_19, hv3_7_20, hv3_8_21, hv3_9_22, hv3_10_23, hv3_11_24⟩ (vp_in_nI (show v3 < 4 by omega) (by decide))) eX7_readWorld_157 gX7_readWorld_X8_tellWorld hv3_1_14 (by omega) rfl rfl rfl (Nat.le_of_ble_eq_true rfl) ⟨Nat.le_refl _, Nat.le_refl _⟩ dX7_readWorld_37 rfl rfl (fun r37 M37 p37 => ?_)
        obtain ⟨rfl, hV37, fr37⟩ := p37
        rw [nI_clamp (show v3 < 2 ^ 31 by omega)] at hV37
        obtain ⟨y37_0, y37_1, y37_2, y37_3, y37_4, y37_5, y37_6, y37_7, y37_8, y37_9, y37_10⟩ := hV37
        refine x_vret dX7_readWorld_40 rfl rfl (Nat.le_refl _) ?_
        have hv4_12_12 := ((fr37 (12) (by omega)).trans z18_0)
        have hv4_13_13 := ((fr37 (13) (by omega)).trans z18_1)
        refine ⟨rfl, ?_, (fun j hj => ((fr37 j (by omega)).trans ((fr18 j (by omega)).trans ((fr10 j (by omega)).trans ((fr3 j (by omega)).trans rfl)))))⟩
        show rdP lt N cl τ (rdB lt N P 10 q) _
        unfold rdB
        rw [if_neg (by decide), if_neg (by decide), if_neg (by decide), if_neg (by decide), if_pos (by decide), nB_s hv3, nB_s hv10, if_neg (show ¬ v10 = v3 from fun h => eu10 (by rw [h])), nB_s hv18]
        exact ⟨⟨hv4_12_12, hv4_13_13⟩, hq18, ⟨y37_0, y37_1, y37_2, y37_3, y37_4, y37_5, y37_6, y37_7, y37_8, y37_9, y37_10⟩⟩
      · have htf := tsp_b lt hq10
        refine x_istore_n (L' := fun x3_21 => [(3, .int x3_21), (2, .int (nI v10)), (1, .int (nI v3)), (0, .ref 12)]) (q := 22) dX7_readWorld_21 rfl (by decide) (fun _ => rfl) (fun x3_21 ex3_21 => ?_)
        obtain rfl : x3_21 = -1 := ex3_21
        refine x_aload_n (q := 23) dX7_readWorld_22 rfl rfl ?_
        refine x_getf (C := RX7) (T := TX7) (N := 8) (k := 7) (q := 26) z18_0 (by omega) rfl hiX7 (by decide) (by decide +kernel) rfl dX7_readWorld_23 rfl ?_
        refine x_iconst (v := -1) (q := 27) dX7_readWorld_26 rfl (by decide) ?_
        refine x_icmp_ne (t := 40) (q := 30) dX7_readWorld_27 (by decide) rfl (fun c27 => ?_) (fun c27 => absurd c27 (m1ne (by omega)))
        refine x_vret dX7_readWorld_40 rfl rfl (Nat.le_refl _) ?_
        have hv3_1_14 := ((fr18 (14) (by omega)).trans ((fr10 (14) (by omega)).trans ((fr3 (14) (by omega)).trans dp0)))
        have hv3_2_15 := ((fr18 (15) (by omega)).trans ((fr10 (15) (by omega)).trans ((fr3 (15) (by omega)).trans dp1)))
        have hv3_3_16 := ((fr18 (16) (by omega)).trans ((fr10 (16) (by omega)).trans ((fr3 (16) (by omega)).trans dp2)))
        have hv3_4_17 := ((fr18 (17) (by omega)).trans ((fr10 (17) (by omega)).trans ((fr3 (17) (by omega)).trans dp3)))
        have hv3_5_18 := ((fr18 (18) (by omega)).trans ((fr10 (18) (by omega)).trans ((fr3 (18) (by omega)).trans dp4)))
        have hv3_6_19 := ((fr18 (19) (by omega)).trans ((fr10 (19) (by omega)).trans ((fr3 (19) (by omega)).trans dp5)))
        have hv3_7_20 := ((fr18 (20) (by omega)).trans ((fr10 (20) (by omega)).trans ((fr3 (20) (by omega)).trans dp6)))
        have hv3_8_21 := ((fr18 (21) (by omega)).trans ((fr10 (21) (by omega)).trans ((fr3 (21) (by omega)).trans dp7)))
        have hv3_9_22 := ((fr18 (22) (by omega)).trans ((fr10 (22) (by omega)).trans ((fr3 (22) (by omega)).trans dp8)))
        have hv3_10_23 := ((fr18 (23) (by omega)).trans ((fr10 (23) (by omega)).trans ((fr3 (23) (by omega)).trans dp9)))
        have hv3_11_24 := ((fr18 (24) (by omega)).trans ((fr10 (24) (by omega)).trans ((fr3 (24) (by omega)).trans dp10)))
        refine ⟨rfl, ?_, (fun j hj => ((fr18 j (by omega)).trans ((fr10 j (by omega)).trans ((fr3 j (by omega)).trans rfl))))⟩
        show rdP lt N cl τ (rdB lt N P 10 q) _
        unfold rdB
        rw [if_neg (by decide), if_neg (by decide), if_neg (by decide), if_neg (by decide), if_pos (by decide), nB_s hv3, nB_s hv10, if_neg (show ¬ v10 = v3 from fun h => eu10 (by rw [h])), nB_n hv18]
        exact ⟨⟨_, ⟨z18_0, z18_1⟩⟩, by omega, τ, ⟨hv3_1_14, hv3_2_15, hv3_3_16, hv3_4_17, hv3_5_18, hv3_6_19, hv3_7_20, hv3_8_21, hv3_9_22, hv3_10_23, hv3_11_24⟩⟩
    · have hs10 := num_some hv10
      have hq10 : tkE lt N (tkE lt N (q)) ≤ N := (tkE_b lt hq3).2
      have htf := tsp_b lt hq3
      refine x_istore_n (L' := fun x2_13 => [(2, .int x2_13), (1, .int (nI v3)), (0, .ref 12)]) (q := 14) dX7_readWorld_13 rfl (by decide) (fun _ => rfl) (fun x2_13 ex2_13 => ?_)
      obtain rfl : x2_13 = nI v10 := ex2_13
      refine x_aload_n (q := 15) dX7_readWorld_14 rfl rfl ?_
      refine x_iconst (v := 0) (q := 16) dX7_readWorld_15 rfl (by decide) ?_
      refine x_bipush (v := 9) (q := 18) dX7_readWorld_16 rfl (by decide) ?_
      refine x_callV (q := 21) (ci := 7) (c_take_f hn hN hq10 ⟨z10_0, z10_1⟩ (m1ne (by omega))) eX7_readWorld_137 gX7_readWorld_X7_takeNumber z10_0 (by omega) rfl rfl rfl (Nat.le_of_ble_eq_true rfl) ⟨Nat.le_refl _, Nat.le_refl _⟩ dX7_readWorld_18 rfl rfl (fun r18 M18 p18 => ?_)
      obtain ⟨rfl, rfl⟩ := p18
      refine x_istore_n (L' := fun x3_21 => [(3, .int x3_21), (2, .int (nI v10)), (1, .int (nI v3)), (0, .ref 12)]) (q := 22) dX7_readWorld_21 rfl (by decide) (fun _ => rfl) (fun x3_21 ex3_21 => ?_)
      obtain rfl : x3_21 = -1 := ex3_21
      refine x_aload_n (q := 23) dX7_readWorld_22 rfl rfl ?_
      refine x_getf (C := RX7) (T := TX7) (N := 8) (k := 7) (q := 26) z10_0 (by omega) rfl hiX7 (by decide) (by decide +kernel) rfl dX7_readWorld_23 rfl ?_
      refine x_iconst (v := -1) (q := 27) dX7_readWorld_26 rfl (by decide) ?_
      refine x_icmp_ne (t := 40) (q := 30) dX7_readWorld_27 (by decide) rfl (fun c27 => ?_) (fun c27 => absurd c27 (m1ne (by omega)))
      refine x_vret dX7_readWorld_40 rfl rfl (Nat.le_refl _) ?_
      have hv2_1_14 := ((fr10 (14) (by omega)).trans ((fr3 (14) (by omega)).trans dp0))
      have hv2_2_15 := ((fr10 (15) (by omega)).trans ((fr3 (15) (by omega)).trans dp1))
      have hv2_3_16 := ((fr10 (16) (by omega)).trans ((fr3 (16) (by omega)).trans dp2))
      have hv2_4_17 := ((fr10 (17) (by omega)).trans ((fr3 (17) (by omega)).trans dp3))
      have hv2_5_18 := ((fr10 (18) (by omega)).trans ((fr3 (18) (by omega)).trans dp4))
      have hv2_6_19 := ((fr10 (19) (by omega)).trans ((fr3 (19) (by omega)).trans dp5))
      have hv2_7_20 := ((fr10 (20) (by omega)).trans ((fr3 (20) (by omega)).trans dp6))
      have hv2_8_21 := ((fr10 (21) (by omega)).trans ((fr3 (21) (by omega)).trans dp7))
      have hv2_9_22 := ((fr10 (22) (by omega)).trans ((fr3 (22) (by omega)).trans dp8))
      have hv2_10_23 := ((fr10 (23) (by omega)).trans ((fr3 (23) (by omega)).trans dp9))
      have hv2_11_24 := ((fr10 (24) (by omega)).trans ((fr3 (24) (by omega)).trans dp10))
      refine ⟨rfl, ?_, (fun j hj => ((fr10 j (by omega)).trans ((fr3 j (by omega)).trans rfl)))⟩
      show rdP lt N cl τ (rdB lt N P 10 q) _
      unfold rdB
      rw [if_neg (by decide), if_neg (by decide), if_neg (by decide), if_neg (by decide), if_pos (by decide), nB_s hv3, nB_s hv10, if_pos (show v10 = v3 from (nIne (by omega) (by omega)).mp eu10)]
      exact ⟨⟨_, ⟨z10_0, z10_1⟩⟩, by omega, τ, ⟨hv2_1_14, hv2_2_15, hv2_3_16, hv2_4_17, hv2_5_18, hv2_6_19, hv2_7_20, hv2_8_21, hv2_9_22, hv2_10_23, hv2_11_24⟩⟩
    · have htf := tsp_b lt hq3
      refine x_istore_n (L' := fun x2_13 => [(2, .int x2_13), (1, .int (nI v3)), (0, .ref 12)]) (q := 14) dX7_readWorld_13 rfl (by decide) (fun _ => rfl) (fun x2_13 ex2_13 => ?_)
      obtain rfl : x2_13 = -1 := ex2_13
      refine x_aload_n (q := 15) dX7_readWorld_14 rfl rfl ?_
      refine x_iconst (v := 0) (q := 16) dX7_readWorld_15 rfl (by decide) ?_
      refine x_bipush (v := 9) (q := 18) dX7_readWorld_16 rfl (by decide) ?_
      refine x_callV (q := 21) (ci := 7) (c_take_f hn hN hq3 ⟨z10_0, z10_1⟩ (m1ne (by omega))) eX7_readWorld_137 gX7_readWorld_X7_takeNumber z10_0 (by omega) rfl rfl rfl (Nat.le_of_ble_eq_true rfl) ⟨Nat.le_refl _, Nat.le_refl _⟩ dX7_readWorld_18 rfl rfl (fun r18 M18 p18 => ?_)
      obtain ⟨rfl, rfl⟩ := p18
      refine x_istore_n (L' := fun x3_21 => [(3, .int x3_21), (2, .int (-1)), (1, .int (nI v3)), (0, .ref 12)]) (q := 22) dX7_readWorld_21 rfl (by decide) (fun _ => rfl) (fun x3_21 ex3_21 => ?_)
      obtain rfl : x3_21 = -1 := ex3_21
      refine x_aload_n (q := 23) dX7_readWorld_22 rfl rfl ?_
      refine x_getf (C := RX7) (T := TX7) (N := 8) (k := 7) (q := 26) z10_0 (by omega) rfl hiX7 (by decide) (by decide +kernel) rfl dX7_readWorld_23 rfl ?_
      refine x_iconst (v := -1) (q := 27) dX7_readWorld_26 rfl (by decide) ?_
      refine x_icmp_ne (t := 40) (q := 30) dX7_readWorld_27 (by decide) rfl (fun c27 => ?_) (fun c27 => absurd c27 (m1ne (by omega)))
      refine x_vret dX7_readWorld_40 rfl rfl (Nat.le_refl _) ?_
      have hv2_1_14 := ((fr10 (14) (by omega)).trans ((fr3 (14) (by omega)).trans dp0))
      have hv2_2_15 := ((fr10 (15) (by omega)).trans ((fr3 (15) (by omega)).trans dp1))
      have hv2_3_16 := ((fr10 (16) (by omega)).trans ((fr3 (16) (by omega)).trans dp2))
      have hv2_4_17 := ((fr10 (17) (by omega)).trans ((fr3 (17) (by omega)).trans dp3))
      have hv2_5_18 := ((fr10 (18) (by omega)).trans ((fr3 (18) (by omega)).trans dp4))
      have hv2_6_19 := ((fr10 (19) (by omega)).trans ((fr3 (19) (by omega)).trans dp5))
      have hv2_7_20 := ((fr10 (20) (by omega)).trans ((fr3 (20) (by omega)).trans dp6))
      have hv2_8_21 := ((fr10 (21) (by omega)).trans ((fr3 (21) (by omega)).trans dp7))
      have hv2_9_22 := ((fr10 (22) (by omega)).trans ((fr3 (22) (by omega)).trans dp8))
      have hv2_10_23 := ((fr10 (23) (by omega)).trans ((fr3 (23) (by omega)).trans dp9))
      have hv2_11_24 := ((fr10 (24) (by omega)).trans ((fr3 (24) (by omega)).trans dp10))
      refine ⟨rfl, ?_, (fun j hj => ((fr10 j (by omega)).trans ((fr3 j (by omega)).trans rfl)))⟩
      show rdP lt N cl τ (rdB lt N P 10 q) _
      unfold rdB
      rw [if_neg (by decide), if_neg (by decide), if_neg (by decide), if_neg (by decide), if_pos (by decide), nB_s hv3, nB_n hv10]
      exact ⟨⟨_, ⟨z10_0, z10_1⟩⟩, by omega, τ, ⟨hv2_1_14, hv2_2_15, hv2_3_16, hv2_4_17, hv2_5_18, hv2_6_19, hv2_7_20, hv2_8_21, hv2_9_22, hv2_10_23, hv2_11_24⟩⟩
  · have htf := tsp_b lt hq
    refine x_istore_n (L' := fun x1_6 => [(1, .int x1_6), (0, .ref 12)]) (q := 7) dX7_readWorld_6 rfl (by decide) (fun _ => rfl) (fun x1_6 ex1_6 => ?_)
    obtain rfl : x1_6 = -1 := ex1_6
    refine x_aload_n (q := 8) dX7_readWorld_7 rfl rfl ?_
    refine x_iload_n (q := 9) dX7_readWorld_8 rfl rfl ?_
    refine x_iconst (v := 3) (q := 10) dX7_readWorld_9 rfl (by decide) ?_
    refine x_callV (q := 13) (ci := 7) (c_unlike_f hn hN hq ⟨z3_0, z3_1⟩ (m1ne (by omega))) eX7_readWorld_141 gX7_readWorld_X7_takeNumberUnlike z3_0 (by omega) rfl rfl rfl (Nat.le_of_ble_eq_true rfl) ⟨Nat.le_refl _, Nat.le_refl _⟩ dX7_readWorld_10 rfl rfl (fun r10 M10 p10 => ?_)
    obtain ⟨rfl, rfl⟩ := p10
    refine x_istore_n (L' := fun x2_13 => [(2, .int x2_13), (1, .int (-1)), (0, .ref 12)]) (q := 14) dX7_readWorld_13 rfl (by decide) (fun _ => rfl) (fun x2_13 ex2_13 => ?_)
    obtain rfl : x2_13 = -1 := ex2_13
    refine x_aload_n (q := 15) dX7_readWorld_14 rfl rfl ?_
    refine x_iconst (v := 0) (q := 16) dX7_readWorld_15 rfl (by decide) ?_
    refine x_bipush (v := 9) (q := 18) dX7_readWorld_16 rfl (by decide) ?_
    refine x_callV (q := 21) (ci := 7) (c_take_f hn hN hq ⟨z3_0, z3_1⟩ (m1ne (by omega))) eX7_readWorld_137 gX7_readWorld_X7_takeNumber z3_0 (by omega) rfl rfl rfl (Nat.le_of_ble_eq_true rfl) ⟨Nat.le_refl _, Nat.le_refl _⟩ dX7_readWorld_18 rfl rfl (fun r18 M18 p18 => ?_)
    obtain ⟨rfl, rfl⟩ := p18
    refine x_istore_n (L' := fun x3_21 => [(3, .int x3_21), (2, .int (-1)), (1, .int (-1)), (0, .ref 12)]) (q := 22) dX7_readWorld_21 rfl (by decide) (fun _ => rfl) (fun x3_21 ex3_21 => ?_)
    obtain rfl : x3_21 = -1 := ex3_21
    refine x_aload_n (q := 23) dX7_readWorld_22 rfl rfl ?_
    refine x_getf (C := RX7) (T := TX7) (N := 8) (k := 7) (q := 26) z3_0 (by omega) rfl hiX7 (by decide) (by decide +kernel) rfl dX7_readWorld_23 rfl ?_
    refine x_iconst (v := -1) (q := 27) dX7_readWorld_26 rfl (by decide) ?_
    refine x_icmp_ne (t := 40) (q := 30) dX7_readWorld_27 (by decide) rfl (fun c27 => ?_) (fun c27 => absurd c27 (m1ne (by omega)))
    refine x_vret dX7_readWorld_40 rfl rfl (Nat.le_refl _) ?_
    have hv1_1_14 := ((fr3 (14) (by omega)).trans dp0)
    have hv1_2_15 := ((fr3 (15) (by omega)).trans dp1)
    have hv1_3_16 := ((fr3 (16) (by omega)).trans dp2)
    have hv1_4_17 := ((fr3 (17) (by omega)).trans dp3)
    have hv1_5_18 := ((fr3 (18) (by omega)).trans dp4)
    have hv1_6_19 := ((fr3 (19) (by omega)).trans dp5)
    have hv1_7_20 := ((fr3 (20) (by omega)).trans dp6)
    have hv1_8_21 := ((fr3 (21) (by omega)).trans dp7)
    have hv1_9_22 := ((fr3 (22) (by omega)).trans dp8)
    have hv1_10_23 := ((fr3 (23) (by omega)).trans dp9)
    have hv1_11_24 := ((fr3 (24) (by omega)).trans dp10)
    refine ⟨rfl, ?_, (fun j hj => ((fr3 j (by omega)).trans rfl))⟩
    show rdP lt N cl τ (rdB lt N P 10 q) _
    unfold rdB
    rw [if_neg (by decide), if_neg (by decide), if_neg (by decide), if_neg (by decide), if_pos (by decide), nB_n hv3]
    exact ⟨⟨_, ⟨z3_0, z3_1⟩⟩, by omega, τ, ⟨hv1_1_14, hv1_2_15, hv1_3_16, hv1_4_17, hv1_5_18, hv1_6_19, hv1_7_20, hv1_8_21, hv1_9_22, hv1_10_23, hv1_11_24⟩⟩

