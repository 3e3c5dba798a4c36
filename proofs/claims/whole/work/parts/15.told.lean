/-- the bit y of x, as both programs read it -/
def bo (x y : Int32) : Int32 := (x >>> (y &&& 31)) &&& 1
def N32 (x : Int32) : Nat := x.toNatClampNeg
theorem xinl {x : Int32} {n : Nat} (h : decide (¬ (x < 0 ∨ n ≤ x.toNatClampNeg)) = true) : vp_in x n := by unfold vp_in; exact of_decide_eq_true h
def tStill (t : Nat → Nat → Int32) : Nat → Nat → Int32 := fun i => if i = 13 then nI else if i = 14 then (fun _ => 0) else t i
def tNone (t : Nat → Nat → Int32) : Nat → Nat → Int32 := fun i j => if i = 0 ∨ i = 3 ∨ i = 8 ∨ i = 9 then 0 else if i = 12 then 60 else tStill t i j
def tOne (t : Nat → Nat → Int32) (k : Int32) : Nat → Nat → Int32 := fun i => if i = 0 then (fun _ => t 0 0 + 1) else if i = 1 then upd (t 1) (t 0 0).toNatClampNeg k else if i = 2 then upd (t 2) (t 0 0).toNatClampNeg 0 else t i
def tWork (t : Nat → Nat → Int32) (a b c d : Int32) : Nat → Nat → Int32 := fun i => if i = 3 then (fun _ => t 3 0 + 1) else if i = 4 then upd (t 4) (t 3 0).toNatClampNeg a else if i = 5 then upd (t 5) (t 3 0).toNatClampNeg b else if i = 6 then upd (t 6) (t 3 0).toNatClampNeg c else if i = 7 then upd (t 7) (t 3 0).toNatClampNeg d else t i
def tGood (t : Nat → Nat → Int32) (a b g : Int32) : Nat → Nat → Int32 := fun i => if i = 8 then (fun _ => t 8 0 + 1) else if i = 9 then (fun _ => (t 9 0 &&& ((1 <<< (t 8 0 &&& 31)) ^^^ -1)) ||| (g <<< (t 8 0 &&& 31))) else if i = 10 then upd (t 10) (t 8 0).toNatClampNeg a else if i = 11 then upd (t 11) (t 8 0).toNatClampNeg b else t i
def tPrice (t : Nat → Nat → Int32) (g c : Int32) : Int32 := if bo (t 9 0) g = 1 then t 10 g.toNatClampNeg + t 11 g.toNatClampNeg * c else if 0 < t 10 g.toNatClampNeg - t 11 g.toNatClampNeg * c then t 10 g.toNatClampNeg - t 11 g.toNatClampNeg * c else 0
def tSkill (t : Nat → Nat → Int32) (a : Int32) : Int32 := if t 1 a.toNatClampNeg = 3 then 7 else 1 <<< (t 1 a.toNatClampNeg &&& 31)
def tLike (t : Nat → Nat → Int32) (a b : Int32) : Prop := bo (t 2 a.toNatClampNeg) b = 1 ∧ bo (t 2 b.toNatClampNeg) a = 1
def tw (t : Nat → Nat → Int32) : Nat → Nat → Nat → Int32
  | 0 => t
  | k + 1 => fun i => if i = 13 then upd (tw t k 13) (nI k).toNatClampNeg (nI k) else if i = 14 then upd (tw t k 14) (nI k).toNatClampNeg 0 else tw t k i
set_option maxHeartbeats 4000000 in
set_option maxRecDepth 100000 in
theorem c_Told_still {n : Nat} {M : Nat → xE} {p : Nat} {t : Nat → Nat → Int32} (hp : p + 10 < n) (hT : oX8 p t M) : xMet mX8_tellStill [.ref p] n M (fun r M' => none = r ∧ oX8 p (tStill t) M' ∧ xfr p (p + 11) M M') := by
  obtain ⟨tp0, tp1, tp2, tp3, tp4, tp5, tp6, tp7, tp8, tp9, tp10⟩ := hT
  refine xMet.of _ (by decide) rfl (Nat.le_of_ble_eq_true rfl) ?_
  refine x_iconst (v := 0) (q := 1) dX8_tellStill_0 rfl (by decide) ?_
  refine x_istore_n (L' := fun x1_1 => [(1, .int x1_1), (0, .ref p)]) (q := 2) dX8_tellStill_1 rfl (by decide) (fun _ => rfl) (fun x1_1 ex1_1 => ?_)
  obtain rfl : x1_1 = 0 := ex1_1
  refine x_iload_n (q := 3) dX8_tellStill_2 rfl rfl ?_
  refine x_iconst (v := 4) (q := 4) dX8_tellStill_3 rfl (by decide) ?_
  refine x_icmp_ge (t := 20) (q := 7) dX8_tellStill_4 (by decide) rfl (fun c4 => absurd c4 (by decide)) (fun c4 => ?_)
  refine x_aload_n (q := 8) dX8_tellStill_7 rfl rfl ?_
  refine x_iload_n (q := 9) dX8_tellStill_8 rfl rfl ?_
  refine x_iload_n (q := 10) dX8_tellStill_9 rfl rfl ?_
  refine x_iconst (v := 0) (q := 11) dX8_tellStill_10 rfl (by decide) ?_
  refine x_callV (q := 14) (ci := 8) (c_Told_world (p := p) (t := tw t 0) (a := 0) (b := 0) (c := 0) (by omega) ⟨tp0, tp1, tp2, tp3, tp4, tp5, tp6, tp7, tp8, tp9, tp10⟩ (xinl (by decide +kernel))) eX8_tellStill_64 gX8_tellStill_X8_tellWorld tp0 (by omega) rfl rfl rfl (Nat.le_of_ble_eq_true rfl) ⟨Nat.le_refl _, Nat.le_refl _⟩ dX8_tellStill_11 rfl rfl (fun r11 M11 p11 => ?_)
  obtain ⟨rfl, ⟨v11_0_0, v11_0_1, v11_0_2, v11_0_3, v11_0_4, v11_0_5, v11_0_6, v11_0_7, v11_0_8, v11_0_9, v11_0_10⟩, fr11_0⟩ := p11
  refine x_iinc (L' := fun x1_14 => [(1, .int x1_14), (0, .ref p)]) (q := 17) dX8_tellStill_14 rfl rfl (by decide) (fun _ => rfl) (fun x1_14 ex1_14 => ?_)
  obtain rfl : x1_14 = 1 := ex1_14.trans (by decide)
  refine x_goto (q := 2) dX8_tellStill_17 (by decide) ?_
  refine x_iload_n (q := 3) dX8_tellStill_2 rfl rfl ?_
  refine x_iconst (v := 4) (q := 4) dX8_tellStill_3 rfl (by decide) ?_
  refine x_icmp_ge (t := 20) (q := 7) dX8_tellStill_4 (by decide) rfl (fun c4 => absurd c4 (by decide)) (fun c4 => ?_)
  refine x_aload_n (q := 8) dX8_tellStill_7 rfl rfl ?_
  refine x_iload_n (q := 9) dX8_tellStill_8 rfl rfl ?_
  refine x_iload_n (q := 10) dX8_tellStill_9 rfl rfl ?_
  refine x_iconst (v := 0) (q := 11) dX8_tellStill_10 rfl (by decide) ?_
  refine x_callV (q := 14) (ci := 8) (c_Told_world (p := p) (t := tw t 1) (a := 1) (b := 1) (c := 0) (by omega) ⟨v11_0_0, v11_0_1, v11_0_2, v11_0_3, v11_0_4, v11_0_5, v11_0_6, v11_0_7, v11_0_8, v11_0_9, v11_0_10⟩ (xinl (by decide +kernel))) eX8_tellStill_64 gX8_tellStill_X8_tellWorld v11_0_0 (by omega) rfl rfl rfl (Nat.le_of_ble_eq_true rfl) ⟨Nat.le_refl _, Nat.le_refl _⟩ dX8_tellStill_11 rfl rfl (fun r11 M11 p11 => ?_)
  obtain ⟨rfl, ⟨v11_1_0, v11_1_1, v11_1_2, v11_1_3, v11_1_4, v11_1_5, v11_1_6, v11_1_7, v11_1_8, v11_1_9, v11_1_10⟩, fr11_1⟩ := p11
  refine x_iinc (L' := fun x1_14 => [(1, .int x1_14), (0, .ref p)]) (q := 17) dX8_tellStill_14 rfl rfl (by decide) (fun _ => rfl) (fun x1_14 ex1_14 => ?_)
  obtain rfl : x1_14 = 2 := ex1_14.trans (by decide)
  refine x_goto (q := 2) dX8_tellStill_17 (by decide) ?_
  refine x_iload_n (q := 3) dX8_tellStill_2 rfl rfl ?_
  refine x_iconst (v := 4) (q := 4) dX8_tellStill_3 rfl (by decide) ?_
  refine x_icmp_ge (t := 20) (q := 7) dX8_tellStill_4 (by decide) rfl (fun c4 => absurd c4 (by decide)) (fun c4 => ?_)
  refine x_aload_n (q := 8) dX8_tellStill_7 rfl rfl ?_
  refine x_iload_n (q := 9) dX8_tellStill_8 rfl rfl ?_
  refine x_iload_n (q := 10) dX8_tellStill_9 rfl rfl ?_
  refine x_iconst (v := 0) (q := 11) dX8_tellStill_10 rfl (by decide) ?_
  refine x_callV (q := 14) (ci := 8) (c_Told_world (p := p) (t := tw t 2) (a := 2) (b := 2) (c := 0) (by omega) ⟨v11_1_0, v11_1_1, v11_1_2, v11_1_3, v11_1_4, v11_1_5, v11_1_6, v11_1_7, v11_1_8, v11_1_9, v11_1_10⟩ (xinl (by decide +kernel))) eX8_tellStill_64 gX8_tellStill_X8_tellWorld v11_1_0 (by omega) rfl rfl rfl (Nat.le_of_ble_eq_true rfl) ⟨Nat.le_refl _, Nat.le_refl _⟩ dX8_tellStill_11 rfl rfl (fun r11 M11 p11 => ?_)
  obtain ⟨rfl, ⟨v11_2_0, v11_2_1, v11_2_2, v11_2_3, v11_2_4, v11_2_5, v11_2_6, v11_2_7, v11_2_8, v11_2_9, v11_2_10⟩, fr11_2⟩ := p11
  refine x_iinc (L' := fun x1_14 => [(1, .int x1_14), (0, .ref p)]) (q := 17) dX8_tellStill_14 rfl rfl (by decide) (fun _ => rfl) (fun x1_14 ex1_14 => ?_)
  obtain rfl : x1_14 = 3 := ex1_14.trans (by decide)
  refine x_goto (q := 2) dX8_tellStill_17 (by decide) ?_
  refine x_iload_n (q := 3) dX8_tellStill_2 rfl rfl ?_
  refine x_iconst (v := 4) (q := 4) dX8_tellStill_3 rfl (by decide) ?_
  refine x_icmp_ge (t := 20) (q := 7) dX8_tellStill_4 (by decide) rfl (fun c4 => absurd c4 (by decide)) (fun c4 => ?_)
  refine x_aload_n (q := 8) dX8_tellStill_7 rfl rfl ?_
  refine x_iload_n (q := 9) dX8_tellStill_8 rfl rfl ?_
  refine x_iload_n (q := 10) dX8_tellStill_9 rfl rfl ?_
  refine x_iconst (v := 0) (q := 11) dX8_tellStill_10 rfl (by decide) ?_
  refine x_callV (q := 14) (ci := 8) (c_Told_world (p := p) (t := tw t 3) (a := 3) (b := 3) (c := 0) (by omega) ⟨v11_2_0, v11_2_1, v11_2_2, v11_2_3, v11_2_4, v11_2_5, v11_2_6, v11_2_7, v11_2_8, v11_2_9, v11_2_10⟩ (xinl (by decide +kernel))) eX8_tellStill_64 gX8_tellStill_X8_tellWorld v11_2_0 (by omega) rfl rfl rfl (Nat.le_of_ble_eq_true rfl) ⟨Nat.le_refl _, Nat.le_refl _⟩ dX8_tellStill_11 rfl rfl (fun r11 M11 p11 => ?_)
  obtain ⟨rfl, ⟨v11_3_0, v11_3_1, v11_3_2, v11_3_3, v11_3_4, v11_3_5, v11_3_6, v11_3_7, v11_3_8, v11_3_9, v11_3_10⟩, fr11_3⟩ := p11
  refine x_iinc (L' := fun x1_14 => [(1, .int x1_14), (0, .ref p)]) (q := 17) dX8_tellStill_14 rfl rfl (by decide) (fun _ => rfl) (fun x1_14 ex1_14 => ?_)
  obtain rfl : x1_14 = 4 := ex1_14.trans (by decide)
  refine x_goto (q := 2) dX8_tellStill_17 (by decide) ?_
  refine x_iload_n (q := 3) dX8_tellStill_2 rfl rfl ?_
  refine x_iconst (v := 4) (q := 4) dX8_tellStill_3 rfl (by decide) ?_
  refine x_icmp_ge (t := 20) (q := 7) dX8_tellStill_4 (by decide) rfl (fun c4 => ?_) (fun c4 => absurd c4 (by decide))
  refine x_fixI (f' := nI) v11_3_9 (by omega) (fun j hj => by rcases (show j = 0 ∨ j = 1 ∨ j = 2 ∨ j = 3 by omega) with rfl | rfl | rfl | rfl <;> rfl) (fun Mf9 wf9 of9 => ?_)
  have hv5_1_p10 := ((of9 (p + 10) (by omega)).trans v11_3_10)
  refine x_fixI (f' := fun _ => 0) hv5_1_p10 (by omega) (fun j hj => by rcases (show j = 0 ∨ j = 1 ∨ j = 2 ∨ j = 3 by omega) with rfl | rfl | rfl | rfl <;> rfl) (fun Mf10 wf10 of10 => ?_)
  refine x_vret dX8_tellStill_20 rfl rfl (Nat.le_refl _) ?_
  have hv6_2_p := ((of10 (p) (by omega)).trans ((of9 (p) (by omega)).trans v11_3_0))
  have hv6_3_p1 := ((of10 (p + 1) (by omega)).trans ((of9 (p + 1) (by omega)).trans v11_3_1))
  have hv6_4_p2 := ((of10 (p + 2) (by omega)).trans ((of9 (p + 2) (by omega)).trans v11_3_2))
  have hv6_5_p3 := ((of10 (p + 3) (by omega)).trans ((of9 (p + 3) (by omega)).trans v11_3_3))
  have hv6_6_p4 := ((of10 (p + 4) (by omega)).trans ((of9 (p + 4) (by omega)).trans v11_3_4))
  have hv6_7_p5 := ((of10 (p + 5) (by omega)).trans ((of9 (p + 5) (by omega)).trans v11_3_5))
  have hv6_8_p6 := ((of10 (p + 6) (by omega)).trans ((of9 (p + 6) (by omega)).trans v11_3_6))
  have hv6_9_p7 := ((of10 (p + 7) (by omega)).trans ((of9 (p + 7) (by omega)).trans v11_3_7))
  have hv6_10_p8 := ((of10 (p + 8) (by omega)).trans ((of9 (p + 8) (by omega)).trans v11_3_8))
  have hv6_11_p9 := ((of10 (p + 9) (by omega)).trans wf9)
  exact ⟨rfl, ⟨hv6_2_p, hv6_3_p1, hv6_4_p2, hv6_5_p3, hv6_6_p4, hv6_7_p5, hv6_8_p6, hv6_9_p7, hv6_10_p8, hv6_11_p9, wf10⟩, (fun j hj => ((of10 j (by omega)).trans ((of9 j (by omega)).trans ((fr11_3 j (by omega)).trans ((fr11_2 j (by omega)).trans ((fr11_1 j (by omega)).trans ((fr11_0 j (by omega)).trans rfl)))))))⟩

set_option maxHeartbeats 4000000 in
set_option maxRecDepth 100000 in
theorem c_Told_none {n : Nat} {M : Nat → xE} {p : Nat} {t : Nat → Nat → Int32} (hp : p + 10 < n) (hT : oX8 p t M) : xMet mX8_tellNothing [.ref p] n M (fun r M' => none = r ∧ oX8 p (tNone t) M' ∧ xfr p (p + 11) M M') := by
  obtain ⟨tp0, tp1, tp2, tp3, tp4, tp5, tp6, tp7, tp8, tp9, tp10⟩ := hT
  have hiX8 : ∀ w ∈ wsX80, w ∈ wsX8_tellNothing := by decide +kernel
  refine xMet.of _ (by decide) rfl (Nat.le_of_ble_eq_true rfl) ?_
  refine x_aload_n (q := 1) dX8_tellNothing_0 rfl rfl ?_
  refine x_iconst (v := 0) (q := 2) dX8_tellNothing_1 rfl (by decide) ?_
  refine x_put (C := RX8) (T := TX8) (N := 15) (k := 0) (q := 5) (ty := .int) tyX8_ok nmX8 tp0 (by omega) rfl hiX8 (by decide) (by decide +kernel) rfl (by decide +kernel) (fun _ => rfl) (fun _ => rfl) (Nat.le_of_ble_eq_true rfl) dX8_tellNothing_2 rfl (fun M2 w2 o2 => ?_)
  refine x_aload_n (q := 6) dX8_tellNothing_5 rfl rfl ?_
  refine x_iconst (v := 0) (q := 7) dX8_tellNothing_6 rfl (by decide) ?_
  refine x_put (C := RX8) (T := TX8) (N := 15) (k := 3) (q := 10) (ty := .int) tyX8_ok nmX8 w2 (by omega) rfl hiX8 (by decide) (by decide +kernel) rfl (by decide +kernel) (fun _ => rfl) (fun _ => rfl) (Nat.le_of_ble_eq_true rfl) dX8_tellNothing_7 rfl (fun M7 w7 o7 => ?_)
  refine x_aload_n (q := 11) dX8_tellNothing_10 rfl rfl ?_
  refine x_iconst (v := 0) (q := 12) dX8_tellNothing_11 rfl (by decide) ?_
  refine x_put (C := RX8) (T := TX8) (N := 15) (k := 8) (q := 15) (ty := .int) tyX8_ok nmX8 w7 (by omega) rfl hiX8 (by decide) (by decide +kernel) rfl (by decide +kernel) (fun _ => rfl) (fun _ => rfl) (Nat.le_of_ble_eq_true rfl) dX8_tellNothing_12 rfl (fun M12 w12 o12 => ?_)
  refine x_aload_n (q := 16) dX8_tellNothing_15 rfl rfl ?_
  refine x_iconst (v := 0) (q := 17) dX8_tellNothing_16 rfl (by decide) ?_
  refine x_put (C := RX8) (T := TX8) (N := 15) (k := 9) (q := 20) (ty := .int) tyX8_ok nmX8 w12 (by omega) rfl hiX8 (by decide) (by decide +kernel) rfl (by decide +kernel) (fun _ => rfl) (fun _ => rfl) (Nat.le_of_ble_eq_true rfl) dX8_tellNothing_17 rfl (fun M17 w17 o17 => ?_)
  refine x_aload_n (q := 21) dX8_tellNothing_20 rfl rfl ?_
  refine x_bipush (v := 60) (q := 23) dX8_tellNothing_21 rfl (by decide) ?_
  refine x_put (C := RX8) (T := TX8) (N := 15) (k := 12) (q := 26) (ty := .int) tyX8_ok nmX8 w17 (by omega) rfl hiX8 (by decide) (by decide +kernel) rfl (by decide +kernel) (fun _ => rfl) (fun _ => rfl) (Nat.le_of_ble_eq_true rfl) dX8_tellNothing_23 rfl (fun M23 w23 o23 => ?_)
  refine x_aload_n (q := 27) dX8_tellNothing_26 rfl rfl ?_
  have hv5_1_p1 := ((o23 (p + 1) (by omega)).trans ((o17 (p + 1) (by omega)).trans ((o12 (p + 1) (by omega)).trans ((o7 (p + 1) (by omega)).trans ((o2 (p + 1) (by omega)).trans tp1)))))
  have hv5_2_p2 := ((o23 (p + 2) (by omega)).trans ((o17 (p + 2) (by omega)).trans ((o12 (p + 2) (by omega)).trans ((o7 (p + 2) (by omega)).trans ((o2 (p + 2) (by omega)).trans tp2)))))
  have hv5_3_p3 := ((o23 (p + 3) (by omega)).trans ((o17 (p + 3) (by omega)).trans ((o12 (p + 3) (by omega)).trans ((o7 (p + 3) (by omega)).trans ((o2 (p + 3) (by omega)).trans tp3)))))
  have hv5_4_p4 := ((o23 (p + 4) (by omega)).trans ((o17 (p + 4) (by omega)).trans ((o12 (p + 4) (by omega)).trans ((o7 (p + 4) (by omega)).trans ((o2 (p + 4) (by omega)).trans tp4)))))
  have hv5_5_p5 := ((o23 (p + 5) (by omega)).trans ((o17 (p + 5) (by omega)).trans ((o12 (p + 5) (by omega)).trans ((o7 (p + 5) (by omega)).trans ((o2 (p + 5) (by omega)).trans tp5)))))
  have hv5_6_p6 := ((o23 (p + 6) (by omega)).trans ((o17 (p + 6) (by omega)).trans ((o12 (p + 6) (by omega)).trans ((o7 (p + 6) (by omega)).trans ((o2 (p + 6) (by omega)).trans tp6)))))
  have hv5_7_p7 := ((o23 (p + 7) (by omega)).trans ((o17 (p + 7) (by omega)).trans ((o12 (p + 7) (by omega)).trans ((o7 (p + 7) (by omega)).trans ((o2 (p + 7) (by omega)).trans tp7)))))
  have hv5_8_p8 := ((o23 (p + 8) (by omega)).trans ((o17 (p + 8) (by omega)).trans ((o12 (p + 8) (by omega)).trans ((o7 (p + 8) (by omega)).trans ((o2 (p + 8) (by omega)).trans tp8)))))
  have hv5_9_p9 := ((o23 (p + 9) (by omega)).trans ((o17 (p + 9) (by omega)).trans ((o12 (p + 9) (by omega)).trans ((o7 (p + 9) (by omega)).trans ((o2 (p + 9) (by omega)).trans tp9)))))
  have hv5_10_p10 := ((o23 (p + 10) (by omega)).trans ((o17 (p + 10) (by omega)).trans ((o12 (p + 10) (by omega)).trans ((o7 (p + 10) (by omega)).trans ((o2 (p + 10) (by omega)).trans tp10)))))
  refine x_callV (q := 30) (ci := 8) (c_Told_still (p := p) (t := fun i j => if i = 0 ∨ i = 3 ∨ i = 8 ∨ i = 9 then 0 else if i = 12 then 60 else t i j) (by omega) ⟨w23, hv5_1_p1, hv5_2_p2, hv5_3_p3, hv5_4_p4, hv5_5_p5, hv5_6_p6, hv5_7_p7, hv5_8_p8, hv5_9_p9, hv5_10_p10⟩) eX8_tellNothing_61 gX8_tellNothing_X8_tellStill w23 (by omega) rfl rfl rfl (Nat.le_of_ble_eq_true rfl) ⟨Nat.le_refl _, Nat.le_refl _⟩ dX8_tellNothing_27 rfl rfl (fun r27 M27 p27 => ?_)
  obtain ⟨rfl, ⟨v27_5_0, v27_5_1, v27_5_2, v27_5_3, v27_5_4, v27_5_5, v27_5_6, v27_5_7, v27_5_8, v27_5_9, v27_5_10⟩, fr27_5⟩ := p27
  refine x_vret dX8_tellNothing_30 rfl rfl (Nat.le_refl _) ?_
  exact ⟨rfl, ⟨v27_5_0, v27_5_1, v27_5_2, v27_5_3, v27_5_4, v27_5_5, v27_5_6, v27_5_7, v27_5_8, v27_5_9, v27_5_10⟩, (fun j hj => ((fr27_5 j (by omega)).trans ((o23 j (by omega)).trans ((o17 j (by omega)).trans ((o12 j (by omega)).trans ((o7 j (by omega)).trans ((o2 j (by omega)).trans rfl)))))))⟩

set_option maxHeartbeats 4000000 in
set_option maxRecDepth 100000 in
theorem c_Told_one {n : Nat} {M : Nat → xE} {p : Nat} {t : Nat → Nat → Int32} (hp : p + 10 < n) (hT : oX8 p t M) {k : Int32} (hk : vp_in (t 0 0) 5) : xMet mX8_addOne [.ref p, .int k] n M (fun r M' => none = r ∧ oX8 p (tOne t k) M' ∧ xfr p (p + 11) M M') := by
  obtain ⟨tp0, tp1, tp2, tp3, tp4, tp5, tp6, tp7, tp8, tp9, tp10⟩ := hT
  have hiX8 : ∀ w ∈ wsX80, w ∈ wsX8_addOne := by decide +kernel
  refine xMet.of _ (by decide) rfl (Nat.le_of_ble_eq_true rfl) ?_
  refine x_aload_n (q := 1) dX8_addOne_0 rfl rfl ?_
  refine x_getf (C := RX8) (T := TX8) (N := 15) (k := 0) (q := 4) tp0 (by omega) rfl hiX8 (by decide) (by decide +kernel) rfl dX8_addOne_1 rfl ?_
  refine x_iconst (v := 5) (q := 5) dX8_addOne_4 rfl (by decide) ?_
  refine x_icmp_lt (t := 9) (q := 8) dX8_addOne_5 (by decide) rfl (fun c5 => ?_) (fun c5 => absurd (xlt_nle.mp ((xin (by decide)).mp hk).2) c5)
  refine x_aload_n (q := 10) dX8_addOne_9 rfl rfl ?_
  refine x_getf (C := RX8) (T := TX8) (N := 15) (k := 1) (q := 13) tp0 (by omega) rfl hiX8 (by decide) (by decide +kernel) rfl dX8_addOne_10 rfl ?_
  refine x_aload_n (q := 14) dX8_addOne_13 rfl rfl ?_
  refine x_getf (C := RX8) (T := TX8) (N := 15) (k := 0) (q := 17) tp0 (by omega) rfl hiX8 (by decide) (by decide +kernel) rfl dX8_addOne_14 rfl ?_
  refine x_iload_n (q := 18) dX8_addOne_17 rfl rfl ?_
  refine x_iast (q := 19) tp1 (by omega) hk dX8_addOne_18 rfl (fun M18 w18 o18 => ?_)
  refine x_aload_n (q := 20) dX8_addOne_19 rfl rfl ?_
  have hv1_1_p := ((o18 (p) (by omega)).trans tp0)
  refine x_getf (C := RX8) (T := TX8) (N := 15) (k := 2) (q := 23) hv1_1_p (by omega) rfl hiX8 (by decide) (by decide +kernel) rfl dX8_addOne_20 rfl ?_
  refine x_aload_n (q := 24) dX8_addOne_23 rfl rfl ?_
  refine x_getf (C := RX8) (T := TX8) (N := 15) (k := 0) (q := 27) hv1_1_p (by omega) rfl hiX8 (by decide) (by decide +kernel) rfl dX8_addOne_24 rfl ?_
  refine x_iconst (v := 0) (q := 28) dX8_addOne_27 rfl (by decide) ?_
  have hv1_2_p2 := ((o18 (p + 2) (by omega)).trans tp2)
  refine x_iast (q := 29) hv1_2_p2 (by omega) hk dX8_addOne_28 rfl (fun M28 w28 o28 => ?_)
  refine x_aload_n (q := 30) dX8_addOne_29 rfl rfl ?_
  refine x_dup (q := 31) dX8_addOne_30 rfl rfl ?_
  have hv2_3_p := ((o28 (p) (by omega)).trans hv1_1_p)
  refine x_getf (C := RX8) (T := TX8) (N := 15) (k := 0) (q := 34) hv2_3_p (by omega) rfl hiX8 (by decide) (by decide +kernel) rfl dX8_addOne_31 rfl ?_
  refine x_iconst (v := 1) (q := 35) dX8_addOne_34 rfl (by decide) ?_
  refine x_iadd (q := 36) dX8_addOne_35 rfl ?_
  refine x_put (C := RX8) (T := TX8) (N := 15) (k := 0) (q := 39) (ty := .int) tyX8_ok nmX8 hv2_3_p (by omega) rfl hiX8 (by decide) (by decide +kernel) rfl (by decide +kernel) (fun _ => rfl) (fun _ => rfl) (Nat.le_of_ble_eq_true rfl) dX8_addOne_36 rfl (fun M36 w36 o36 => ?_)
  refine x_vret dX8_addOne_39 rfl rfl (Nat.le_refl _) ?_
  have hv3_4_p1 := ((o36 (p + 1) (by omega)).trans ((o28 (p + 1) (by omega)).trans w18))
  have hv3_5_p2 := ((o36 (p + 2) (by omega)).trans w28)
  have hv3_6_p3 := ((o36 (p + 3) (by omega)).trans ((o28 (p + 3) (by omega)).trans ((o18 (p + 3) (by omega)).trans tp3)))
  have hv3_7_p4 := ((o36 (p + 4) (by omega)).trans ((o28 (p + 4) (by omega)).trans ((o18 (p + 4) (by omega)).trans tp4)))
  have hv3_8_p5 := ((o36 (p + 5) (by omega)).trans ((o28 (p + 5) (by omega)).trans ((o18 (p + 5) (by omega)).trans tp5)))
  have hv3_9_p6 := ((o36 (p + 6) (by omega)).trans ((o28 (p + 6) (by omega)).trans ((o18 (p + 6) (by omega)).trans tp6)))
  have hv3_10_p7 := ((o36 (p + 7) (by omega)).trans ((o28 (p + 7) (by omega)).trans ((o18 (p + 7) (by omega)).trans tp7)))
  have hv3_11_p8 := ((o36 (p + 8) (by omega)).trans ((o28 (p + 8) (by omega)).trans ((o18 (p + 8) (by omega)).trans tp8)))
  have hv3_12_p9 := ((o36 (p + 9) (by omega)).trans ((o28 (p + 9) (by omega)).trans ((o18 (p + 9) (by omega)).trans tp9)))
  have hv3_13_p10 := ((o36 (p + 10) (by omega)).trans ((o28 (p + 10) (by omega)).trans ((o18 (p + 10) (by omega)).trans tp10)))
  exact ⟨rfl, ⟨w36, hv3_4_p1, hv3_5_p2, hv3_6_p3, hv3_7_p4, hv3_8_p5, hv3_9_p6, hv3_10_p7, hv3_11_p8, hv3_12_p9, hv3_13_p10⟩, (fun j hj => ((o36 j (by omega)).trans ((o28 j (by omega)).trans ((o18 j (by omega)).trans rfl))))⟩

set_option maxHeartbeats 4000000 in
set_option maxRecDepth 100000 in
theorem c_Told_work {n : Nat} {M : Nat → xE} {p : Nat} {t : Nat → Nat → Int32} (hp : p + 10 < n) (hT : oX8 p t M) {a b c d : Int32} (hk : vp_in (t 3 0) 6) : xMet mX8_addWork [.ref p, .int a, .int b, .int c, .int d] n M (fun r M' => none = r ∧ oX8 p (tWork t a b c d) M' ∧ xfr p (p + 11) M M') := by
  obtain ⟨tp0, tp1, tp2, tp3, tp4, tp5, tp6, tp7, tp8, tp9, tp10⟩ := hT
  have hiX8 : ∀ w ∈ wsX80, w ∈ wsX8_addWork := by decide +kernel
  refine xMet.of _ (by decide) rfl (Nat.le_of_ble_eq_true rfl) ?_
  refine x_aload_n (q := 1) dX8_addWork_0 rfl rfl ?_
  refine x_getf (C := RX8) (T := TX8) (N := 15) (k := 3) (q := 4) tp0 (by omega) rfl hiX8 (by decide) (by decide +kernel) rfl dX8_addWork_1 rfl ?_
  refine x_bipush (v := 6) (q := 6) dX8_addWork_4 rfl (by decide) ?_
  refine x_icmp_lt (t := 10) (q := 9) dX8_addWork_6 (by decide) rfl (fun c6 => ?_) (fun c6 => absurd (xlt_nle.mp ((xin (by decide)).mp hk).2) c6)
  refine x_aload_n (q := 11) dX8_addWork_10 rfl rfl ?_
  refine x_getf (C := RX8) (T := TX8) (N := 15) (k := 4) (q := 14) tp0 (by omega) rfl hiX8 (by decide) (by decide +kernel) rfl dX8_addWork_11 rfl ?_
  refine x_aload_n (q := 15) dX8_addWork_14 rfl rfl ?_
  refine x_getf (C := RX8) (T := TX8) (N := 15) (k := 3) (q := 18) tp0 (by omega) rfl hiX8 (by decide) (by decide +kernel) rfl dX8_addWork_15 rfl ?_
  refine x_iload_n (q := 19) dX8_addWork_18 rfl rfl ?_
  refine x_iast (q := 20) tp3 (by omega) hk dX8_addWork_19 rfl (fun M19 w19 o19 => ?_)
  refine x_aload_n (q := 21) dX8_addWork_20 rfl rfl ?_
  have hv1_1_p := ((o19 (p) (by omega)).trans tp0)
  refine x_getf (C := RX8) (T := TX8) (N := 15) (k := 5) (q := 24) hv1_1_p (by omega) rfl hiX8 (by decide) (by decide +kernel) rfl dX8_addWork_21 rfl ?_
  refine x_aload_n (q := 25) dX8_addWork_24 rfl rfl ?_
  refine x_getf (C := RX8) (T := TX8) (N := 15) (k := 3) (q := 28) hv1_1_p (by omega) rfl hiX8 (by decide) (by decide +kernel) rfl dX8_addWork_25 rfl ?_
  refine x_iload_n (q := 29) dX8_addWork_28 rfl rfl ?_
  have hv1_2_p4 := ((o19 (p + 4) (by omega)).trans tp4)
  refine x_iast (q := 30) hv1_2_p4 (by omega) hk dX8_addWork_29 rfl (fun M29 w29 o29 => ?_)
  refine x_aload_n (q := 31) dX8_addWork_30 rfl rfl ?_
  have hv2_3_p := ((o29 (p) (by omega)).trans hv1_1_p)
  refine x_getf (C := RX8) (T := TX8) (N := 15) (k := 6) (q := 34) hv2_3_p (by omega) rfl hiX8 (by decide) (by decide +kernel) rfl dX8_addWork_31 rfl ?_
  refine x_aload_n (q := 35) dX8_addWork_34 rfl rfl ?_
  refine x_getf (C := RX8) (T := TX8) (N := 15) (k := 3) (q := 38) hv2_3_p (by omega) rfl hiX8 (by decide) (by decide +kernel) rfl dX8_addWork_35 rfl ?_
  refine x_iload_n (q := 39) dX8_addWork_38 rfl rfl ?_
  have hv2_4_p5 := ((o29 (p + 5) (by omega)).trans ((o19 (p + 5) (by omega)).trans tp5))
  refine x_iast (q := 40) hv2_4_p5 (by omega) hk dX8_addWork_39 rfl (fun M39 w39 o39 => ?_)
  refine x_aload_n (q := 41) dX8_addWork_40 rfl rfl ?_
  have hv3_5_p := ((o39 (p) (by omega)).trans hv2_3_p)
  refine x_getf (C := RX8) (T := TX8) (N := 15) (k := 7) (q := 44) hv3_5_p (by omega) rfl hiX8 (by decide) (by decide +kernel) rfl dX8_addWork_41 rfl ?_
  refine x_aload_n (q := 45) dX8_addWork_44 rfl rfl ?_
  refine x_getf (C := RX8) (T := TX8) (N := 15) (k := 3) (q := 48) hv3_5_p (by omega) rfl hiX8 (by decide) (by decide +kernel) rfl dX8_addWork_45 rfl ?_
  refine x_iload (q := 50) dX8_addWork_48 rfl rfl ?_
  have hv3_6_p6 := ((o39 (p + 6) (by omega)).trans ((o29 (p + 6) (by omega)).trans ((o19 (p + 6) (by omega)).trans tp6)))
  refine x_iast (q := 51) hv3_6_p6 (by omega) hk dX8_addWork_50 rfl (fun M50 w50 o50 => ?_)
  refine x_aload_n (q := 52) dX8_addWork_51 rfl rfl ?_
  refine x_dup (q := 53) dX8_addWork_52 rfl rfl ?_
  have hv4_7_p := ((o50 (p) (by omega)).trans hv3_5_p)
  refine x_getf (C := RX8) (T := TX8) (N := 15) (k := 3) (q := 56) hv4_7_p (by omega) rfl hiX8 (by decide) (by decide +kernel) rfl dX8_addWork_53 rfl ?_
  refine x_iconst (v := 1) (q := 57) dX8_addWork_56 rfl (by decide) ?_
  refine x_iadd (q := 58) dX8_addWork_57 rfl ?_
  refine x_put (C := RX8) (T := TX8) (N := 15) (k := 3) (q := 61) (ty := .int) tyX8_ok nmX8 hv4_7_p (by omega) rfl hiX8 (by decide) (by decide +kernel) rfl (by decide +kernel) (fun _ => rfl) (fun _ => rfl) (Nat.le_of_ble_eq_true rfl) dX8_addWork_58 rfl (fun M58 w58 o58 => ?_)
  refine x_vret dX8_addWork_61 rfl rfl (Nat.le_refl _) ?_
  have hv5_8_p1 := ((o58 (p + 1) (by omega)).trans ((o50 (p + 1) (by omega)).trans ((o39 (p + 1) (by omega)).trans ((o29 (p + 1) (by omega)).trans ((o19 (p + 1) (by omega)).trans tp1)))))
  have hv5_9_p2 := ((o58 (p + 2) (by omega)).trans ((o50 (p + 2) (by omega)).trans ((o39 (p + 2) (by omega)).trans ((o29 (p + 2) (by omega)).trans ((o19 (p + 2) (by omega)).trans tp2)))))
  have hv5_10_p3 := ((o58 (p + 3) (by omega)).trans ((o50 (p + 3) (by omega)).trans ((o39 (p + 3) (by omega)).trans ((o29 (p + 3) (by omega)).trans w19))))
  have hv5_11_p4 := ((o58 (p + 4) (by omega)).trans ((o50 (p + 4) (by omega)).trans ((o39 (p + 4) (by omega)).trans w29)))
  have hv5_12_p5 := ((o58 (p + 5) (by omega)).trans ((o50 (p + 5) (by omega)).trans w39))
  have hv5_13_p6 := ((o58 (p + 6) (by omega)).trans w50)
  have hv5_14_p7 := ((o58 (p + 7) (by omega)).trans ((o50 (p + 7) (by omega)).trans ((o39 (p + 7) (by omega)).trans ((o29 (p + 7) (by omega)).trans ((o19 (p + 7) (by omega)).trans tp7)))))
  have hv5_15_p8 := ((o58 (p + 8) (by omega)).trans ((o50 (p + 8) (by omega)).trans ((o39 (p + 8) (by omega)).trans ((o29 (p + 8) (by omega)).trans ((o19 (p + 8) (by omega)).trans tp8)))))
  have hv5_16_p9 := ((o58 (p + 9) (by omega)).trans ((o50 (p + 9) (by omega)).trans ((o39 (p + 9) (by omega)).trans ((o29 (p + 9) (by omega)).trans ((o19 (p + 9) (by omega)).trans tp9)))))
  have hv5_17_p10 := ((o58 (p + 10) (by omega)).trans ((o50 (p + 10) (by omega)).trans ((o39 (p + 10) (by omega)).trans ((o29 (p + 10) (by omega)).trans ((o19 (p + 10) (by omega)).trans tp10)))))
  exact ⟨rfl, ⟨w58, hv5_8_p1, hv5_9_p2, hv5_10_p3, hv5_11_p4, hv5_12_p5, hv5_13_p6, hv5_14_p7, hv5_15_p8, hv5_16_p9, hv5_17_p10⟩, (fun j hj => ((o58 j (by omega)).trans ((o50 j (by omega)).trans ((o39 j (by omega)).trans ((o29 j (by omega)).trans ((o19 j (by omega)).trans rfl))))))⟩

set_option maxHeartbeats 4000000 in
set_option maxRecDepth 100000 in
theorem c_Told_good {n : Nat} {M : Nat → xE} {p : Nat} {t : Nat → Nat → Int32} (hp : p + 10 < n) (hT : oX8 p t M) {a b g : Int32} (hk : vp_in (t 8 0) 5) : xMet mX8_addGood [.ref p, .int a, .int b, .int g] n M (fun r M' => none = r ∧ oX8 p (tGood t a b g) M' ∧ xfr p (p + 11) M M') := by
  obtain ⟨tp0, tp1, tp2, tp3, tp4, tp5, tp6, tp7, tp8, tp9, tp10⟩ := hT
  have hiX8 : ∀ w ∈ wsX80, w ∈ wsX8_addGood := by decide +kernel
  refine xMet.of _ (by decide) rfl (Nat.le_of_ble_eq_true rfl) ?_
  refine x_aload_n (q := 1) dX8_addGood_0 rfl rfl ?_
  refine x_getf (C := RX8) (T := TX8) (N := 15) (k := 8) (q := 4) tp0 (by omega) rfl hiX8 (by decide) (by decide +kernel) rfl dX8_addGood_1 rfl ?_
  refine x_iconst (v := 5) (q := 5) dX8_addGood_4 rfl (by decide) ?_
  refine x_icmp_lt (t := 9) (q := 8) dX8_addGood_5 (by decide) rfl (fun c5 => ?_) (fun c5 => absurd (xlt_nle.mp ((xin (by decide)).mp hk).2) c5)
  refine x_aload_n (q := 10) dX8_addGood_9 rfl rfl ?_
  refine x_getf (C := RX8) (T := TX8) (N := 15) (k := 10) (q := 13) tp0 (by omega) rfl hiX8 (by decide) (by decide +kernel) rfl dX8_addGood_10 rfl ?_
  refine x_aload_n (q := 14) dX8_addGood_13 rfl rfl ?_
  refine x_getf (C := RX8) (T := TX8) (N := 15) (k := 8) (q := 17) tp0 (by omega) rfl hiX8 (by decide) (by decide +kernel) rfl dX8_addGood_14 rfl ?_
  refine x_iload_n (q := 18) dX8_addGood_17 rfl rfl ?_
  refine x_iast (q := 19) tp7 (by omega) hk dX8_addGood_18 rfl (fun M18 w18 o18 => ?_)
  refine x_aload_n (q := 20) dX8_addGood_19 rfl rfl ?_
  have hv1_1_p := ((o18 (p) (by omega)).trans tp0)
  refine x_getf (C := RX8) (T := TX8) (N := 15) (k := 11) (q := 23) hv1_1_p (by omega) rfl hiX8 (by decide) (by decide +kernel) rfl dX8_addGood_20 rfl ?_
  refine x_aload_n (q := 24) dX8_addGood_23 rfl rfl ?_
  refine x_getf (C := RX8) (T := TX8) (N := 15) (k := 8) (q := 27) hv1_1_p (by omega) rfl hiX8 (by decide) (by decide +kernel) rfl dX8_addGood_24 rfl ?_
  refine x_iload_n (q := 28) dX8_addGood_27 rfl rfl ?_
  have hv1_2_p8 := ((o18 (p + 8) (by omega)).trans tp8)
  refine x_iast (q := 29) hv1_2_p8 (by omega) hk dX8_addGood_28 rfl (fun M28 w28 o28 => ?_)
  refine x_aload_n (q := 30) dX8_addGood_29 rfl rfl ?_
  refine x_aload_n (q := 31) dX8_addGood_30 rfl rfl ?_
  have hv2_3_p := ((o28 (p) (by omega)).trans hv1_1_p)
  refine x_getf (C := RX8) (T := TX8) (N := 15) (k := 9) (q := 34) hv2_3_p (by omega) rfl hiX8 (by decide) (by decide +kernel) rfl dX8_addGood_31 rfl ?_
  refine x_iconst (v := 1) (q := 35) dX8_addGood_34 rfl (by decide) ?_
  refine x_aload_n (q := 36) dX8_addGood_35 rfl rfl ?_
  refine x_getf (C := RX8) (T := TX8) (N := 15) (k := 8) (q := 39) hv2_3_p (by omega) rfl hiX8 (by decide) (by decide +kernel) rfl dX8_addGood_36 rfl ?_
  refine x_ishl (q := 40) dX8_addGood_39 rfl ?_
  refine x_iconst (v := -1) (q := 41) dX8_addGood_40 rfl (by decide) ?_
  refine x_ixor (q := 42) dX8_addGood_41 rfl ?_
  refine x_iand (q := 43) dX8_addGood_42 rfl ?_
  refine x_iload_n (q := 44) dX8_addGood_43 rfl rfl ?_
  refine x_aload_n (q := 45) dX8_addGood_44 rfl rfl ?_
  refine x_getf (C := RX8) (T := TX8) (N := 15) (k := 8) (q := 48) hv2_3_p (by omega) rfl hiX8 (by decide) (by decide +kernel) rfl dX8_addGood_45 rfl ?_
  refine x_ishl (q := 49) dX8_addGood_48 rfl ?_
  refine x_ior (q := 50) dX8_addGood_49 rfl ?_
  refine x_put (C := RX8) (T := TX8) (N := 15) (k := 9) (q := 53) (ty := .int) tyX8_ok nmX8 hv2_3_p (by omega) rfl hiX8 (by decide) (by decide +kernel) rfl (by decide +kernel) (fun _ => rfl) (fun _ => rfl) (Nat.le_of_ble_eq_true rfl) dX8_addGood_50 rfl (fun M50 w50 o50 => ?_)
  refine x_aload_n (q := 54) dX8_addGood_53 rfl rfl ?_
  refine x_dup (q := 55) dX8_addGood_54 rfl rfl ?_
  refine x_getf (C := RX8) (T := TX8) (N := 15) (k := 8) (q := 58) w50 (by omega) rfl hiX8 (by decide) (by decide +kernel) rfl dX8_addGood_55 rfl ?_
  refine x_iconst (v := 1) (q := 59) dX8_addGood_58 rfl (by decide) ?_
  refine x_iadd (q := 60) dX8_addGood_59 rfl ?_
  refine x_put (C := RX8) (T := TX8) (N := 15) (k := 8) (q := 63) (ty := .int) tyX8_ok nmX8 w50 (by omega) rfl hiX8 (by decide) (by decide +kernel) rfl (by decide +kernel) (fun _ => rfl) (fun _ => rfl) (Nat.le_of_ble_eq_true rfl) dX8_addGood_60 rfl (fun M60 w60 o60 => ?_)
  refine x_vret dX8_addGood_63 rfl rfl (Nat.le_refl _) ?_
  have hv4_4_p1 := ((o60 (p + 1) (by omega)).trans ((o50 (p + 1) (by omega)).trans ((o28 (p + 1) (by omega)).trans ((o18 (p + 1) (by omega)).trans tp1))))
  have hv4_5_p2 := ((o60 (p + 2) (by omega)).trans ((o50 (p + 2) (by omega)).trans ((o28 (p + 2) (by omega)).trans ((o18 (p + 2) (by omega)).trans tp2))))
  have hv4_6_p3 := ((o60 (p + 3) (by omega)).trans ((o50 (p + 3) (by omega)).trans ((o28 (p + 3) (by omega)).trans ((o18 (p + 3) (by omega)).trans tp3))))
  have hv4_7_p4 := ((o60 (p + 4) (by omega)).trans ((o50 (p + 4) (by omega)).trans ((o28 (p + 4) (by omega)).trans ((o18 (p + 4) (by omega)).trans tp4))))
  have hv4_8_p5 := ((o60 (p + 5) (by omega)).trans ((o50 (p + 5) (by omega)).trans ((o28 (p + 5) (by omega)).trans ((o18 (p + 5) (by omega)).trans tp5))))
  have hv4_9_p6 := ((o60 (p + 6) (by omega)).trans ((o50 (p + 6) (by omega)).trans ((o28 (p + 6) (by omega)).trans ((o18 (p + 6) (by omega)).trans tp6))))
  have hv4_10_p7 := ((o60 (p + 7) (by omega)).trans ((o50 (p + 7) (by omega)).trans ((o28 (p + 7) (by omega)).trans w18)))
  have hv4_11_p8 := ((o60 (p + 8) (by omega)).trans ((o50 (p + 8) (by omega)).trans w28))
  have hv4_12_p9 := ((o60 (p + 9) (by omega)).trans ((o50 (p + 9) (by omega)).trans ((o28 (p + 9) (by omega)).trans ((o18 (p + 9) (by omega)).trans tp9))))
  have hv4_13_p10 := ((o60 (p + 10) (by omega)).trans ((o50 (p + 10) (by omega)).trans ((o28 (p + 10) (by omega)).trans ((o18 (p + 10) (by omega)).trans tp10))))
  exact ⟨rfl, ⟨w60, hv4_4_p1, hv4_5_p2, hv4_6_p3, hv4_7_p4, hv4_8_p5, hv4_9_p6, hv4_10_p7, hv4_11_p8, hv4_12_p9, hv4_13_p10⟩, (fun j hj => ((o60 j (by omega)).trans ((o50 j (by omega)).trans ((o28 j (by omega)).trans ((o18 j (by omega)).trans rfl)))))⟩

set_option maxHeartbeats 4000000 in
set_option maxRecDepth 100000 in
theorem c_Told_skill {n : Nat} {M : Nat → xE} {p : Nat} {t : Nat → Nat → Int32} (hp : p + 10 < n) (hT : oX8 p t M) {a : Int32} (ha : vp_in a 5) : xMet mX8_skillBitsOf [.ref p, .int a] n M (fun r M' => M = M' ∧ some (.int (tSkill t a)) = r) := by
  obtain ⟨tp0, tp1, tp2, tp3, tp4, tp5, tp6, tp7, tp8, tp9, tp10⟩ := hT
  have hiX8 : ∀ w ∈ wsX80, w ∈ wsX8_skillBitsOf := by decide +kernel
  refine xMet.of _ (by decide) rfl (Nat.le_of_ble_eq_true rfl) ?_
  refine x_aload_n (q := 1) dX8_skillBitsOf_0 rfl rfl ?_
  refine x_getf (C := RX8) (T := TX8) (N := 15) (k := 1) (q := 4) tp0 (by omega) rfl hiX8 (by decide) (by decide +kernel) rfl dX8_skillBitsOf_1 rfl ?_
  refine x_iload_n (q := 5) dX8_skillBitsOf_4 rfl rfl ?_
  refine x_iald (q := 6) tp1 (by omega) (by assumption) dX8_skillBitsOf_5 rfl ?_
  refine x_iconst (v := 3) (q := 7) dX8_skillBitsOf_6 rfl (by decide) ?_
  refine x_icmp_ne (t := 15) (q := 10) dX8_skillBitsOf_7 (by decide) rfl (fun c7 => ?_) (fun c7 => ?_)
  · refine x_iconst (v := 1) (q := 16) dX8_skillBitsOf_15 rfl (by decide) ?_
    refine x_aload_n (q := 17) dX8_skillBitsOf_16 rfl rfl ?_
    refine x_getf (C := RX8) (T := TX8) (N := 15) (k := 1) (q := 20) tp0 (by omega) rfl hiX8 (by decide) (by decide +kernel) rfl dX8_skillBitsOf_17 rfl ?_
    refine x_iload_n (q := 21) dX8_skillBitsOf_20 rfl rfl ?_
    refine x_iald (q := 22) tp1 (by omega) (by assumption) dX8_skillBitsOf_21 rfl ?_
    refine x_ishl (q := 23) dX8_skillBitsOf_22 rfl ?_
    refine x_iret dX8_skillBitsOf_23 rfl rfl (Nat.le_refl _) ?_
    exact ⟨rfl, by unfold tSkill; simp only [*, if_true, if_false]⟩
  · refine x_bipush (v := 7) (q := 12) dX8_skillBitsOf_10 rfl (by decide) ?_
    refine x_goto (q := 23) dX8_skillBitsOf_12 (by decide) ?_
    refine x_iret dX8_skillBitsOf_23 rfl rfl (Nat.le_refl _) ?_
    exact ⟨rfl, by unfold tSkill; simp only [*, if_true, if_false]⟩

set_option maxHeartbeats 4000000 in
set_option maxRecDepth 100000 in
theorem c_Told_like {n : Nat} {M : Nat → xE} {p : Nat} {t : Nat → Nat → Int32} (hp : p + 10 < n) (hT : oX8 p t M) {a b : Int32} (ha : vp_in a 5) (hb : vp_in b 5) : xMet mX8_likeOneAnother [.ref p, .int a, .int b] n M (fun r M' => M = M' ∧ xB (tLike t a b) r) := by
  obtain ⟨tp0, tp1, tp2, tp3, tp4, tp5, tp6, tp7, tp8, tp9, tp10⟩ := hT
  have hiX8 : ∀ w ∈ wsX80, w ∈ wsX8_likeOneAnother := by decide +kernel
  refine xMet.of _ (by decide) rfl (Nat.le_of_ble_eq_true rfl) ?_
  refine x_aload_n (q := 1) dX8_likeOneAnother_0 rfl rfl ?_
  refine x_getf (C := RX8) (T := TX8) (N := 15) (k := 2) (q := 4) tp0 (by omega) rfl hiX8 (by decide) (by decide +kernel) rfl dX8_likeOneAnother_1 rfl ?_
  refine x_iload_n (q := 5) dX8_likeOneAnother_4 rfl rfl ?_
  refine x_iald (q := 6) tp2 (by omega) (by assumption) dX8_likeOneAnother_5 rfl ?_
  refine x_iload_n (q := 7) dX8_likeOneAnother_6 rfl rfl ?_
  refine x_callSN (q := 10) c_bitOf eX8_likeOneAnother_74 gX8_likeOneAnother_X10_bitOf_n74 (by decide) (by decide +kernel) (by decide +kernel) rfl (Nat.le_of_ble_eq_true rfl) ⟨Nat.le_refl _, Nat.le_refl _⟩ dX8_likeOneAnother_7 rfl rfl (fun r7 M7 p7 => ?_)
  obtain ⟨rfl, rfl⟩ := p7
  refine x_iconst (v := 1) (q := 11) dX8_likeOneAnother_10 rfl (by decide) ?_
  refine x_icmp_ne (t := 32) (q := 14) dX8_likeOneAnother_11 (by decide) rfl (fun c11 => ?_) (fun c11 => ?_)
  · refine x_iconst (v := 0) (q := 33) dX8_likeOneAnother_32 rfl (by decide) ?_
    refine x_zret dX8_likeOneAnother_33 rfl rfl rfl (Nat.le_refl _) ?_
    first | exact ⟨rfl, Or.inl ⟨⟨by assumption, by assumption⟩, rfl⟩⟩ | exact ⟨rfl, Or.inr ⟨fun h => absurd h.1 (by assumption), rfl⟩⟩ | exact ⟨rfl, Or.inr ⟨fun h => absurd h.2 (by assumption), rfl⟩⟩
  · refine x_aload_n (q := 15) dX8_likeOneAnother_14 rfl rfl ?_
    refine x_getf (C := RX8) (T := TX8) (N := 15) (k := 2) (q := 18) tp0 (by omega) rfl hiX8 (by decide) (by decide +kernel) rfl dX8_likeOneAnother_15 rfl ?_
    refine x_iload_n (q := 19) dX8_likeOneAnother_18 rfl rfl ?_
    refine x_iald (q := 20) tp2 (by omega) (by assumption) dX8_likeOneAnother_19 rfl ?_
    refine x_iload_n (q := 21) dX8_likeOneAnother_20 rfl rfl ?_
    refine x_callSN (q := 24) c_bitOf eX8_likeOneAnother_74 gX8_likeOneAnother_X10_bitOf_n74 (by decide) (by decide +kernel) (by decide +kernel) rfl (Nat.le_of_ble_eq_true rfl) ⟨Nat.le_refl _, Nat.le_refl _⟩ dX8_likeOneAnother_21 rfl rfl (fun r21 M21 p21 => ?_)
    obtain ⟨rfl, rfl⟩ := p21
    refine x_iconst (v := 1) (q := 25) dX8_likeOneAnother_24 rfl (by decide) ?_
    refine x_icmp_ne (t := 32) (q := 28) dX8_likeOneAnother_25 (by decide) rfl (fun c25 => ?_) (fun c25 => ?_)
    · refine x_iconst (v := 0) (q := 33) dX8_likeOneAnother_32 rfl (by decide) ?_
      refine x_zret dX8_likeOneAnother_33 rfl rfl rfl (Nat.le_refl _) ?_
      first | exact ⟨rfl, Or.inl ⟨⟨by assumption, by assumption⟩, rfl⟩⟩ | exact ⟨rfl, Or.inr ⟨fun h => absurd h.1 (by assumption), rfl⟩⟩ | exact ⟨rfl, Or.inr ⟨fun h => absurd h.2 (by assumption), rfl⟩⟩
    · refine x_iconst (v := 1) (q := 29) dX8_likeOneAnother_28 rfl (by decide) ?_
      refine x_goto (q := 33) dX8_likeOneAnother_29 (by decide) ?_
      refine x_zret dX8_likeOneAnother_33 rfl rfl rfl (Nat.le_refl _) ?_
      first | exact ⟨rfl, Or.inl ⟨⟨by assumption, by assumption⟩, rfl⟩⟩ | exact ⟨rfl, Or.inr ⟨fun h => absurd h.1 (by assumption), rfl⟩⟩ | exact ⟨rfl, Or.inr ⟨fun h => absurd h.2 (by assumption), rfl⟩⟩

set_option maxHeartbeats 4000000 in
set_option maxRecDepth 100000 in
theorem c_Told_price {n : Nat} {M : Nat → xE} {p : Nat} {t : Nat → Nat → Int32} (hp : p + 10 < n) (hT : oX8 p t M) {g c : Int32} (ha : vp_in g 5) : xMet mX8_priceOf [.ref p, .int g, .int c] n M (fun r M' => M = M' ∧ some (.int (tPrice t g c)) = r) := by
  obtain ⟨tp0, tp1, tp2, tp3, tp4, tp5, tp6, tp7, tp8, tp9, tp10⟩ := hT
  have hiX8 : ∀ w ∈ wsX80, w ∈ wsX8_priceOf := by decide +kernel
  refine xMet.of _ (by decide) rfl (Nat.le_of_ble_eq_true rfl) ?_
  refine x_aload_n (q := 1) dX8_priceOf_0 rfl rfl ?_
  refine x_getf (C := RX8) (T := TX8) (N := 15) (k := 11) (q := 4) tp0 (by omega) rfl hiX8 (by decide) (by decide +kernel) rfl dX8_priceOf_1 rfl ?_
  refine x_iload_n (q := 5) dX8_priceOf_4 rfl rfl ?_
  refine x_iald (q := 6) tp8 (by omega) (by assumption) dX8_priceOf_5 rfl ?_
  refine x_iload_n (q := 7) dX8_priceOf_6 rfl rfl ?_
  refine x_imul (q := 8) dX8_priceOf_7 rfl ?_
  refine x_istore_n (L' := fun x3_8 => [(3, .int x3_8), (0, .ref p), (1, .int g), (2, .int c)]) (q := 9) dX8_priceOf_8 rfl (by decide) (fun _ => rfl) (fun x3_8 ex3_8 => ?_)
  refine x_aload_n (q := 10) dX8_priceOf_9 rfl rfl ?_
  refine x_getf (C := RX8) (T := TX8) (N := 15) (k := 9) (q := 13) tp0 (by omega) rfl hiX8 (by decide) (by decide +kernel) rfl dX8_priceOf_10 rfl ?_
  refine x_iload_n (q := 14) dX8_priceOf_13 rfl rfl ?_
  refine x_callSN (q := 17) c_bitOf eX8_priceOf_74 gX8_priceOf_X10_bitOf_n74 (by decide) (by decide +kernel) (by decide +kernel) rfl (Nat.le_of_ble_eq_true rfl) ⟨Nat.le_refl _, Nat.le_refl _⟩ dX8_priceOf_14 rfl rfl (fun r14 M14 p14 => ?_)
  obtain ⟨rfl, rfl⟩ := p14
  refine x_iconst (v := 1) (q := 18) dX8_priceOf_17 rfl (by decide) ?_
  refine x_icmp_ne (t := 30) (q := 21) dX8_priceOf_18 (by decide) rfl (fun c18 => ?_) (fun c18 => ?_)
  · refine x_iconst (v := 0) (q := 31) dX8_priceOf_30 rfl (by decide) ?_
    refine x_aload_n (q := 32) dX8_priceOf_31 rfl rfl ?_
    refine x_getf (C := RX8) (T := TX8) (N := 15) (k := 10) (q := 35) tp0 (by omega) rfl hiX8 (by decide) (by decide +kernel) rfl dX8_priceOf_32 rfl ?_
    refine x_iload_n (q := 36) dX8_priceOf_35 rfl rfl ?_
    refine x_iald (q := 37) tp7 (by omega) (by assumption) dX8_priceOf_36 rfl ?_
    refine x_iload_n (q := 38) dX8_priceOf_37 rfl rfl ?_
    refine x_isub (q := 39) dX8_priceOf_38 rfl ?_
    refine x_mmax (q := 42) (by decide +kernel) (by decide +kernel) (by decide +kernel) (by decide +kernel) (by decide) (Nat.le_of_ble_eq_true rfl) ⟨Nat.zero_le _, Nat.zero_le _⟩ dX8_priceOf_39 rfl ?_
    refine x_iret dX8_priceOf_42 rfl rfl (Nat.le_refl _) ?_
    refine ⟨rfl, ?_⟩
    unfold tPrice bo
    first | rw [if_neg c18, ex3_8] | rw [if_pos c18, ex3_8]
  · refine x_aload_n (q := 22) dX8_priceOf_21 rfl rfl ?_
    refine x_getf (C := RX8) (T := TX8) (N := 15) (k := 10) (q := 25) tp0 (by omega) rfl hiX8 (by decide) (by decide +kernel) rfl dX8_priceOf_22 rfl ?_
    refine x_iload_n (q := 26) dX8_priceOf_25 rfl rfl ?_
    refine x_iald (q := 27) tp7 (by omega) (by assumption) dX8_priceOf_26 rfl ?_
    refine x_iload_n (q := 28) dX8_priceOf_27 rfl rfl ?_
    refine x_iadd (q := 29) dX8_priceOf_28 rfl ?_
    refine x_iret dX8_priceOf_29 rfl rfl (Nat.le_refl _) ?_
    refine ⟨rfl, ?_⟩
    unfold tPrice bo
    first | rw [if_neg c18, ex3_8] | rw [if_pos c18, ex3_8]

