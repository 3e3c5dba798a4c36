def pRing (p : Nat) : Nat → Option Nat := fun j => if j < 8 then some (p + 2 + 4 * j) else none
def oPast (p sz nx : Nat) (D : Nat → Nat → Nat → Int32) (M : Nat → xE) : Prop := M p = .inr (5, [.int (nI sz), .int (nI nx), .ref (p + 1)]) ∧ M (p + 1) = .inl (3, 8, .inr (.inr (.inr (.inr (pRing p))))) ∧ ∀ j, j < 8 → oX3 (p + 2 + 4 * j) (D j) M
theorem oX3.keep {q : Nat} {t : Nat → Nat → Int32} {M M' : Nat → xE} (h : oX3 q t M) (e : ∀ j, q ≤ j → j < q + 4 → M' j = M j) : oX3 q t M' := by
  obtain ⟨h0, h1, h2, h3⟩ := h
  exact ⟨(e _ (by omega) (by omega)).trans h0, (e _ (by omega) (by omega)).trans h1, (e _ (by omega) (by omega)).trans h2, (e _ (by omega) (by omega)).trans h3⟩
theorem oX8.keep {q : Nat} {t : Nat → Nat → Int32} {M M' : Nat → xE} (h : oX8 q t M) (e : ∀ j, q ≤ j → j < q + 11 → M' j = M j) : oX8 q t M' := by
  obtain ⟨h0, h1, h2, h3, h4, h5, h6, h7, h8, h9, h10⟩ := h
  exact ⟨(e _ (by omega) (by omega)).trans h0, (e _ (by omega) (by omega)).trans h1, (e _ (by omega) (by omega)).trans h2, (e _ (by omega) (by omega)).trans h3, (e _ (by omega) (by omega)).trans h4, (e _ (by omega) (by omega)).trans h5, (e _ (by omega) (by omega)).trans h6, (e _ (by omega) (by omega)).trans h7, (e _ (by omega) (by omega)).trans h8, (e _ (by omega) (by omega)).trans h9, (e _ (by omega) (by omega)).trans h10⟩
theorem nx_rem {a : Nat} (h : a < 2 ^ 20) : nI a - nI a / 8 * 8 = nI (a % 8) := pk_rem (d := 8) (by omega) (by decide) (by decide)
set_option maxHeartbeats 4000000 in
set_option maxRecDepth 100000 in
theorem c_Past_remember {n : Nat} {M : Nat → xE} {p q sz nx : Nat} {D : Nat → Nat → Nat → Int32} {d : Nat → Nat → Int32} (hpq : q + 4 ≤ p ∨ p + 34 ≤ q) (hp : p + 33 < n) (hq : q + 3 < n) (hsz : sz ≤ 8) (hnx : nx < 8) (hP : oPast p sz nx D M) (hd : oX3 q d M) : xMet mX5_remember [.ref p, .ref q] n M (fun r M' => none = r ∧ oPast p (if sz + 1 ≤ 8 then sz + 1 else 8) ((nx + 1) % 8) (fun j => if j = nx then d else D j) M' ∧ xfr p (p + 34) M M') := by
  obtain ⟨hP0, hP1, hP2⟩ := hP
  have hiX5 : ∀ w ∈ wsX50, w ∈ wsX5_remember := by decide +kernel
  refine xMet.of _ (by decide) rfl (Nat.le_of_ble_eq_true rfl) ?_
  refine x_aload_n (q := 1) dX5_remember_0 rfl rfl ?_
  refine x_getf (C := RX5) (T := TX5) (N := 3) (k := 2) (q := 4) hP0 (by omega) rfl hiX5 (by decide) (by decide +kernel) rfl dX5_remember_1 rfl ?_
  refine x_aload_n (q := 5) dX5_remember_4 rfl rfl ?_
  refine x_getf (C := RX5) (T := TX5) (N := 3) (k := 1) (q := 8) hP0 (by omega) rfl hiX5 (by decide) (by decide +kernel) rfl dX5_remember_5 rfl ?_
  refine x_aald (q := 9) hP1 (by omega) (vp_in_nI hnx (by decide)) (by rw [nI_clamp (by omega)]; exact if_pos hnx) dX5_remember_8 rfl ?_
  refine x_aload_n (q := 10) dX5_remember_9 rfl rfl ?_
  refine x_callV (q := 13) (ci := 3) (c_Day_copy (p := p + 2 + 4 * nx) (q := q) (t := D nx) (s := d) (by omega) (by omega) (by omega) (hP2 nx hnx) hd) eX5_remember_22 gX5_remember_X3_copyFrom (hP2 nx hnx).1 (by omega) rfl rfl rfl (Nat.le_of_ble_eq_true rfl) ⟨Nat.le_refl _, Nat.le_refl _⟩ dX5_remember_10 rfl rfl (fun r10 M10 p10 => ?_)
  obtain ⟨rfl, hc10, fr10⟩ := p10
  refine x_aload_n (q := 14) dX5_remember_13 rfl rfl ?_
  refine x_aload_n (q := 15) dX5_remember_14 rfl rfl ?_
  have hv1_1_p := ((fr10 (p) (by omega)).trans hP0)
  refine x_getf (C := RX5) (T := TX5) (N := 3) (k := 1) (q := 18) hv1_1_p (by omega) rfl hiX5 (by decide) (by decide +kernel) rfl dX5_remember_15 rfl ?_
  refine x_iconst (v := 1) (q := 19) dX5_remember_18 rfl (by decide) ?_
  refine x_iadd (q := 20) dX5_remember_19 rfl ?_
  refine x_bipush (v := 8) (q := 22) dX5_remember_20 rfl (by decide) ?_
  refine x_irem (q := 23) dX5_remember_22 rfl (by decide) ?_
  refine x_put (C := RX5) (T := TX5) (N := 3) (k := 1) (q := 26) (ty := .int) tyX5_ok nmX5 hv1_1_p (by omega) rfl hiX5 (by decide) (by decide +kernel) rfl (by decide +kernel) (fun _ => rfl) (fun _ => rfl) (Nat.le_of_ble_eq_true rfl) dX5_remember_23 rfl (fun M23 w23 o23 => ?_)
  refine x_aload_n (q := 27) dX5_remember_26 rfl rfl ?_
  refine x_aload_n (q := 28) dX5_remember_27 rfl rfl ?_
  refine x_getf (C := RX5) (T := TX5) (N := 3) (k := 0) (q := 31) w23 (by omega) rfl hiX5 (by decide) (by decide +kernel) rfl dX5_remember_28 rfl ?_
  refine x_iconst (v := 1) (q := 32) dX5_remember_31 rfl (by decide) ?_
  refine x_iadd (q := 33) dX5_remember_32 rfl ?_
  refine x_bipush (v := 8) (q := 35) dX5_remember_33 rfl (by decide) ?_
  refine x_mmin (q := 38) (by decide +kernel) (by decide +kernel) (by decide +kernel) (by decide +kernel) (by decide) (Nat.le_of_ble_eq_true rfl) ⟨Nat.zero_le _, Nat.zero_le _⟩ dX5_remember_35 rfl ?_
  refine x_put (C := RX5) (T := TX5) (N := 3) (k := 0) (q := 41) (ty := .int) tyX5_ok nmX5 w23 (by omega) rfl hiX5 (by decide) (by decide +kernel) rfl (by decide +kernel) (fun _ => rfl) (fun _ => rfl) (Nat.le_of_ble_eq_true rfl) dX5_remember_38 rfl (fun M38 w38 o38 => ?_)
  refine x_vret dX5_remember_41 rfl rfl (Nat.le_refl _) ?_
  have hv3_2_p1 := ((o38 (p + 1) (by omega)).trans ((o23 (p + 1) (by omega)).trans ((fr10 (p + 1) (by omega)).trans hP1)))
  refine ⟨rfl, ⟨?_, hv3_2_p1, fun j hj => ?_⟩, (fun j hj => ((o38 j (by omega)).trans ((o23 j (by omega)).trans ((fr10 j (by omega)).trans rfl))))⟩
  · have hh := w38
    rw [show nI nx + 1 = nI (nx + 1) from nI_1 nx, show nI sz + 1 = nI (sz + 1) from nI_1 sz, nx_rem (by omega)] at hh
    rw [hh]
    have e9 : (if (8 : Int32) < nI (sz + 1) then 8 else nI (sz + 1)) = nI (if sz + 1 ≤ 8 then sz + 1 else 8) := by
      by_cases h : sz + 1 ≤ 8
      · rw [if_pos h, if_neg (show ¬ (8 : Int32) < nI (sz + 1) from xle_nlt.mpr (nI_le (b := 8) h (by decide)))]
      · rw [if_neg h, show sz = 8 by omega]
        rfl
    rw [← e9]
    rfl
  · by_cases e : j = nx
    · subst e
      show oX3 _ (if j = j then d else D j) _
      rw [if_pos rfl]
      exact hc10.keep (fun i h1 h2 => ((o38 i (by omega)).trans ((o23 i (by omega)).trans rfl)))
    · show oX3 _ (if j = nx then d else D j) _
      rw [if_neg e]
      exact (hP2 j hj).keep (fun i h1 h2 => ((o38 i (by omega)).trans ((o23 i (by omega)).trans ((fr10 i (by omega)).trans rfl))))

set_option maxHeartbeats 4000000 in
set_option maxRecDepth 100000 in
theorem c_Past_recall {n : Nat} {M : Nat → xE} {p q sz nx : Nat} {D : Nat → Nat → Nat → Int32} {d : Nat → Nat → Int32} (hpq : q + 4 ≤ p ∨ p + 34 ≤ q) (hp : p + 33 < n) (hq : q + 3 < n) (hsz : sz < 8) (hnx : nx < 8) (hP : oPast p (sz + 1) nx D M) (hd : oX3 q d M) : xMet mX5_recall [.ref p, .ref q] n M (fun r M' => none = r ∧ oPast p sz ((nx + 7) % 8) D M' ∧ oX3 q (D ((nx + 7) % 8)) M' ∧ ∀ j, (j < p ∨ p + 34 ≤ j) → (j < q ∨ q + 4 ≤ j) → M' j = M j) := by
  obtain ⟨hP0, hP1, hP2⟩ := hP
  have hm : (nx + 7) % 8 < 8 := Nat.mod_lt _ (by decide)
  have hiX5 : ∀ w ∈ wsX50, w ∈ wsX5_recall := by decide +kernel
  refine xMet.of _ (by decide) rfl (Nat.le_of_ble_eq_true rfl) ?_
  refine x_aload_n (q := 1) dX5_recall_0 rfl rfl ?_
  refine x_aload_n (q := 2) dX5_recall_1 rfl rfl ?_
  refine x_getf (C := RX5) (T := TX5) (N := 3) (k := 1) (q := 5) hP0 (by omega) rfl hiX5 (by decide) (by decide +kernel) rfl dX5_recall_2 rfl ?_
  refine x_bipush (v := 8) (q := 7) dX5_recall_5 rfl (by decide) ?_
  refine x_iadd (q := 8) dX5_recall_7 rfl ?_
  refine x_iconst (v := 1) (q := 9) dX5_recall_8 rfl (by decide) ?_
  refine x_isub (q := 10) dX5_recall_9 rfl ?_
  refine x_bipush (v := 8) (q := 12) dX5_recall_10 rfl (by decide) ?_
  refine x_irem (q := 13) dX5_recall_12 rfl (by decide) ?_
  refine x_put (C := RX5) (T := TX5) (N := 3) (k := 1) (q := 16) (ty := .int) tyX5_ok nmX5 hP0 (by omega) rfl hiX5 (by decide) (by decide +kernel) rfl (by decide +kernel) (fun _ => rfl) (fun _ => rfl) (Nat.le_of_ble_eq_true rfl) dX5_recall_13 rfl (fun M13 w13 o13 => ?_)
  have w13 : M13 p = .inr (5, [.int (nI (sz + 1)), .int (nI ((nx + 7) % 8)), .ref (p + 1)]) := by
    rw [w13, show nI nx + 8 - 1 = nI (nx + 7) from by rw [show (8 : Int32) = nI 8 from rfl, nI_add, show nx + 8 = (nx + 7) + 1 from rfl, nI_pred], nx_rem (by omega)]
    rfl
  refine x_aload_n (q := 17) dX5_recall_16 rfl rfl ?_
  refine x_aload_n (q := 18) dX5_recall_17 rfl rfl ?_
  refine x_getf (C := RX5) (T := TX5) (N := 3) (k := 2) (q := 21) w13 (by omega) rfl hiX5 (by decide) (by decide +kernel) rfl dX5_recall_18 rfl ?_
  refine x_aload_n (q := 22) dX5_recall_21 rfl rfl ?_
  refine x_getf (C := RX5) (T := TX5) (N := 3) (k := 1) (q := 25) w13 (by omega) rfl hiX5 (by decide) (by decide +kernel) rfl dX5_recall_22 rfl ?_
  have hv1_1_p1 := ((o13 (p + 1) (by omega)).trans hP1)
  refine x_aald (q := 26) hv1_1_p1 (by omega) (vp_in_nI hm (by decide)) (by rw [nI_clamp (by omega)]; exact if_pos hm) dX5_recall_25 rfl ?_
  have hv1_2_q := ((o13 (q) (by omega)).trans hd.1)
  refine x_callV (q := 29) (ci := 3) (c_Day_copy (p := q) (q := p + 2 + 4 * ((nx + 7) % 8)) (t := d) (s := D ((nx + 7) % 8)) (by omega) (by omega) (by omega) (hd.keep (fun j h1 h2 => (o13 j (by omega)))) ((hP2 _ hm).keep (fun j h1 h2 => (o13 j (by omega))))) eX5_recall_22 gX5_recall_X3_copyFrom hv1_2_q (by omega) rfl rfl rfl (Nat.le_of_ble_eq_true rfl) ⟨Nat.le_refl _, Nat.le_refl _⟩ dX5_recall_26 rfl rfl (fun r26 M26 p26 => ?_)
  obtain ⟨rfl, hc26, fr26⟩ := p26
  refine x_aload_n (q := 30) dX5_recall_29 rfl rfl ?_
  refine x_iconst (v := 0) (q := 31) dX5_recall_30 rfl (by decide) ?_
  refine x_aload_n (q := 32) dX5_recall_31 rfl rfl ?_
  have hv2_3_p := ((fr26 (p) (by omega)).trans w13)
  refine x_getf (C := RX5) (T := TX5) (N := 3) (k := 0) (q := 35) hv2_3_p (by omega) rfl hiX5 (by decide) (by decide +kernel) rfl dX5_recall_32 rfl ?_
  refine x_iconst (v := 1) (q := 36) dX5_recall_35 rfl (by decide) ?_
  refine x_isub (q := 37) dX5_recall_36 rfl ?_
  refine x_mmax (q := 40) (by decide +kernel) (by decide +kernel) (by decide +kernel) (by decide +kernel) (by decide) (Nat.le_of_ble_eq_true rfl) ⟨Nat.zero_le _, Nat.zero_le _⟩ dX5_recall_37 rfl ?_
  refine x_put (C := RX5) (T := TX5) (N := 3) (k := 0) (q := 43) (ty := .int) tyX5_ok nmX5 hv2_3_p (by omega) rfl hiX5 (by decide) (by decide +kernel) rfl (by decide +kernel) (fun _ => rfl) (fun _ => rfl) (Nat.le_of_ble_eq_true rfl) dX5_recall_40 rfl (fun M40 w40 o40 => ?_)
  refine x_vret dX5_recall_43 rfl rfl (Nat.le_refl _) ?_
  have hv3_4_p1 := ((o40 (p + 1) (by omega)).trans ((fr26 (p + 1) (by omega)).trans hv1_1_p1))
  refine ⟨rfl, ⟨?_, hv3_4_p1, fun j hj => (hP2 j hj).keep (fun i h1 h2 => ((o40 i (by omega)).trans ((fr26 i (by omega)).trans ((o13 i (by omega)).trans rfl))))⟩, hc26.keep (fun i h1 h2 => ((o40 i (by omega)).trans rfl)), fun j hj hj2 => ((o40 j (by omega)).trans ((fr26 j (by omega)).trans ((o13 j (by omega)).trans rfl)))⟩
  have hh := w40
  rw [hh]
  have e9 : (if (0 : Int32) < nI (sz + 1) - 1 then nI (sz + 1) - 1 else 0) = nI sz := by
    rw [nI_pred]
    by_cases h : sz = 0
    · subst h
      rfl
    · rw [if_pos (show (0 : Int32) < nI sz from nI_lt (a := 0) (show 0 < sz by omega) (by omega))]
  rw [← e9]
  rfl

