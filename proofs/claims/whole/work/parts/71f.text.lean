def cpW (w : Nat → Int32) (i : Nat) : Nat → Int32 := fun j => if 61 ≤ j ∧ j < 61 + i then w (j - 61) else w j
theorem cpW_0 (w : Nat → Int32) : cpW w 0 = w := by funext j; unfold cpW; rw [if_neg (by omega)]
theorem cpW_lo (w : Nat → Int32) (i : Nat) {j : Nat} (h : j < 61) : cpW w i j = w j := by unfold cpW; rw [if_neg (by omega)]
theorem cpW_s (w : Nat → Int32) {i : Nat} (hi : i < 61) : upd (cpW w i) (61 + i) (cpW w i i) = cpW w (i + 1) := by
  rw [cpW_lo w i hi]
  funext j
  unfold upd cpW
  by_cases e : j = 61 + i
  · rw [if_pos e, if_pos (by omega), e, Nat.add_sub_cancel_left]
  · rw [if_neg e]
    by_cases h : 61 ≤ j ∧ j < 61 + i
    · rw [if_pos h, if_pos (by omega)]
    · rw [if_neg h, if_neg (by omega)]
def upW (w : Nat → Int32) (i : Nat) : Nat → Int32 := fun j => if j < i then w (61 + j) else w j
theorem upW_0 (w : Nat → Int32) : upW w 0 = w := by funext j; unfold upW; rw [if_neg (by omega)]
theorem upW_s (w : Nat → Int32) {i : Nat} (hi : i < 61) : upd (upW w i) i (upW w i (61 + i)) = upW w (i + 1) := by
  have e0 : upW w i (61 + i) = w (61 + i) := by unfold upW; rw [if_neg (by omega)]
  rw [e0]
  funext j
  unfold upd upW
  by_cases e : j = i
  · rw [if_pos e, if_pos (by omega), e]
  · rw [if_neg e]
    by_cases h : j < i
    · rw [if_pos h, if_pos (by omega)]
    · rw [if_neg h, if_neg (by omega)]
theorem stW_n {w : Nat → Int32} {j : Nat} (h : j < 114) : stW w 61 4 j = w j := by unfold stW; rw [if_neg (by omega), if_neg (by omega)]
theorem begW_lo {w : Nat → Int32} {j : Nat} (h : j < 61) : begW w 61 j = w j := by
  unfold begW
  rw [stW_n (by omega), upd_ne (by omega)]
  unfold zeroW
  rw [if_neg (by omega)]
theorem begW_z {w : Nat → Int32} {j : Nat} (h : 61 ≤ j) (h2 : j < 114) (h3 : ¬ j = 97) : begW w 61 j = 0 := by
  unfold begW
  rw [stW_n h2, upd_ne (by omega)]
  unfold zeroW
  rw [if_pos (by omega)]
theorem doM_lo {P W G : Nat} {w : Nat → Int32} {x : tAct} {k : Nat} (hk : k < 61) : doM P W G w x k = w k := by
  unfold doM
  split
  · exact begW_lo hk
  · split
    · rw [upd_ne (by omega)]
    · split
      · rw [upd_ne (by omega), upd_ne (by omega), upd_ne (by omega), upd_ne (by omega), upd_ne (by omega)]
      · split
        · rw [upd_ne (by omega), upd_ne (by omega), upd_ne (by omega), upd_ne (by omega)]
        · split
          · rw [upd_ne (by omega)]
          · split
            · rw [upd_ne (by omega), upd_ne (by omega)]
            · split
              · exact stW_n (by omega)
              · rw [upd_ne (by omega), upd_ne (by omega), upd_ne (by omega)]
theorem doM_cnt {P W G : Nat} {w : Nat → Int32} {x : tAct} (hP : P ≤ 5) (hW : W ≤ 6) (hG : G ≤ 5) (hP0 : w 61 = nI P) (hW0 : w 72 = nI W) (hG0 : w 98 = nI G) (h : actOK P W G x) : doM P W G w x 61 = nI (cP P x) ∧ doM P W G w x 72 = nI (cW W x) ∧ doM P W G w x 98 = nI (cG G x) := by
  obtain ⟨h1, h2, h5, h6, h7, h9, h10⟩ := h
  obtain ⟨c, a, b, d, e⟩ := x
  replace h1 : c < 12 := h1
  unfold doM cP cW cG
  dsimp only at *
  rcases (show c = 0 ∨ (1 ≤ c ∧ c < 5) ∨ c = 5 ∨ c = 6 ∨ (c = 7 ∨ c = 8) ∨ c = 9 ∨ c = 10 ∨ c = 11 by omega) with q | q | q | q | q | q | q | q
  · subst q
    rw [if_pos rfl, if_pos rfl, if_pos rfl, if_pos rfl]
    exact ⟨begW_z (by omega) (by omega) (by omega), begW_z (by omega) (by omega) (by omega), begW_z (by omega) (by omega) (by omega)⟩
  · have hp5 := rm_P h2 q.1 q.2
    rw [if_neg (by omega), if_neg (by omega), if_neg (by omega), if_neg (by omega), if_neg (by omega), if_neg (by omega), if_neg (by omega), if_neg (by omega), if_pos q, if_neg (by omega), if_neg (by omega), if_neg (by omega), if_neg (by omega)]
    exact ⟨pk_us, by rw [upd_ne (by omega), upd_ne (by omega), upd_ne (by omega)]; exact hW0, by rw [upd_ne (by omega), upd_ne (by omega), upd_ne (by omega)]; exact hG0⟩
  · subst q
    have h5 := h5 rfl
    rw [if_neg (by omega), if_pos rfl, if_neg (by omega), if_neg (by omega), if_neg (by omega), if_neg (by omega), if_neg (by omega), if_neg (by omega)]
    exact ⟨by rw [upd_ne (by omega)]; exact hP0, by rw [upd_ne (by omega)]; exact hW0, by rw [upd_ne (by omega)]; exact hG0⟩
  · subst q
    have hw6 := rm_W h2
    rw [if_neg (by omega), if_neg (by omega), if_pos rfl, if_neg (by omega), if_neg (by omega), if_neg (by omega), if_pos rfl, if_neg (by omega), if_neg (by omega)]
    exact ⟨by rw [upd_ne (by omega), upd_ne (by omega), upd_ne (by omega), upd_ne (by omega), upd_ne (by omega)]; exact hP0, pk_us, by rw [upd_ne (by omega), upd_ne (by omega), upd_ne (by omega), upd_ne (by omega), upd_ne (by omega)]; exact hG0⟩
  · have hg5 := rm_G h2 q
    rw [if_neg (by omega), if_neg (by omega), if_neg (by omega), if_pos q, if_neg (by omega), if_neg (by omega), if_neg (by omega), if_neg (by omega), if_neg (by omega), if_pos q]
    exact ⟨by rw [upd_ne (by omega), upd_ne (by omega), upd_ne (by omega), upd_ne (by omega)]; exact hP0, by rw [upd_ne (by omega), upd_ne (by omega), upd_ne (by omega), upd_ne (by omega)]; exact hW0, pk_us⟩
  · subst q
    rw [if_neg (by omega), if_neg (by omega), if_neg (by omega), if_neg (by omega), if_pos rfl, if_neg (by omega), if_neg (by omega), if_neg (by omega), if_neg (by omega), if_neg (by omega), if_neg (by omega)]
    exact ⟨by rw [upd_ne (by omega)]; exact hP0, by rw [upd_ne (by omega)]; exact hW0, by rw [upd_ne (by omega)]; exact hG0⟩
  · subst q
    have h10 := h10 rfl
    rw [if_neg (by omega), if_neg (by omega), if_neg (by omega), if_neg (by omega), if_neg (by omega), if_pos rfl, if_neg (by omega), if_neg (by omega), if_neg (by omega), if_neg (by omega), if_neg (by omega), if_neg (by omega)]
    exact ⟨by rw [upd_ne (by omega), upd_ne (by omega)]; exact hP0, by rw [upd_ne (by omega), upd_ne (by omega)]; exact hW0, by rw [upd_ne (by omega), upd_ne (by omega)]; exact hG0⟩
  · subst q
    rw [if_neg (by omega), if_neg (by omega), if_neg (by omega), if_neg (by omega), if_neg (by omega), if_neg (by omega), if_pos rfl, if_neg (by omega), if_neg (by omega), if_neg (by omega), if_neg (by omega), if_neg (by omega), if_neg (by omega)]
    exact ⟨(stW_n (by omega)).trans hP0, (stW_n (by omega)).trans hW0, (stW_n (by omega)).trans hG0⟩
def foldM (P W G : Nat) (w : Nat → Int32) : List tAct → Nat → Int32
  | [] => w
  | x :: xs => foldM (cP P x) (cW W x) (cG G x) (doM P W G w x) xs
def mfP (t : Nat → Nat → Int32) (u : Nat → Nat → Int64) (lt : Nat → Int32) (N P W G : Nat) (w : Nat → Int32) (res : Nat ⊕ (Nat × List tAct)) (r : Option Value) (M' : Nat → xE) : Prop := res.elim
  (fun s => s ≤ N ∧ some (.int (nI s)) = r ∧ ∃ w' a s' iw ib v c, oX11 99 (rT t lt N w' a s' iw ib v c) u M' ∧ ∀ k, k < 61 → w' k = w k)
  (fun y => some (.int (-1)) = r ∧ ∃ a s iw ib v, oX11 99 (rT t lt N (foldM P W G w y.2) a s iw ib v (nI y.1)) u M')
set_option maxHeartbeats 4000000 in
set_option maxRecDepth 100000 in
theorem l_rd1 {n N : Nat} {t : Nat → Nat → Int32} {u : Nat → Nat → Int64} {lt w : Nat → Int32} {a s iw ib v c : Int32} {Q : Option Value → (Nat → xE) → Prop} {M0 : Nat → xE} (hn : 113 < n) : ∀ (k i : Nat) (M : Nat → xE), i + k = 61 → (oR t u lt N (cpW w i) a s iw ib v c M) → (∀ j, ¬ j = 99 → ¬ j = 100 → M j = M0 j) → (∀ (M' : Nat → xE), oR t u lt N (cpW w 61) a s iw ib v c M' → (∀ j, ¬ j = 99 → ¬ j = 100 → M' j = M0 j) → X mX11_reads 0 0 29 [(1, .int (nI 61)), (0, .ref 99)] [] n M' Q) → X mX11_reads 0 0 2 [(1, .int (nI i)), (0, .ref 99)] [] n M (Q) := by
  have hiX11 : ∀ w ∈ wsX110, w ∈ wsX11_reads := by decide +kernel
  intro k
  induction k with
  | zero =>
    intro i M hik hR hf hk
    have hR0 := hR
    obtain ⟨mp0, mp1, mp4⟩ := hR
    refine x_iload_n (q := 3) dX11_reads_2 rfl rfl ?_
    refine x_bipush (v := 61) (q := 5) dX11_reads_3 rfl (by decide) ?_
    refine x_icmp_ge (t := 29) (q := 8) dX11_reads_5 (by decide) rfl (fun c5 => ?_) (fun c5 => absurd (nI_le (show 61 ≤ i by omega) (by omega)) c5)
    have e9 : i = 61 := by omega
    subst e9
    exact hk M hR0 hf
  | succ k ih =>
    intro i M hik hR hf hk
    have hR0 := hR
    obtain ⟨mp0, mp1, mp4⟩ := hR
    refine x_iload_n (q := 3) dX11_reads_2 rfl rfl ?_
    refine x_bipush (v := 61) (q := 5) dX11_reads_3 rfl (by decide) ?_
    refine x_icmp_ge (t := 29) (q := 8) dX11_reads_5 (by decide) rfl (fun c5 => absurd c5 (nI_ge (a := i) (b := 61) (by omega) (by decide))) (fun c5 => ?_)
    refine x_aload_n (q := 9) dX11_reads_8 rfl rfl ?_
    refine x_getf (C := RX11) (T := TX11) (N := 29) (k := 0) (q := 12) mp0 (by omega) rfl hiX11 (by decide) (by decide +kernel) rfl dX11_reads_9 rfl ?_
    refine x_bipush (v := 61) (q := 14) dX11_reads_12 rfl (by decide) ?_
    refine x_iload_n (q := 15) dX11_reads_14 rfl rfl ?_
    refine x_iadd (q := 16) dX11_reads_15 rfl ?_
    refine x_aload_n (q := 17) dX11_reads_16 rfl rfl ?_
    refine x_getf (C := RX11) (T := TX11) (N := 29) (k := 0) (q := 20) mp0 (by omega) rfl hiX11 (by decide) (by decide +kernel) rfl dX11_reads_17 rfl ?_
    refine x_iload_n (q := 21) dX11_reads_20 rfl rfl ?_
    refine x_iald (q := 22) mp1 (by omega) (ixI (show (nI i : Int32) = nI i from rfl) (by omega) (by decide)) dX11_reads_21 rfl ?_
    rw [ixC (show (nI i : Int32) = nI i from rfl) (by omega)]
    refine x_iast (q := 23) mp1 (by omega) (ixI (show ((61 + nI i) : Int32) = nI (61 + i) from (nIs rfl rfl)) (by omega) (by decide)) dX11_reads_22 rfl (fun M22 w22 o22 => ?_)
    rw [ixC (show ((61 + nI i) : Int32) = nI (61 + i) from (nIs rfl rfl)) (by omega)] at w22
    refine x_iinc (L' := fun x1_23 => [(1, .int x1_23), (0, .ref 99)]) (q := 26) dX11_reads_23 rfl rfl (by decide) (fun _ => rfl) (fun x1_23 ex1_23 => ?_)
    obtain rfl : x1_23 = nI (i + 1) := ex1_23.trans (nI_1 i)
    refine x_goto (q := 2) dX11_reads_26 (by decide) ?_
    have hv1_1_99 := ((o22 (99) (by omega)).trans mp0)
    have hv1_2_103 := ((o22 (103) (by omega)).trans mp4)
    rw [cpW_s w (show i < 61 by omega)] at w22
    refine x_pick (L' := [(1, .int (nI (i + 1))), (0, .ref 99)]) [0, 1] rfl ?_
    exact ih (i + 1) M22 (by omega) ⟨hv1_1_99, w22, hv1_2_103⟩ (fun j h1 h2 => (o22 j h2).trans (hf j h1 h2)) hk

set_option maxHeartbeats 4000000 in
set_option maxRecDepth 100000 in
theorem l_tw1 {n N : Nat} {t : Nat → Nat → Int32} {u : Nat → Nat → Int64} {lt w : Nat → Int32} {a s iw ib v c : Int32} {Q : Option Value → (Nat → xE) → Prop} {M0 : Nat → xE} (hn : 113 < n) : ∀ (k i : Nat) (M : Nat → xE), i + k = 61 → (oR t u lt N (upW w i) a s iw ib v c M) → (∀ j, ¬ j = 99 → ¬ j = 100 → M j = M0 j) → (∀ (M' : Nat → xE), oR t u lt N (upW w 61) a s iw ib v c M' → (∀ j, ¬ j = 99 → ¬ j = 100 → M' j = M0 j) → X mX11_town 0 0 40 [(1, .int (nI 61)), (0, .ref 99)] [] n M' Q) → X mX11_town 0 0 13 [(1, .int (nI i)), (0, .ref 99)] [] n M (Q) := by
  have hiX11 : ∀ w ∈ wsX110, w ∈ wsX11_town := by decide +kernel
  intro k
  induction k with
  | zero =>
    intro i M hik hR hf hk
    have hR0 := hR
    obtain ⟨mp0, mp1, mp4⟩ := hR
    refine x_iload_n (q := 14) dX11_town_13 rfl rfl ?_
    refine x_bipush (v := 61) (q := 16) dX11_town_14 rfl (by decide) ?_
    refine x_icmp_ge (t := 40) (q := 19) dX11_town_16 (by decide) rfl (fun c16 => ?_) (fun c16 => absurd (nI_le (show 61 ≤ i by omega) (by omega)) c16)
    have e9 : i = 61 := by omega
    subst e9
    exact hk M hR0 hf
  | succ k ih =>
    intro i M hik hR hf hk
    have hR0 := hR
    obtain ⟨mp0, mp1, mp4⟩ := hR
    refine x_iload_n (q := 14) dX11_town_13 rfl rfl ?_
    refine x_bipush (v := 61) (q := 16) dX11_town_14 rfl (by decide) ?_
    refine x_icmp_ge (t := 40) (q := 19) dX11_town_16 (by decide) rfl (fun c16 => absurd c16 (nI_ge (a := i) (b := 61) (by omega) (by decide))) (fun c16 => ?_)
    refine x_aload_n (q := 20) dX11_town_19 rfl rfl ?_
    refine x_getf (C := RX11) (T := TX11) (N := 29) (k := 0) (q := 23) mp0 (by omega) rfl hiX11 (by decide) (by decide +kernel) rfl dX11_town_20 rfl ?_
    refine x_iload_n (q := 24) dX11_town_23 rfl rfl ?_
    refine x_aload_n (q := 25) dX11_town_24 rfl rfl ?_
    refine x_getf (C := RX11) (T := TX11) (N := 29) (k := 0) (q := 28) mp0 (by omega) rfl hiX11 (by decide) (by decide +kernel) rfl dX11_town_25 rfl ?_
    refine x_bipush (v := 61) (q := 30) dX11_town_28 rfl (by decide) ?_
    refine x_iload_n (q := 31) dX11_town_30 rfl rfl ?_
    refine x_iadd (q := 32) dX11_town_31 rfl ?_
    refine x_iald (q := 33) mp1 (by omega) (ixI (show ((61 + nI i) : Int32) = nI (61 + i) from (nIs rfl rfl)) (by omega) (by decide)) dX11_town_32 rfl ?_
    rw [ixC (show ((61 + nI i) : Int32) = nI (61 + i) from (nIs rfl rfl)) (by omega)]
    refine x_iast (q := 34) mp1 (by omega) (ixI (show (nI i : Int32) = nI i from rfl) (by omega) (by decide)) dX11_town_33 rfl (fun M33 w33 o33 => ?_)
    rw [ixC (show (nI i : Int32) = nI i from rfl) (by omega)] at w33
    refine x_iinc (L' := fun x1_34 => [(1, .int x1_34), (0, .ref 99)]) (q := 37) dX11_town_34 rfl rfl (by decide) (fun _ => rfl) (fun x1_34 ex1_34 => ?_)
    obtain rfl : x1_34 = nI (i + 1) := ex1_34.trans (nI_1 i)
    refine x_goto (q := 13) dX11_town_37 (by decide) ?_
    have hv1_1_99 := ((o33 (99) (by omega)).trans mp0)
    have hv1_2_103 := ((o33 (103) (by omega)).trans mp4)
    rw [upW_s w (show i < 61 by omega)] at w33
    refine x_pick (L' := [(1, .int (nI (i + 1))), (0, .ref 99)]) [0, 1] rfl ?_
    exact ih (i + 1) M33 (by omega) ⟨hv1_1_99, w33, hv1_2_103⟩ (fun j h1 h2 => (o33 j h2).trans (hf j h1 h2)) hk

theorem nB_le {lt : Nat → Int32} {n p lo H s : Nat} {f : Nat → Nat → tRes} (hp : p ≤ n) (h : nB lt n p lo H f = .inl s) (hf : ∀ v, f v (tkE lt n p) = .inl s → s ≤ n) : s ≤ n := by
  cases e : num lt n p lo H with
  | none => rw [nB_n e] at h; cases h; exact (tsp_b lt hp).2
  | some v => rw [nB_s e] at h; exact hf v h
theorem rdB_le {lt : Nat → Int32} {n P c q s : Nat} (hq : q ≤ n) (h : rdB lt n P c q = .inl s) : s ≤ n := by
  have hE : ∀ {p}, p ≤ n → tkE lt n p ≤ n := fun h => (tkE_b lt h).2
  unfold rdB at h
  split at h
  · refine nB_le hq h (fun a h => nB_le (hE hq) h (fun b h => ?_))
    split at h
    · cases h; exact (tsp_b lt (hE hq)).2
    · cases h
  · split at h
    · exact nB_le hq h (fun a h => nB_le (hE hq) h (fun b h => nB_le (hE (hE hq)) h (fun d h => nB_le (hE (hE (hE hq))) h (fun e h => by cases h))))
    · split at h
      · exact nB_le hq h (fun a h => nB_le (hE hq) h (fun b h => by cases h))
      · split at h
        · exact nB_le hq h (fun a h => by cases h)
        · split at h
          · refine nB_le hq h (fun a h => nB_le (hE hq) h (fun b h => ?_))
            split at h
            · cases h; exact (tsp_b lt (hE hq)).2
            · exact nB_le (hE (hE hq)) h (fun d h => by cases h)
          · cases h
theorem rdC_le {lt : Nat → Int32} {n P W G q s : Nat} (hq : q ≤ n) (h : rdC lt n P W G q = .inl s) : s ≤ n := by
  have hs := (tsp_b lt hq).2
  have he := (tkE_b lt hq).2
  unfold rdC at h
  cases e : wdT lt n q with
  | none => rw [e] at h; cases h; exact hs
  | some c =>
    rw [e] at h
    replace h : (if rm P W G c = true then rdB lt n P c (tkE lt n q) else .inl (tsp lt n q)) = (.inl s : tRes) := h
    by_cases hr : rm P W G c = true
    · rw [if_pos hr] at h
      exact rdB_le he h
    · rw [if_neg hr] at h; cases h; exact hs
set_option maxHeartbeats 4000000 in
set_option maxRecDepth 100000 in
theorem l_rd2 {n N : Nat} {t : Nat → Nat → Int32} {u : Nat → Nat → Int64} {lt : Nat → Int32} {Q : Option Value → (Nat → xE) → Prop} {M0 : Nat → xE} (hn : 113 < n) (hN : N ≤ 160) : ∀ (k i : Nat) (M : Nat → xE) (w : Nat → Int32) (P : Nat) (W : Nat) (G : Nat) (q : Nat) (s : Int32) (iw : Int32) (ib : Int32) (v : Int32), i + k = 14 → (i < 14) → (q ≤ N) → (oX11 99 (rT t lt N w (nI q) s iw ib v (nI i)) u M) → (P ≤ 5) → (W ≤ 6) → (G ≤ 5) → (w 61 = nI P) → (w 72 = nI W) → (w 98 = nI G) → (∀ j, ¬ j = 99 → ¬ j = 100 → M j = M0 j) → (∀ M' r, mfP t u lt N P W G w (fnd lt N k (i + 1) P W G q) r M' → (∀ j, ¬ j = 99 → ¬ j = 100 → M' j = M0 j) → Q r M') → X mX11_reads 0 0 41 [(1, .int 1), (0, .ref 99)] [] n M (Q) := by
  have hiX11 : ∀ w ∈ wsX110, w ∈ wsX11_reads := by decide +kernel
  intro k
  induction k with
  | zero =>
    intro i M w P W G q s iw ib v hik hi hq hM hP hW hG hP0 hW0 hG0 hf hQ
    omega
  | succ k ih =>
    intro i M w P W G q s iw ib v hik hi hq hM hP hW hG hP0 hW0 hG0 hf hQ
    have hM0 := hM
    have hR0 := rT_R hM
    obtain ⟨mp0, mp1, mp4⟩ := id hR0
    refine x_iload_n (q := 42) dX11_reads_41 rfl rfl ?_
    refine x_if_eq (t := 127) (q := 45) dX11_reads_42 (by decide) rfl (fun c42 => absurd c42 (by decide)) (fun c42 => ?_)
    refine x_aload_n (q := 46) dX11_reads_45 rfl rfl ?_
    refine x_callV (q := 49) (ci := 11) (c_m_token hn hN hq hR0) eX11_reads_117 gX11_reads_X11_token mp0 (by omega) rfl rfl rfl (Nat.le_of_ble_eq_true rfl) ⟨Nat.le_refl _, Nat.le_refl _⟩ dX11_reads_46 rfl rfl (fun r46 M46 p46 => ?_)
    obtain ⟨rfl, hR46, fr46⟩ := p46
    have hM46 := rT_K hM0 hR46 (fun j h1 _ => fr46 j h1)
    obtain ⟨k46_0, k46_1, k46_4⟩ := id hR46
    refine x_aload_n (q := 50) dX11_reads_49 rfl rfl ?_
    refine x_aload_n (q := 51) dX11_reads_50 rfl rfl ?_
    refine x_callV (q := 54) (ci := 11) (c_m_word hn hN hq hR46) eX11_reads_154 gX11_reads_X11_wordNow k46_0 (by omega) rfl rfl rfl (Nat.le_of_ble_eq_true rfl) ⟨Nat.le_refl _, Nat.le_refl _⟩ dX11_reads_51 rfl rfl (fun r51 M51 p51 => ?_)
    obtain ⟨rfl, rfl⟩ := p51
    refine x_callV (q := 57) (ci := 11) (c_m_tc hn hN hq hM46 hP hW hG hP0 hW0 hG0) eX11_reads_158 gX11_reads_X11_takesClause k46_0 (by omega) rfl rfl rfl (Nat.le_of_ble_eq_true rfl) ⟨Nat.le_refl _, Nat.le_refl _⟩ dX11_reads_54 rfl rfl (fun r54 M54 p54 => ?_)
    obtain ⟨hT54, fr54⟩ := p54; rcases hres : rdC lt N P W G q with s9 | x9
    · have hres2 := hres
      rw [hres] at hT54
      obtain ⟨rfl, w9, a9, iw9, ib9, v9, hR54, hlow⟩ := hT54
      obtain ⟨k54_0, k54_1, k54_4⟩ := id hR54
      refine x_if_ne (t := 65) (q := 60) dX11_reads_57 (by decide) rfl (fun c57 => absurd c57 (by decide)) (fun c57 => ?_)
      refine x_aload_n (q := 61) dX11_reads_60 rfl rfl ?_
      refine x_getf (C := RX11) (T := TX11) (N := 29) (k := 7) (q := 64) k54_0 (by omega) rfl hiX11 (by decide) (by decide +kernel) rfl dX11_reads_61 rfl ?_
      refine x_iret dX11_reads_64 rfl rfl (Nat.le_refl _) ?_
      exact hQ _ _ (by rw [fnd, hres2]; exact ⟨rdC_le hq hres2, rfl, _, _, _, _, _, _, _, rT_K hM46 hR54 fr54, hlow⟩) (fun j h1 h2 => (fr54 j h1 h2).trans ((fr46 j h1).trans (hf j h1 h2)))
    · rw [hres] at hT54
      obtain ⟨rfl, hxN, s9, iw9, ib9, v9, hR54⟩ := hT54
      have hxN : x9.1 ≤ N := hxN
      have hM54 := rT_K hM46 hR54 fr54
      obtain ⟨k54_0, k54_1, k54_4⟩ := id hR54
      have hxb := tsp_b lt hxN
      have hxe := tkE_b lt hxN
      have hact := rdC_act hres
      have hcnt := act_cnt hP hW hG hact
      have htau := doM_cnt hP hW hG hP0 hW0 hG0 hact
      refine x_if_ne (t := 65) (q := 60) dX11_reads_57 (by decide) rfl (fun c57 => ?_) (fun c57 => absurd c57 (by decide))
      refine x_aload_n (q := 66) dX11_reads_65 rfl rfl ?_
      refine x_dup (q := 67) dX11_reads_66 rfl rfl ?_
      refine x_getf (C := RX11) (T := TX11) (N := 29) (k := 11) (q := 70) k54_0 (by omega) rfl hiX11 (by decide) (by decide +kernel) rfl dX11_reads_67 rfl ?_
      refine x_iconst (v := 1) (q := 71) dX11_reads_70 rfl (by decide) ?_
      refine x_iadd (q := 72) dX11_reads_71 rfl ?_
      rw [nI_1]
      refine x_put (C := RX11) (T := TX11) (N := 29) (k := 11) (q := 75) (ty := .int) tyX11_ok nmX11 k54_0 (by omega) rfl hiX11 (by decide) (by decide +kernel) rfl (by decide +kernel) (fun _ => rfl) (fun _ => rfl) (Nat.le_of_ble_eq_true rfl) dX11_reads_72 rfl (fun M72 w72 o72 => ?_)
      refine x_aload_n (q := 76) dX11_reads_75 rfl rfl ?_
      have hv3_1_100 := ((o72 (100) (by omega)).trans k54_1)
      have hv3_2_103 := ((o72 (103) (by omega)).trans k54_4)
      have hR72 : oR t u lt N (doM P W G w x9.2) (nI x9.1) s9 iw9 ib9 v9 (nI (i + 1)) M72 := ⟨w72, hv3_1_100, hv3_2_103⟩
      have hM72 := rT_K hM54 hR72 (fun j h1 h2 => o72 j h1)
      refine x_callV (q := 79) (ci := 11) (c_m_token hn hN hxN hR72) eX11_reads_117 gX11_reads_X11_token w72 (by omega) rfl rfl rfl (Nat.le_of_ble_eq_true rfl) ⟨Nat.le_refl _, Nat.le_refl _⟩ dX11_reads_76 rfl rfl (fun r76 M76 p76 => ?_)
      obtain ⟨rfl, hR76, fr76⟩ := p76
      have hM76 := rT_K hM72 hR76 (fun j h1 _ => fr76 j h1)
      obtain ⟨k76_0, k76_1, k76_4⟩ := id hR76
      refine x_aload_n (q := 80) dX11_reads_79 rfl rfl ?_
      refine x_getf (C := RX11) (T := TX11) (N := 29) (k := 7) (q := 83) k76_0 (by omega) rfl hiX11 (by decide) (by decide +kernel) rfl dX11_reads_80 rfl ?_
      refine x_aload_n (q := 84) dX11_reads_83 rfl rfl ?_
      refine x_getf (C := RX11) (T := TX11) (N := 29) (k := 5) (q := 87) k76_0 (by omega) rfl hiX11 (by decide) (by decide +kernel) rfl dX11_reads_84 rfl ?_
      refine x_icmp_ge (t := 94) (q := 90) dX11_reads_87 (by decide) rfl (fun c87 => ?_) (fun c87 => ?_)
      · have hlt : ¬ tsp lt N x9.1 < N := fun h => absurd c87 (nI_ge h (by omega))
        refine x_iconst (v := 0) (q := 95) dX11_reads_94 rfl (by decide) ?_
        refine x_istore_n (L' := fun x1_95 => [(1, .int x1_95), (0, .ref 99)]) (q := 96) dX11_reads_95 rfl (by decide) (fun _ => rfl) (fun x1_95 ex1_95 => ?_)
        obtain rfl : x1_95 = 0 := ex1_95
        refine x_iload_n (q := 97) dX11_reads_96 rfl rfl ?_
        refine x_if_eq (t := 41) (q := 100) dX11_reads_97 (by decide) rfl (fun c97 => ?_) (fun c97 => absurd c97 (by decide))
        refine x_iload_n (q := 42) dX11_reads_41 rfl rfl ?_
        refine x_if_eq (t := 127) (q := 45) dX11_reads_42 (by decide) rfl (fun c42 => ?_) (fun c42 => absurd c42 (by decide))
        refine x_iconst (v := -1) (q := 128) dX11_reads_127 rfl (by decide) ?_
        refine x_iret dX11_reads_128 rfl rfl (Nat.le_refl _) ?_
        exact hQ _ _ (by rw [fnd, hres]; show mfP t u lt N P W G w (if tkK lt N x9.1 = 3 then _ else _) _ _; rw [if_pos (show tkK lt N x9.1 = 3 by unfold tkK; rw [if_neg hlt])]; exact ⟨rfl, _, _, _, _, _, hM76⟩) (fun j h1 h2 => (fr76 j h1).trans ((o72 j h1).trans ((fr54 j h1 h2).trans ((fr46 j h1).trans (hf j h1 h2)))))
      · have hlt : tsp lt N x9.1 < N := Nat.lt_of_not_le (fun h => c87 (nI_le h (by omega)))
        refine x_iconst (v := 1) (q := 91) dX11_reads_90 rfl (by decide) ?_
        refine x_goto (q := 95) dX11_reads_91 (by decide) ?_
        refine x_istore_n (L' := fun x1_95 => [(1, .int x1_95), (0, .ref 99)]) (q := 96) dX11_reads_95 rfl (by decide) (fun _ => rfl) (fun x1_95 ex1_95 => ?_)
        obtain rfl : x1_95 = 1 := ex1_95
        refine x_iload_n (q := 97) dX11_reads_96 rfl rfl ?_
        refine x_if_eq (t := 41) (q := 100) dX11_reads_97 (by decide) rfl (fun c97 => absurd c97 (by decide)) (fun c97 => ?_)
        refine x_aload_n (q := 101) dX11_reads_100 rfl rfl ?_
        refine x_aload_n (q := 102) dX11_reads_101 rfl rfl ?_
        refine x_getf (C := RX11) (T := TX11) (N := 29) (k := 7) (q := 105) k76_0 (by omega) rfl hiX11 (by decide) (by decide +kernel) rfl dX11_reads_102 rfl ?_
        refine x_callV (q := 108) (ci := 11) (c_m_let hn hN ⟨k76_0, k76_1, k76_4⟩ (k := tsp lt N x9.1) (by omega)) eX11_reads_95 gX11_reads_X11_letterAt k76_0 (by omega) rfl rfl rfl (Nat.le_of_ble_eq_true rfl) ⟨Nat.le_refl _, Nat.le_refl _⟩ dX11_reads_105 rfl rfl (fun r105 M105 p105 => ?_)
        obtain ⟨rfl, rfl⟩ := p105
        refine x_bipush (v := 59) (q := 110) dX11_reads_108 rfl (by decide) ?_
        refine x_icmp_ne (t := 122) (q := 113) dX11_reads_110 (by decide) rfl (fun c110 => ?_) (fun c110 => ?_)
        · refine x_aload_n (q := 123) dX11_reads_122 rfl rfl ?_
          refine x_getf (C := RX11) (T := TX11) (N := 29) (k := 7) (q := 126) k76_0 (by omega) rfl hiX11 (by decide) (by decide +kernel) rfl dX11_reads_123 rfl ?_
          refine x_iret dX11_reads_126 rfl rfl (Nat.le_refl _) ?_
          exact hQ _ _ (by rw [fnd, hres]; show mfP t u lt N P W G w (if tkK lt N x9.1 = 3 then _ else _) _ _; rw [if_neg (show ¬ tkK lt N x9.1 = 3 by unfold tkK; rw [if_pos hlt]; have := kd_lt (lt (tsp lt N x9.1)); omega), if_pos (Or.inl (fun h => c110 (by rw [lA_in hlt]; exact h)))]; exact ⟨by omega, rfl, _, _, _, _, _, _, _, hM76, fun k hk => doM_lo hk⟩) (fun j h1 h2 => (fr76 j h1).trans ((o72 j h1).trans ((fr54 j h1 h2).trans ((fr46 j h1).trans (hf j h1 h2)))))
        · refine x_aload_n (q := 114) dX11_reads_113 rfl rfl ?_
          refine x_getf (C := RX11) (T := TX11) (N := 29) (k := 11) (q := 117) k76_0 (by omega) rfl hiX11 (by decide) (by decide +kernel) rfl dX11_reads_114 rfl ?_
          refine x_bipush (v := 14) (q := 119) dX11_reads_117 rfl (by decide) ?_
          refine x_icmp_ne (t := 41) (q := 122) dX11_reads_119 (by decide) rfl (fun c119 => ?_) (fun c119 => ?_)
          · refine x_pick (L' := [(1, .int 1), (0, .ref 99)]) [0, 1] rfl ?_
            have hk3 : ¬ tkK lt N x9.1 = 3 := by unfold tkK; rw [if_pos hlt]; have := kd_lt (lt (tsp lt N x9.1)); omega
            have h59 : ¬ (¬ lt (tsp lt N x9.1) = 59 ∨ i + 1 = 14) := fun h => h.elim (fun z => z (by rw [← lA_in (lt := lt) hlt]; exact c110)) (fun z => c119 (by rw [z]; rfl))
            exact ih (i + 1) M76 (doM P W G w x9.2) (cP P x9.2) (cW W x9.2) (cG G x9.2) (tkE lt N x9.1) _ _ _ _ (by omega) (by omega) hxe.2 hM76 hcnt.1 hcnt.2.1 hcnt.2.2 htau.1 htau.2.1 htau.2.2 (fun j h1 h2 => (fr76 j h1).trans ((o72 j h1).trans ((fr54 j h1 h2).trans ((fr46 j h1).trans (hf j h1 h2))))) (fun M' r h1 h2 => hQ M' r (by
              rw [fnd, hres]
              show mfP t u lt N P W G w (if tkK lt N x9.1 = 3 then _ else _) _ _
              rw [if_neg hk3, if_neg h59]
              cases e9 : fnd lt N k (i + 1 + 1) (cP P x9.2) (cW W x9.2) (cG G x9.2) (tkE lt N x9.1) with
              | inl s8 =>
                rw [e9] at h1
                obtain ⟨z0, z1, w8, a8, s7, iw8, ib8, v8, c8, z2, z3⟩ := h1
                exact ⟨z0, z1, w8, a8, s7, iw8, ib8, v8, c8, z2, fun k hk => (z3 k hk).trans (doM_lo hk)⟩
              | inr y => rw [e9] at h1; exact h1) h2)
          · refine x_aload_n (q := 123) dX11_reads_122 rfl rfl ?_
            refine x_getf (C := RX11) (T := TX11) (N := 29) (k := 7) (q := 126) k76_0 (by omega) rfl hiX11 (by decide) (by decide +kernel) rfl dX11_reads_123 rfl ?_
            refine x_iret dX11_reads_126 rfl rfl (Nat.le_refl _) ?_
            exact hQ _ _ (by rw [fnd, hres]; show mfP t u lt N P W G w (if tkK lt N x9.1 = 3 then _ else _) _ _; rw [if_neg (show ¬ tkK lt N x9.1 = 3 by unfold tkK; rw [if_pos hlt]; have := kd_lt (lt (tsp lt N x9.1)); omega), if_pos (Or.inr ((nIne (b := 14) (by omega) (by decide)).mp c119))]; exact ⟨by omega, rfl, _, _, _, _, _, _, _, hM76, fun k hk => doM_lo hk⟩) (fun j h1 h2 => (fr76 j h1).trans ((o72 j h1).trans ((fr54 j h1 h2).trans ((fr46 j h1).trans (hf j h1 h2)))))

theorem oX11_rT {N : Nat} {M : Nat → xE} {t : Nat → Nat → Int32} {u : Nat → Nat → Int64} (hM : oX11 99 t u M) (h5 : t 5 0 = nI N) : oX11 99 (rT t (t 4) N (t 0) (t 6 0) (t 7 0) (t 8 0) (t 9 0) (t 10 0) (t 11 0)) u M := by
  obtain ⟨h0, h1⟩ := hM
  rw [h5] at h0
  exact ⟨h0, h1⟩
set_option maxHeartbeats 4000000 in
set_option maxRecDepth 100000 in
theorem c_m_reads {n N : Nat} {M : Nat → xE} {t : Nat → Nat → Int32} {u : Nat → Nat → Int64} (hn : 113 < n) (hN : N ≤ 160) (hM : oX11 99 t u M) (h5 : t 5 0 = nI N) {P W G : Nat} (hP : P ≤ 5) (hW : W ≤ 6) (hG : G ≤ 5) (hP0 : t 0 0 = nI P) (hW0 : t 0 11 = nI W) (hG0 : t 0 37 = nI G) : xMet mX11_reads [.ref 99] n M (fun r M' => mfP t u (t 4) N P W G (cpW (t 0) 61) (fnd (t 4) N 14 1 P W G 0) r M' ∧ ∀ j, ¬ j = 99 → ¬ j = 100 → M' j = M j) := by
  have hM0 := oX11_rT hM h5
  have hR0 := rT_R hM0
  obtain ⟨mp0, mp1, mp4⟩ := id hR0
  have hiX11 : ∀ w ∈ wsX110, w ∈ wsX11_reads := by decide +kernel
  refine xMet.of _ (by decide) rfl (Nat.le_of_ble_eq_true rfl) ?_
  refine x_iconst (v := 0) (q := 1) dX11_reads_0 rfl (by decide) ?_
  refine x_istore_n (L' := fun x1_1 => [(1, .int x1_1), (0, .ref 99)]) (q := 2) dX11_reads_1 rfl (by decide) (fun _ => rfl) (fun x1_1 ex1_1 => ?_)
  subst ex1_1
  refine l_rd1 (M0 := M) (w := t 0) hn 61 0 M (by omega) (by rw [cpW_0]; exact hR0) (fun j _ _ => rfl) (fun M29 hR29 fr29 => ?_)
  have hM29 := rT_K hM0 hR29 fr29
  obtain ⟨k0, k1, k4⟩ := id hR29
  refine x_aload_n (q := 30) dX11_reads_29 rfl rfl ?_
  refine x_iconst (v := 0) (q := 31) dX11_reads_30 rfl (by decide) ?_
  refine x_put (C := RX11) (T := TX11) (N := 29) (k := 6) (q := 34) (ty := .int) tyX11_ok nmX11 k0 (by omega) rfl hiX11 (by decide) (by decide +kernel) rfl (by decide +kernel) (fun _ => rfl) (fun _ => rfl) (Nat.le_of_ble_eq_true rfl) dX11_reads_31 rfl (fun M31 w31 o31 => ?_)
  refine x_aload_n (q := 35) dX11_reads_34 rfl rfl ?_
  refine x_iconst (v := 0) (q := 36) dX11_reads_35 rfl (by decide) ?_
  refine x_put (C := RX11) (T := TX11) (N := 29) (k := 11) (q := 39) (ty := .int) tyX11_ok nmX11 w31 (by omega) rfl hiX11 (by decide) (by decide +kernel) rfl (by decide +kernel) (fun _ => rfl) (fun _ => rfl) (Nat.le_of_ble_eq_true rfl) dX11_reads_36 rfl (fun M36 w36 o36 => ?_)
  refine x_iconst (v := 1) (q := 40) dX11_reads_39 rfl (by decide) ?_
  refine x_istore_n (L' := fun x1_40 => [(1, .int x1_40), (0, .ref 99)]) (q := 41) dX11_reads_40 rfl (by decide) (fun _ => rfl) (fun x1_40 ex1_40 => ?_)
  rw [show x1_40 = 1 from ex1_40]
  have hv2_1_100 := ((o36 (100) (by omega)).trans ((o31 (100) (by omega)).trans k1))
  have hv2_2_103 := ((o36 (103) (by omega)).trans ((o31 (103) (by omega)).trans k4))
  refine x_pick (L' := [(1, .int 1), (0, .ref 99)]) [0, 1] rfl ?_
  have hR41 : oR t u (t 4) N (cpW (t 0) 61) (nI 0) (t 7 0) (t 8 0) (t 9 0) (t 10 0) (nI 0) M36 := ⟨w36, hv2_1_100, hv2_2_103⟩
  have hM41 := rT_K hM29 hR41 (fun j h1 h2 => (o36 j h1).trans (o31 j h1))
  have hc : ∀ j, j < 61 → cpW (t 0) 61 (61 + j) = t 0 j := fun j hj => by unfold cpW; rw [if_pos (by omega), Nat.add_sub_cancel_left]
  exact l_rd2 (M0 := M) hn hN 14 0 M36 (cpW (t 0) 61) P W G 0 _ _ _ _ rfl (by decide) (Nat.zero_le _) hM41 hP hW hG ((hc 0 (by decide)).trans hP0) ((hc 11 (by decide)).trans hW0) ((hc 37 (by decide)).trans hG0) (fun j h1 h2 => (o36 j h1).trans ((o31 j h1).trans (fr29 j h1 h2))) (fun M' r h1 h2 => ⟨h1, h2⟩)
  

