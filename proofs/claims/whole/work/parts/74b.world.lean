theorem oX0.keep {q : Nat} {t : Nat → Nat → Int32} {M M' : Nat → xE} (h : oX0 q t M) (e : ∀ j, q ≤ j → j < q + 4 → M' j = M j) : oX0 q t M' := by
  obtain ⟨h0, h1, h2, h3⟩ := h
  exact ⟨(e _ (by omega) (by omega)).trans h0, (e _ (by omega) (by omega)).trans h1, (e _ (by omega) (by omega)).trans h2, (e _ (by omega) (by omega)).trans h3⟩
theorem oX1.keep {q : Nat} {t : Nat → Nat → Int32} {u : Nat → Nat → Int64} {M M' : Nat → xE} (h : oX1 q t u M) (e : ∀ j, q ≤ j → j < q + 7 → M' j = M j) : oX1 q t u M' := by
  obtain ⟨h0, h1, h2, h3, h4, h5, h6⟩ := h
  exact ⟨(e _ (by omega) (by omega)).trans h0, (e _ (by omega) (by omega)).trans h1, (e _ (by omega) (by omega)).trans h2, (e _ (by omega) (by omega)).trans h3, (e _ (by omega) (by omega)).trans h4, (e _ (by omega) (by omega)).trans h5, (e _ (by omega) (by omega)).trans h6⟩
theorem oX2.keep {q : Nat} {t : Nat → Nat → Int32} {M M' : Nat → xE} (h : oX2 q t M) (e : ∀ j, q ≤ j → j < q + 3 → M' j = M j) : oX2 q t M' := by
  obtain ⟨h0, h1, h2⟩ := h
  exact ⟨(e _ (by omega) (by omega)).trans h0, (e _ (by omega) (by omega)).trans h1, (e _ (by omega) (by omega)).trans h2⟩
theorem oX4.keep {q : Nat} {t : Nat → Nat → Int32} {M M' : Nat → xE} (h : oX4 q t M) (e : ∀ j, q ≤ j → j < q + 3 → M' j = M j) : oX4 q t M' := by
  obtain ⟨h0, h1, h2⟩ := h
  exact ⟨(e _ (by omega) (by omega)).trans h0, (e _ (by omega) (by omega)).trans h1, (e _ (by omega) (by omega)).trans h2⟩
theorem oX6.keep {q : Nat} {t : Nat → Nat → Int32} {M M' : Nat → xE} (h : oX6 q t M) (e : ∀ j, q ≤ j → j < q + 8 → M' j = M j) : oX6 q t M' := by
  obtain ⟨h0, h1, h2, h3, h4, h5, h6, h7⟩ := h
  exact ⟨(e _ (by omega) (by omega)).trans h0, (e _ (by omega) (by omega)).trans h1, (e _ (by omega) (by omega)).trans h2, (e _ (by omega) (by omega)).trans h3, (e _ (by omega) (by omega)).trans h4, (e _ (by omega) (by omega)).trans h5, (e _ (by omega) (by omega)).trans h6, (e _ (by omega) (by omega)).trans h7⟩
theorem oX7.keep {q : Nat} {t : Nat → Nat → Int32} {M M' : Nat → xE} (h : oX7 q t M) (e : ∀ j, q ≤ j → j < q + 2 → M' j = M j) : oX7 q t M' := by
  obtain ⟨h0, h1⟩ := h
  exact ⟨(e _ (by omega) (by omega)).trans h0, (e _ (by omega) (by omega)).trans h1⟩
theorem oX9.keep {q : Nat} {t : Nat → Nat → Int32} {M M' : Nat → xE} (h : oX9 q t M) (e : ∀ j, q ≤ j → j < q + 2 → M' j = M j) : oX9 q t M' := by
  obtain ⟨h0, h1⟩ := h
  exact ⟨(e _ (by omega) (by omega)).trans h0, (e _ (by omega) (by omega)).trans h1⟩
theorem oX11.keep {q : Nat} {t : Nat → Nat → Int32} {u : Nat → Nat → Int64} {M M' : Nat → xE} (h : oX11 q t u M) (e : ∀ j, q ≤ j → j < q + 15 → M' j = M j) : oX11 q t u M' := by
  obtain ⟨h0, h1, h2, h3, h4, h5, h6, h7, h8, h9, h10, h11, h12, h13, h14⟩ := h
  exact ⟨(e _ (by omega) (by omega)).trans h0, (e _ (by omega) (by omega)).trans h1, (e _ (by omega) (by omega)).trans h2, (e _ (by omega) (by omega)).trans h3, (e _ (by omega) (by omega)).trans h4, (e _ (by omega) (by omega)).trans h5, (e _ (by omega) (by omega)).trans h6, (e _ (by omega) (by omega)).trans h7, (e _ (by omega) (by omega)).trans h8, (e _ (by omega) (by omega)).trans h9, (e _ (by omega) (by omega)).trans h10, (e _ (by omega) (by omega)).trans h11, (e _ (by omega) (by omega)).trans h12, (e _ (by omega) (by omega)).trans h13, (e _ (by omega) (by omega)).trans h14⟩
theorem oX10.keep {kb : Int32} {M M' : Nat → xE} (h : oX10 kb M) (e : M' 0 = M 0) : oX10 kb M' := e.trans h
theorem oPl.keep {M M' : Nat → xE} (h : oPl M) (e : ∀ j, 72 ≤ j → j < 80 → M' j = M j) : oPl M' := by
  obtain ⟨t, h1, h2⟩ := h
  exact ⟨t, h1.keep e, h2⟩
theorem oMa.keep {M M' : Nat → xE} (h : oMa M) (e : ∀ j, 80 ≤ j → j < 83 → M' j = M j) : oMa M' := by
  obtain ⟨t, h1⟩ := h
  exact ⟨t, h1.keep e⟩
theorem oCh.keep {tc : Nat → Nat → Int32} {M M' : Nat → xE} (h : oCh tc M) (e : ∀ j, 83 ≤ j → j < 90 → M' j = M j) : oCh tc M' := by
  obtain ⟨u, h1⟩ := h
  exact ⟨u, h1.keep e⟩
theorem oCo.keep {M M' : Nat → xE} (h : oCo M) (e : ∀ j, 90 ≤ j → j < 93 → M' j = M j) : oCo M' := by
  obtain ⟨t, h1, h2⟩ := h
  exact ⟨t, h1.keep e, h2⟩
theorem oBa.keep {B : Nat} {s : Nat → Int32} {M M' : Nat → xE} (h : oBa B s M) (e : ∀ j, 95 ≤ j → j < 99 → M' j = M j) : oBa B s M' := by
  obtain ⟨t, h1, h2⟩ := h
  exact ⟨t, h1.keep e, h2⟩
def WC (kb : Int32) (τ tx δ tc tw : Nat → Nat → Int32) (sz nx : Nat) (Dp K : Nat → Nat → Nat → Int32) (Bb : Nat) (sb : Nat → Int32) (M : Nat → xE) : Prop :=
  oX10 kb M ∧ oX8 1 τ M ∧ oX7 12 tx M ∧ (∃ τd, oX8 14 τd M) ∧ oX3 25 δ M ∧ oPast 29 sz nx Dp M ∧ oKept K M ∧ oPl M ∧ oMa M ∧ oCh tc M ∧ oCo M ∧ oX9 93 tw M ∧ oBa Bb sb M
theorem WC.low {kb : Int32} {τ tx δ tc tw : Nat → Nat → Int32} {sz nx : Nat} {Dp K : Nat → Nat → Nat → Int32} {Bb : Nat} {sb : Nat → Int32} {M M' : Nat → xE} (h : WC kb τ tx δ tc tw sz nx Dp K Bb sb M)  (e : ∀ j, j < 99 → M' j = M j) : WC kb τ tx δ tc tw sz nx Dp K Bb sb M' := by
  obtain ⟨hx, ht, htx, hdr, hd, hpa, hke, hpl, hma, hch, hco, hwo, hba⟩ := h
  exact ⟨(hx.keep (e 0 (by omega))), (ht.keep (fun j a b => e j (by omega))), (htx.keep (fun j a b => e j (by omega))), (by obtain ⟨y, hy⟩ := hdr; exact ⟨y, hy.keep (fun j a b => e j (by omega))⟩), (hd.keep (fun j a b => e j (by omega))), (hpa.keep (fun j a b => e j (by omega))), (hke.keep (fun j a b => e j (by omega))), (hpl.keep (fun j a b => e j (by omega))), (hma.keep (fun j a b => e j (by omega))), (hch.keep (fun j a b => e j (by omega))), (hco.keep (fun j a b => e j (by omega))), (hwo.keep (fun j a b => e j (by omega))), (hba.keep (fun j a b => e j (by omega)))⟩
theorem wc_day {kb : Int32} {τ tx δ tc tw : Nat → Nat → Int32} {sz nx : Nat} {Dp K : Nat → Nat → Nat → Int32} {Bb : Nat} {sb : Nat → Int32} {M M' : Nat → xE} (h : WC kb τ tx δ tc tw sz nx Dp K Bb sb M) {δ' : Nat → Nat → Int32} {sz' nx' : Nat} {Dp' : Nat → Nat → Nat → Int32} (n1 : oX3 25 δ' M') (n2 : oPast 29 sz' nx' Dp' M') (e : xfr 25 63 M M') : WC kb τ tx δ' tc tw sz' nx' Dp' K Bb sb M' := by
  obtain ⟨hx, ht, htx, hdr, -, -, hke, hpl, hma, hch, hco, hwo, hba⟩ := h
  exact ⟨(hx.keep (e 0 (by omega))), (ht.keep (fun j a b => e j (by omega))), (htx.keep (fun j a b => e j (by omega))), (by obtain ⟨y, hy⟩ := hdr; exact ⟨y, hy.keep (fun j a b => e j (by omega))⟩), n1, n2, (hke.keep (fun j a b => e j (by omega))), (hpl.keep (fun j a b => e j (by omega))), (hma.keep (fun j a b => e j (by omega))), (hch.keep (fun j a b => e j (by omega))), (hco.keep (fun j a b => e j (by omega))), (hwo.keep (fun j a b => e j (by omega))), (hba.keep (fun j a b => e j (by omega)))⟩
theorem wc_pl {kb : Int32} {τ tx δ tc tw : Nat → Nat → Int32} {sz nx : Nat} {Dp K : Nat → Nat → Nat → Int32} {Bb : Nat} {sb : Nat → Int32} {M M' : Nat → xE} (h : WC kb τ tx δ tc tw sz nx Dp K Bb sb M) (n1 : oPl M') (e : xfr 72 80 M M') : WC kb τ tx δ tc tw sz nx Dp K Bb sb M' := by
  obtain ⟨hx, ht, htx, hdr, hd, hpa, hke, -, hma, hch, hco, hwo, hba⟩ := h
  exact ⟨(hx.keep (e 0 (by omega))), (ht.keep (fun j a b => e j (by omega))), (htx.keep (fun j a b => e j (by omega))), (by obtain ⟨y, hy⟩ := hdr; exact ⟨y, hy.keep (fun j a b => e j (by omega))⟩), (hd.keep (fun j a b => e j (by omega))), (hpa.keep (fun j a b => e j (by omega))), (hke.keep (fun j a b => e j (by omega))), n1, (hma.keep (fun j a b => e j (by omega))), (hch.keep (fun j a b => e j (by omega))), (hco.keep (fun j a b => e j (by omega))), (hwo.keep (fun j a b => e j (by omega))), (hba.keep (fun j a b => e j (by omega)))⟩
theorem wc_ma {kb : Int32} {τ tx δ tc tw : Nat → Nat → Int32} {sz nx : Nat} {Dp K : Nat → Nat → Nat → Int32} {Bb : Nat} {sb : Nat → Int32} {M M' : Nat → xE} (h : WC kb τ tx δ tc tw sz nx Dp K Bb sb M) (n1 : oMa M') (e : xfr 80 83 M M') : WC kb τ tx δ tc tw sz nx Dp K Bb sb M' := by
  obtain ⟨hx, ht, htx, hdr, hd, hpa, hke, hpl, -, hch, hco, hwo, hba⟩ := h
  exact ⟨(hx.keep (e 0 (by omega))), (ht.keep (fun j a b => e j (by omega))), (htx.keep (fun j a b => e j (by omega))), (by obtain ⟨y, hy⟩ := hdr; exact ⟨y, hy.keep (fun j a b => e j (by omega))⟩), (hd.keep (fun j a b => e j (by omega))), (hpa.keep (fun j a b => e j (by omega))), (hke.keep (fun j a b => e j (by omega))), (hpl.keep (fun j a b => e j (by omega))), n1, (hch.keep (fun j a b => e j (by omega))), (hco.keep (fun j a b => e j (by omega))), (hwo.keep (fun j a b => e j (by omega))), (hba.keep (fun j a b => e j (by omega)))⟩
theorem wc_ch {kb : Int32} {τ tx δ tc tw : Nat → Nat → Int32} {sz nx : Nat} {Dp K : Nat → Nat → Nat → Int32} {Bb : Nat} {sb : Nat → Int32} {M M' : Nat → xE} (h : WC kb τ tx δ tc tw sz nx Dp K Bb sb M) {tc' : Nat → Nat → Int32} (n1 : oCh tc' M') (e : xfr 83 90 M M') : WC kb τ tx δ tc' tw sz nx Dp K Bb sb M' := by
  obtain ⟨hx, ht, htx, hdr, hd, hpa, hke, hpl, hma, -, hco, hwo, hba⟩ := h
  exact ⟨(hx.keep (e 0 (by omega))), (ht.keep (fun j a b => e j (by omega))), (htx.keep (fun j a b => e j (by omega))), (by obtain ⟨y, hy⟩ := hdr; exact ⟨y, hy.keep (fun j a b => e j (by omega))⟩), (hd.keep (fun j a b => e j (by omega))), (hpa.keep (fun j a b => e j (by omega))), (hke.keep (fun j a b => e j (by omega))), (hpl.keep (fun j a b => e j (by omega))), (hma.keep (fun j a b => e j (by omega))), n1, (hco.keep (fun j a b => e j (by omega))), (hwo.keep (fun j a b => e j (by omega))), (hba.keep (fun j a b => e j (by omega)))⟩
theorem wc_co {kb : Int32} {τ tx δ tc tw : Nat → Nat → Int32} {sz nx : Nat} {Dp K : Nat → Nat → Nat → Int32} {Bb : Nat} {sb : Nat → Int32} {M M' : Nat → xE} (h : WC kb τ tx δ tc tw sz nx Dp K Bb sb M) (n1 : oCo M') (e : xfr 90 93 M M') : WC kb τ tx δ tc tw sz nx Dp K Bb sb M' := by
  obtain ⟨hx, ht, htx, hdr, hd, hpa, hke, hpl, hma, hch, -, hwo, hba⟩ := h
  exact ⟨(hx.keep (e 0 (by omega))), (ht.keep (fun j a b => e j (by omega))), (htx.keep (fun j a b => e j (by omega))), (by obtain ⟨y, hy⟩ := hdr; exact ⟨y, hy.keep (fun j a b => e j (by omega))⟩), (hd.keep (fun j a b => e j (by omega))), (hpa.keep (fun j a b => e j (by omega))), (hke.keep (fun j a b => e j (by omega))), (hpl.keep (fun j a b => e j (by omega))), (hma.keep (fun j a b => e j (by omega))), (hch.keep (fun j a b => e j (by omega))), n1, (hwo.keep (fun j a b => e j (by omega))), (hba.keep (fun j a b => e j (by omega)))⟩
theorem wc_wo {kb : Int32} {τ tx δ tc tw : Nat → Nat → Int32} {sz nx : Nat} {Dp K : Nat → Nat → Nat → Int32} {Bb : Nat} {sb : Nat → Int32} {M M' : Nat → xE} (h : WC kb τ tx δ tc tw sz nx Dp K Bb sb M) {tw' : Nat → Nat → Int32} (n1 : oX9 93 tw' M') (e : xfr 93 95 M M') : WC kb τ tx δ tc tw' sz nx Dp K Bb sb M' := by
  obtain ⟨hx, ht, htx, hdr, hd, hpa, hke, hpl, hma, hch, hco, -, hba⟩ := h
  exact ⟨(hx.keep (e 0 (by omega))), (ht.keep (fun j a b => e j (by omega))), (htx.keep (fun j a b => e j (by omega))), (by obtain ⟨y, hy⟩ := hdr; exact ⟨y, hy.keep (fun j a b => e j (by omega))⟩), (hd.keep (fun j a b => e j (by omega))), (hpa.keep (fun j a b => e j (by omega))), (hke.keep (fun j a b => e j (by omega))), (hpl.keep (fun j a b => e j (by omega))), (hma.keep (fun j a b => e j (by omega))), (hch.keep (fun j a b => e j (by omega))), (hco.keep (fun j a b => e j (by omega))), n1, (hba.keep (fun j a b => e j (by omega)))⟩
theorem wc_ba {kb : Int32} {τ tx δ tc tw : Nat → Nat → Int32} {sz nx : Nat} {Dp K : Nat → Nat → Nat → Int32} {Bb : Nat} {sb : Nat → Int32} {M M' : Nat → xE} (h : WC kb τ tx δ tc tw sz nx Dp K Bb sb M) {Bb' : Nat} {sb' : Nat → Int32} (n1 : oBa Bb' sb' M') (e : xfr 95 99 M M') : WC kb τ tx δ tc tw sz nx Dp K Bb' sb' M' := by
  obtain ⟨hx, ht, htx, hdr, hd, hpa, hke, hpl, hma, hch, hco, hwo, -⟩ := h
  exact ⟨(hx.keep (e 0 (by omega))), (ht.keep (fun j a b => e j (by omega))), (htx.keep (fun j a b => e j (by omega))), (by obtain ⟨y, hy⟩ := hdr; exact ⟨y, hy.keep (fun j a b => e j (by omega))⟩), (hd.keep (fun j a b => e j (by omega))), (hpa.keep (fun j a b => e j (by omega))), (hke.keep (fun j a b => e j (by omega))), (hpl.keep (fun j a b => e j (by omega))), (hma.keep (fun j a b => e j (by omega))), (hch.keep (fun j a b => e j (by omega))), (hco.keep (fun j a b => e j (by omega))), (hwo.keep (fun j a b => e j (by omega))), n1⟩
theorem wc_tx {kb : Int32} {τ tx δ tc tw : Nat → Nat → Int32} {sz nx : Nat} {Dp K : Nat → Nat → Nat → Int32} {Bb : Nat} {sb : Nat → Int32} {M M' : Nat → xE} (h : WC kb τ tx δ tc tw sz nx Dp K Bb sb M) {tx' : Nat → Nat → Int32} (n1 : oX7 12 tx' M') (e : xfr 12 14 M M') : WC kb τ tx' δ tc tw sz nx Dp K Bb sb M' := by
  obtain ⟨hx, ht, -, hdr, hd, hpa, hke, hpl, hma, hch, hco, hwo, hba⟩ := h
  exact ⟨(hx.keep (e 0 (by omega))), (ht.keep (fun j a b => e j (by omega))), n1, (by obtain ⟨y, hy⟩ := hdr; exact ⟨y, hy.keep (fun j a b => e j (by omega))⟩), (hd.keep (fun j a b => e j (by omega))), (hpa.keep (fun j a b => e j (by omega))), (hke.keep (fun j a b => e j (by omega))), (hpl.keep (fun j a b => e j (by omega))), (hma.keep (fun j a b => e j (by omega))), (hch.keep (fun j a b => e j (by omega))), (hco.keep (fun j a b => e j (by omega))), (hwo.keep (fun j a b => e j (by omega))), (hba.keep (fun j a b => e j (by omega)))⟩
theorem wc_txd {kb : Int32} {τ tx δ tc tw : Nat → Nat → Int32} {sz nx : Nat} {Dp K : Nat → Nat → Nat → Int32} {Bb : Nat} {sb : Nat → Int32} {M M' : Nat → xE} (h : WC kb τ tx δ tc tw sz nx Dp K Bb sb M) {tx' : Nat → Nat → Int32} (n1 : oX7 12 tx' M') (n2 : ∃ y, oX8 14 y M') (e : xfr 12 25 M M') : WC kb τ tx' δ tc tw sz nx Dp K Bb sb M' := by
  obtain ⟨hx, ht, -, -, hd, hpa, hke, hpl, hma, hch, hco, hwo, hba⟩ := h
  exact ⟨(hx.keep (e 0 (by omega))), (ht.keep (fun j a b => e j (by omega))), n1, n2, (hd.keep (fun j a b => e j (by omega))), (hpa.keep (fun j a b => e j (by omega))), (hke.keep (fun j a b => e j (by omega))), (hpl.keep (fun j a b => e j (by omega))), (hma.keep (fun j a b => e j (by omega))), (hch.keep (fun j a b => e j (by omega))), (hco.keep (fun j a b => e j (by omega))), (hwo.keep (fun j a b => e j (by omega))), (hba.keep (fun j a b => e j (by omega)))⟩
theorem wc_keep {kb : Int32} {τ tx δ tc tw : Nat → Nat → Int32} {sz nx : Nat} {Dp K : Nat → Nat → Nat → Int32} {Bb : Nat} {sb : Nat → Int32} {M M' : Nat → xE} (h : WC kb τ tx δ tc tw sz nx Dp K Bb sb M) {kb' : Int32} {K' : Nat → Nat → Nat → Int32} (n1 : oX10 kb' M') (n2 : oKept K' M') (e : ∀ j, j ≠ 0 → (j < 64 ∨ 72 ≤ j) → M' j = M j) : WC kb' τ tx δ tc tw sz nx Dp K' Bb sb M' := by
  obtain ⟨-, ht, htx, hdr, hd, hpa, -, hpl, hma, hch, hco, hwo, hba⟩ := h
  exact ⟨n1, (ht.keep (fun j a b => e j (by omega) (by omega))), (htx.keep (fun j a b => e j (by omega) (by omega))), (by obtain ⟨y, hy⟩ := hdr; exact ⟨y, hy.keep (fun j a b => e j (by omega) (by omega))⟩), (hd.keep (fun j a b => e j (by omega) (by omega))), (hpa.keep (fun j a b => e j (by omega) (by omega))), n2, (hpl.keep (fun j a b => e j (by omega) (by omega))), (hma.keep (fun j a b => e j (by omega) (by omega))), (hch.keep (fun j a b => e j (by omega) (by omega))), (hco.keep (fun j a b => e j (by omega) (by omega))), (hwo.keep (fun j a b => e j (by omega) (by omega))), (hba.keep (fun j a b => e j (by omega) (by omega)))⟩
def pA (τ : Nat → Nat → Int32) (P W G : Nat) (w : Nat → Int32) : Prop := RT τ P W G w ∧ TOK τ P W G
def pB (δ : Nat → Nat → Int32) (P : Nat) (d : Nat → Int32) : Prop := (∀ k, k < 22 → d k = dv δ k) ∧ DOK δ P
def pC (P sz nx : Nat) (Dp : Nat → Nat → Nat → Int32) (d s : Nat → Int32) : Prop := sz ≤ 8 ∧ nx < 8 ∧ s 0 = nI sz ∧ RU d Dp nx sz ∧ ∀ i, i < sz → DOK (Dp ((nx + 8 - sz + i) % 8)) P
def pD (P : Nat) (kb : Int32) (K : Nat → Nat → Nat → Int32) (d k : Nat → Int32) : Prop := (∃ m, m < 4 ∧ kb = nI m ∧ ∀ j, j < 2 → k j = bo (nI m) (nI j)) ∧ ∀ j, j < 2 → ¬ k j = 0 → DOK (K j) P ∧ ∀ i, i < 22 → d (22 + 22 * j + i) = dv (K j) i
def pE (N : Nat) (tx : Nat → Nat → Int32) (l s : Nat → Int32) : Prop := N ≤ 160 ∧ tx 2 0 = nI N ∧ s 0 = nI N ∧ l = tx 0
def pF (tc : Nat → Nat → Int32) (B : Nat) (s x y z : Nat → Int32) : Prop := B ≤ 6 ∧ tc 0 0 = nI B ∧ s 0 = nI B ∧ ∀ i, i < B → tc 1 i = x i ∧ tc 2 i = y i ∧ tc 3 i = z i ∧ vp_in (z i) 2
def pG (tw : Nat → Nat → Int32) (B : Nat) (s x : Nat → Int32) : Prop := B ≤ 6 ∧ tw 0 0 = nI B ∧ s 0 = nI B ∧ ∀ i, i < B → tw 1 i = x i ∧ vp_in (x i) 64
def pH (P B : Nat) (sb s x : Nat → Int32) : Prop := B ≤ 9 ∧ s 0 = nI B ∧ sb = x ∧ BOK x B P
def INV (M : Nat → xE) : Prop := ∃ (kb : Int32) (τ tx δ tc tw : Nat → Nat → Int32) (sz nx : Nat) (Dp K : Nat → Nat → Nat → Int32) (Bb : Nat) (sb : Nat → Int32) (t : Nat → Nat → Int32) (u : Nat → Nat → Int64) (P W G N Bs Bw : Nat),
  WC kb τ tx δ tc tw sz nx Dp K Bb sb M ∧ oX11 99 t u M ∧ pA τ P W G (t 0) ∧ pB δ P (t 1) ∧ pC P sz nx Dp (t 1) (t 2) ∧ pD P kb K (t 1) (t 3) ∧ pE N tx (t 4) (t 5) ∧ pF tc Bs (t 18) (t 19) (t 20) (t 21) ∧ pG tw Bw (t 22) (t 23) ∧ pH P Bb sb (t 27) (t 28)
def mAt (M : Nat → xE) : Prop := ∃ l, M 99 = .inr (11, l)
def BotR (g : xM) (as : List Value) (v : Int32) (M : Nat → xE) : Prop := mAt M ∧ ∃ Q, xMet g (.ref 99 :: as) 114 M Q ∧ ∀ r M', Q r M' → some (.int v) = r ∧ INV M'
def BotI (f g : xM) (as : List Value) (M : Nat → xE) : Prop := ∃ Q, xMet f (.ref 0 :: as) 114 M Q ∧ ∀ r M', Q r M' → ∃ v, some (.int v) = r ∧ BotR g as v M'
def BotS (g : xM) (as : List Value) (v : Int64) (M : Nat → xE) : Prop := mAt M ∧ ∃ Q, xMet g (.ref 99 :: as) 114 M Q ∧ ∀ r M', Q r M' → some (.long v) = r ∧ INV M'
def BotL (f g : xM) (as : List Value) (M : Nat → xE) : Prop := ∃ Q, xMet f (.ref 0 :: as) 114 M Q ∧ ∀ r M', Q r M' → ∃ v, some (.long v) = r ∧ BotS g as v M'
theorem at11 {t : Nat → Nat → Int32} {u : Nat → Nat → Int64} {M : Nat → xE} (h : oX11 99 t u M) : mAt M := by
  obtain ⟨h0, -⟩ := h
  exact ⟨_, h0⟩
theorem inv_mat {M : Nat → xE} (h : INV M) : mAt M := by
  obtain ⟨kb, τ, tx, δ, tc, tw, sz, nx, Dp, K, Bb, sb, t, u, P, W, G, N, Bs, Bw, hC, hM, -⟩ := h
  exact at11 hM
theorem bot_rd {f g : xM} {as : List Value} {M : Nat → xE} {k k' : Int32} (hI : INV M) (h1 : xMet f (.ref 0 :: as) 114 M (fun r M' => M = M' ∧ some (.int k) = r)) (h2 : xMet g (.ref 99 :: as) 114 M (fun r M' => M = M' ∧ some (.int k') = r)) (he : k = k') : BotI f g as M := by
  subst he
  refine ⟨_, h1, fun r M1 q => ?_⟩
  obtain ⟨rfl, rfl⟩ := q
  refine ⟨_, rfl, inv_mat hI, _, h2, fun r M2 z => ?_⟩
  obtain ⟨rfl, rfl⟩ := z
  exact ⟨rfl, hI⟩
theorem bot_no {g : xM} {as : List Value} {M : Nat → xE} {v : Int32} {Q : Option Value → (Nat → xE) → Prop} (hI : INV M) (h : xMet g (.ref 99 :: as) 114 M Q) (e : ∀ r M', Q r M' → M = M' ∧ some (.int v) = r) : BotR g as v M := by
  refine ⟨inv_mat hI, _, h, fun r M2 z => ?_⟩
  obtain ⟨rfl, rfl⟩ := e _ _ z
  exact ⟨rfl, hI⟩
theorem oX11.up {t : Nat → Nat → Int32} {u : Nat → Nat → Int64} {M M' : Nat → xE} {a b : Nat} (h : oX11 99 t u M) (e : xfr a b M M') (hb : b ≤ 99) : oX11 99 t u M' := h.keep (fun j c d => e j (by omega))
theorem WC.dn {kb : Int32} {τ tx δ tc tw : Nat → Nat → Int32} {sz nx : Nat} {Dp K : Nat → Nat → Nat → Int32} {Bb : Nat} {sb : Nat → Int32} {M M' : Nat → xE} (h : WC kb τ tx δ tc tw sz nx Dp K Bb sb M) (e : xfr 99 114 M M') : WC kb τ tx δ tc tw sz nx Dp K Bb sb M' := h.low (fun j c => e j (by omega))
theorem rt_cong {τ : Nat → Nat → Int32} {P W G : Nat} {w w' : Nat → Int32} (h : RT τ P W G w) (e : ∀ k, k < 61 → w' k = w k) : RT τ P W G w' := by
  obtain ⟨⟨h1, h2, h3, h4, h5, h6, h7⟩, hp, hw, hg, hr⟩ := h
  refine ⟨⟨h1, h2, h3, (e 0 (by omega)).trans h4, (e 11 (by omega)).trans h5, (e 37 (by omega)).trans h6, (e 36 (by omega)).trans h7⟩, fun j hj => ?_, fun j hj => ?_, fun j hj => ?_, fun j hj => ?_⟩
  · rw [e (1 + j) (by omega), e (6 + j) (by omega)]; exact hp j hj
  · rw [e (12 + j) (by omega), e (18 + j) (by omega), e (24 + j) (by omega), e (30 + j) (by omega)]; exact hw j hj
  · rw [e (38 + j) (by omega), e (43 + j) (by omega), e (48 + j) (by omega)]; exact hg j hj
  · rw [e (53 + j) (by omega), e (57 + j) (by omega)]; exact hr j hj
theorem inv_deed {kb : Int32} {τ tx δ tc tw : Nat → Nat → Int32} {sz nx : Nat} {Dp K : Nat → Nat → Nat → Int32} {Bb : Nat} {sb : Nat → Int32} {t : Nat → Nat → Int32} {u : Nat → Nat → Int64} {P W G N Bs Bw : Nat} {M M1 M2 : Nat → xE} {δ' : Nat → Nat → Int32} (hC : WC kb τ tx δ tc tw sz nx Dp K Bb sb M) (hA : pA τ P W G (t 0)) (hB : pB δ P (t 1)) (hc : pC P sz nx Dp (t 1) (t 2)) (hd : pD P kb K (t 1) (t 3)) (he : pE N tx (t 4) (t 5)) (hf : pF tc Bs (t 18) (t 19) (t 20) (t 21)) (hg : pG tw Bw (t 22) (t 23)) (hh : pH P Bb sb (t 27) (t 28)) (hδ : DOK δ' P) (q1 : oX3 25 δ' M1) (q2 : oPast 29 (pSz sz) ((nx + 1) % 8) (pPut Dp nx δ) M1) (q3 : xfr 25 63 M M1) (z : mDeed t u sz δ' M1 M2) : INV M2 := by
  obtain ⟨D, z1, z2, z3, z4⟩ := z
  obtain ⟨c1, c2, c3, c4, c5⟩ := hc
  refine ⟨kb, τ, tx, δ', tc, tw, pSz sz, (nx + 1) % 8, pPut Dp nx δ, K, Bb, sb, dT t D (pSz sz), u, P, W, G, N, Bs, Bw, (wc_day hC q1 q2 q3).dn z2, z1, hA, ⟨z3, hδ⟩, ⟨?_, by omega, rfl, ?_, ?_⟩, ⟨hd.1, fun j hj hk => ?_⟩, he, hf, hg, hh⟩
  · unfold pSz; split <;> omega
  · intro i hi k hk
    show D (66 + 22 * i + k) = _
    rw [z4 _ (by omega)]
    exact RU_put c2 c1 c4 hB.1 i hi k hk
  · intro i hi
    show DOK (pPut Dp nx δ (((nx + 1) % 8 + 8 - pSz sz + i) % 8)) P
    unfold pPut
    by_cases e : ((nx + 1) % 8 + 8 - pSz sz + i) % 8 = nx
    · rw [if_pos e]; exact hB.2
    · rw [if_neg e]
      unfold pSz at hi e ⊢
      by_cases s8 : sz + 1 ≤ 8
      · rw [if_pos s8] at hi e ⊢
        have hx : ((nx + 1) % 8 + 8 - (sz + 1) + i) % 8 = (nx + 8 - sz + i) % 8 := by omega
        rw [hx]
        exact c5 i (by omega)
      · rw [if_neg s8] at hi e ⊢
        have hx : ((nx + 1) % 8 + 8 - 8 + i) % 8 = (nx + 8 - sz + (i + 1)) % 8 := by omega
        rw [hx]
        exact c5 (i + 1) (by omega)
  · obtain ⟨d1, d2⟩ := hd.2 j hj hk
    refine ⟨d1, fun i hi => ?_⟩
    show D (22 + 22 * j + i) = _
    rw [z4 _ (by omega), mindD_lo _ (by omega)]
    exact d2 i hi
