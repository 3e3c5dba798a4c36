/-! sums from below, rows of digits, the first of the best rows -/
def sL (g : Nat → Nat) : Nat → Nat → Nat
  | 0, _ => 0
  | k + 1, w => g w + sL g k (w + 1)
theorem sL_cong {g h : Nat → Nat} : ∀ k w, (∀ j, w ≤ j → j < w + k → g j = h j) → sL g k w = sL h k w
  | 0, _, _ => rfl
  | k + 1, w, e => by rw [sL, sL, e w (Nat.le_refl _) (by omega), sL_cong k (w + 1) (fun j h1 h2 => e j (by omega) (by omega))]
theorem sL_app (g : Nat → Nat) : ∀ m k w, sL g (m + k) w = sL g m w + sL g k (w + m)
  | 0, k, w => by rw [Nat.zero_add, Nat.add_zero]; exact (Nat.zero_add _).symm
  | m + 1, k, w => by rw [show m + 1 + k = (m + k) + 1 by omega, sL, sL, sL_app g m k (w + 1), show w + 1 + m = w + (m + 1) by omega, Nat.add_assoc]
theorem sL_snoc (g : Nat → Nat) (k w : Nat) : sL g (k + 1) w = sL g k w + g (w + k) := by
  rw [sL_app g k 1 w]; rfl
theorem sL_add (g h : Nat → Nat) : ∀ k w, sL (fun j => g j + h j) k w = sL g k w + sL h k w
  | 0, _ => rfl
  | k + 1, w => by rw [sL, sL, sL, sL_add g h k (w + 1)]; omega
theorem sL_zero {g : Nat → Nat} : ∀ k w, (∀ j, w ≤ j → j < w + k → g j = 0) → sL g k w = 0
  | 0, _, _ => rfl
  | k + 1, w, e => by rw [sL, e w (Nat.le_refl _) (by omega), sL_zero k (w + 1) (fun j h1 h2 => e j (by omega) (by omega))]
theorem sL_part {g : Nat → Nat} : ∀ k w j, w ≤ j → j < w + k → g j ≤ sL g k w
  | 0, w, j, h1, h2 => by omega
  | k + 1, w, j, h1, h2 => by
    rw [sL]
    by_cases e : j = w
    · subst e; omega
    · have := sL_part (g := g) k (w + 1) j (by omega) (by omega); omega
theorem sL_bound {g : Nat → Nat} {c : Nat} : ∀ k w, (∀ j, w ≤ j → j < w + k → g j ≤ c) → sL g k w ≤ k * c
  | 0, _, _ => Nat.zero_le _
  | k + 1, w, h => by
    have h1 := sL_bound (g := g) k (w + 1) (fun j a b => h j (by omega) (by omega))
    have h2 := h w (Nat.le_refl _) (by omega)
    rw [sL, Nat.succ_mul]; omega
def cdv (b : Nat) (d : Nat → Nat) : Nat → Nat
  | 0 => 0
  | k + 1 => cdv b d k * b + d k
def dgt (b c N j : Nat) : Nat := c / b ^ (N - 1 - j) % b
theorem dgt_s {b c N j : Nat} (h : j < N) : dgt b c (N + 1) j = dgt b (c / b) N j := by
  unfold dgt
  rw [show N + 1 - 1 - j = (N - 1 - j) + 1 by omega, Nat.pow_succ, Nat.mul_comm, ← Nat.div_div_eq_div_mul]
theorem dgt_last (b c N : Nat) : dgt b c (N + 1) N = c % b := by
  unfold dgt
  rw [show N + 1 - 1 - N = 0 by omega, Nat.pow_zero, Nat.div_one]
theorem cdv_cong {b : Nat} {d e : Nat → Nat} : ∀ N, (∀ j, j < N → d j = e j) → cdv b d N = cdv b e N
  | 0, _ => rfl
  | N + 1, h => by rw [cdv, cdv, cdv_cong N (fun j hj => h j (by omega)), h N (Nat.lt_succ_self N)]
theorem cdv_lt {b : Nat} {d : Nat → Nat} : ∀ N, (∀ j, j < N → d j < b) → cdv b d N < b ^ N
  | 0, _ => Nat.lt_succ_self 0
  | N + 1, h => by
    have h1 := cdv_lt (d := d) N (fun j hj => h j (by omega))
    have h2 := h N (Nat.lt_succ_self N)
    have h3 : (cdv b d N + 1) * b ≤ b ^ N * b := Nat.mul_le_mul_right b h1
    rw [Nat.succ_mul] at h3
    rw [cdv, Nat.pow_succ]
    omega
theorem dgt_cdv {b : Nat} {d : Nat → Nat} : ∀ N, (∀ j, j < N → d j < b) → ∀ j, j < N → dgt b (cdv b d N) N j = d j
  | 0, _, j, h => by omega
  | N + 1, h, j, hj => by
    have h2 := h N (Nat.lt_succ_self N)
    by_cases e : j = N
    · subst e
      rw [dgt_last, cdv, Nat.mul_comm, Nat.mul_add_mod, Nat.mod_eq_of_lt h2]
    · rw [dgt_s (by omega), cdv, Nat.mul_comm, Nat.mul_add_div (by omega), Nat.div_eq_of_lt h2, Nat.add_zero]
      exact dgt_cdv N (fun j hj => h j (by omega)) j (by omega)
theorem cdv_dgt {b : Nat} (hb : 0 < b) : ∀ N c, c < b ^ N → cdv b (dgt b c N) N = c
  | 0, c, h => by rw [Nat.pow_zero] at h; rw [cdv]; omega
  | N + 1, c, h => by
    rw [cdv, cdv_cong N (fun j hj => dgt_s hj), cdv_dgt hb N (c / b) (Nat.div_lt_of_lt_mul (by rw [Nat.pow_succ, Nat.mul_comm] at h; exact h)), dgt_last, Nat.mul_comm]
    exact Nat.div_add_mod c b
theorem cdv_lex {b : Nat} {d e : Nat → Nat} {w : Nat} : ∀ N, w < N → (∀ j, j < N → d j < b) → (∀ j, j < w → d j = e j) → d w < e w → cdv b d N < cdv b e N
  | 0, h, _, _, _ => by omega
  | N + 1, h, hd, he, hw => by
    rw [cdv, cdv]
    by_cases q : w = N
    · subst q
      rw [cdv_cong w he]; omega
    · have h1 := cdv_lex N (by omega) (fun j hj => hd j (by omega)) he hw
      have h2 : (cdv b d N + 1) * b ≤ cdv b e N * b := Nat.mul_le_mul_right b h1
      have h3 := hd N (Nat.lt_succ_self N)
      rw [Nat.succ_mul] at h2
      omega
def nU (d : Nat → Nat) (w x : Nat) : Nat → Nat := fun j => if j = w then x else d j
theorem nU_s {d : Nat → Nat} {w x : Nat} : nU d w x w = x := if_pos rfl
theorem nU_n {d : Nat → Nat} {w x j : Nat} (h : ¬ j = w) : nU d w x j = d j := if_neg h
section LEX
variable {σ : Type} {ok : σ → Nat → Nat → Prop} {nx : σ → Nat → Nat → σ} {gn : Nat → Nat → Nat}
def Fr {σ : Type} (ok : σ → Nat → Nat → Prop) (nx : σ → Nat → Nat → σ) : Nat → σ → Nat → (Nat → Nat) → Prop
  | 0, _, _, _ => True
  | k + 1, s, w, d => ok s w (d w) ∧ Fr ok nx k (nx s w (d w)) (w + 1) d
def Vr (gn : Nat → Nat → Nat) (k w : Nat) (d : Nat → Nat) : Nat := sL (fun j => gn j (d j)) k w
theorem Fr_cong : ∀ k s w (d e : Nat → Nat), (∀ j, w ≤ j → j < w + k → d j = e j) → Fr ok nx k s w d → Fr ok nx k s w e
  | 0, _, _, _, _, _, _ => trivial
  | k + 1, s, w, d, e, h, hf => by
    have h0 := h w (Nat.le_refl _) (by omega)
    rw [Fr] at hf ⊢
    rw [← h0]
    exact ⟨hf.1, Fr_cong k _ _ d e (fun j h1 h2 => h j (by omega) (by omega)) hf.2⟩
theorem Vr_cong {k w : Nat} {d e : Nat → Nat} (h : ∀ j, w ≤ j → j < w + k → d j = e j) : Vr gn k w d = Vr gn k w e := sL_cong k w (fun j h1 h2 => by rw [h j h1 h2])
def isO {σ : Type} (ok : σ → Nat → Nat → Prop) (nx : σ → Nat → Nat → σ) (gn : Nat → Nat → Nat) (k : Nat) (s : σ) (w v : Nat) : Prop := (∀ d, Fr ok nx k s w d → Vr gn k w d ≤ v) ∧ ∃ d, Fr ok nx k s w d ∧ Vr gn k w d = v
theorem isO_one {k w v v' : Nat} {s : σ} (h : isO ok nx gn k s w v) (h' : isO ok nx gn k s w v') : v = v' := by
  obtain ⟨a, d, h1, h2⟩ := h
  obtain ⟨a', d', h1', h2'⟩ := h'
  have := a d' h1'
  have := a' d h1
  omega
def LX {σ : Type} (ok : σ → Nat → Nat → Prop) (nx : σ → Nat → Nat → σ) (gn : Nat → Nat → Nat) (k : Nat) (s : σ) (w : Nat) (d : Nat → Nat) : Prop := Fr ok nx k s w d ∧ isO ok nx gn k s w (Vr gn k w d) ∧ ∀ d', Fr ok nx k s w d' → Vr gn k w d' = Vr gn k w d → ∀ j, w ≤ j → j < w + k → (∀ i, w ≤ i → i < j → d' i = d i) → d j ≤ d' j
theorem Fr_put {k w x : Nat} {s : σ} {d : Nat → Nat} (h1 : ok s w x) (h2 : Fr ok nx k (nx s w x) (w + 1) d) : Fr ok nx (k + 1) s w (nU d w x) := by
  rw [Fr, nU_s]
  exact ⟨h1, Fr_cong k _ _ d _ (fun j a b => (nU_n (by omega)).symm) h2⟩
theorem Vr_put {k w x : Nat} {d : Nat → Nat} : Vr gn (k + 1) w (nU d w x) = gn w x + Vr gn k (w + 1) d := by
  show gn w (nU d w x w) + sL (fun j => gn j (nU d w x j)) k (w + 1) = _
  rw [nU_s]
  congr 1
  exact sL_cong k (w + 1) (fun j a b => by rw [nU_n (by omega)])
theorem lex_step {k w : Nat} {s : σ} {d : Nat → Nat} (h : LX ok nx gn (k + 1) s w d) : LX ok nx gn k (nx s w (d w)) (w + 1) d := by
  obtain ⟨h1, ⟨h2, -⟩, h4⟩ := h
  rw [Fr] at h1
  have hV : Vr gn (k + 1) w d = gn w (d w) + Vr gn k (w + 1) d := rfl
  refine ⟨h1.2, ⟨fun d' hd' => ?_, d, h1.2, rfl⟩, fun d' hd' hv j hj1 hj2 hag => ?_⟩
  · have := h2 _ (Fr_put h1.1 hd')
    rw [Vr_put, hV] at this
    omega
  · have := h4 _ (Fr_put h1.1 hd') (by rw [Vr_put, hV, hv]) j (by omega) (by omega) (fun i a b => by
      by_cases e : i = w
      · rw [e, nU_s]
      · rw [nU_n e]; exact hag i (by omega) b)
    rw [nU_n (by omega)] at this
    exact this
theorem lex_opt {k w v : Nat} {s : σ} {d : Nat → Nat} (h : LX ok nx gn (k + 1) s w d) (hv : isO ok nx gn k (nx s w (d w)) (w + 1) v) : Vr gn (k + 1) w d = gn w (d w) + v := by
  have := isO_one (lex_step h).2.1 hv
  show gn w (d w) + Vr gn k (w + 1) d = _
  rw [this]
theorem lex_no {k w x v : Nat} {s : σ} {d : Nat → Nat} (h : LX ok nx gn (k + 1) s w d) (hx : x < d w) (hok : ok s w x) (hv : isO ok nx gn k (nx s w x) (w + 1) v) : gn w x + v < Vr gn (k + 1) w d := by
  obtain ⟨h1, ⟨h2, -⟩, h4⟩ := h
  obtain ⟨-, d1, a1, a2⟩ := hv
  have hF := Fr_put hok a1
  have hl := h2 _ hF
  rw [Vr_put, a2] at hl
  rcases Nat.lt_or_ge (gn w x + v) (Vr gn (k + 1) w d) with q | q
  · exact q
  · have := h4 _ hF (by rw [Vr_put, a2]; omega) w (Nat.le_refl _) (by omega) (fun i a b => by omega)
    rw [nU_s] at this
    omega
/-- the first best code is the first best row -/
theorem lex_init {N b H : Nat} {s : σ} {v : Nat → Int32} (hb0 : 0 < b) (hb : ∀ d, Fr ok nx N s 0 d → ∀ j, j < N → d j < b) (h0 : Fr ok nx N s 0 (fun _ => 0)) (hB : ∀ d, Fr ok nx N s 0 d → H + Vr gn N 0 d < 2 ^ 31)
    (hv : ∀ c, c < b ^ N → (Fr ok nx N s 0 (dgt b c N) ∧ v c = nI (H + Vr gn N 0 (dgt b c N))) ∨ (¬ Fr ok nx N s 0 (dgt b c N) ∧ v c = -1)) :
    LX ok nx gn N s 0 (dgt b (pbF v (b ^ N)).2 N) ∧ (pbF v (b ^ N)).1 = nI (H + Vr gn N 0 (dgt b (pbF v (b ^ N)).2 N)) := by
  have hpos : 0 < b ^ N := Nat.pow_pos hb0
  have hz : Fr ok nx N s 0 (dgt b 0 N) := Fr_cong N s 0 _ _ (fun j _ _ => by unfold dgt; rw [Nat.zero_div, Nat.zero_mod]) h0
  have hv0 : 0 ≤ v 0 := by
    rcases hv 0 hpos with ⟨_, e⟩ | ⟨q, _⟩
    · rw [e, fa_le, i0, nI_toInt (hB _ hz)]; omega
    · exact absurd hz q
  obtain ⟨n, en⟩ : ∃ n, b ^ N = n + 1 := ⟨b ^ N - 1, by omega⟩
  obtain ⟨p1, p2, p3, p4⟩ := pbF_best v hv0 n
  rw [← en] at p1 p2 p3 p4
  generalize (pbF v (b ^ N)).2 = c at *
  have hc : Fr ok nx N s 0 (dgt b c N) ∧ v c = nI (H + Vr gn N 0 (dgt b c N)) := by
    rcases hv c p1 with q | ⟨_, e⟩
    · exact q
    · have := p3 0 hpos
      rw [e, im1] at this
      rw [fa_le, i0] at hv0
      omega
  obtain ⟨hcF, hcv⟩ := hc
  have hcode : ∀ d, Fr ok nx N s 0 d → cdv b d N < b ^ N ∧ v (cdv b d N) = nI (H + Vr gn N 0 d) := fun d hd => by
    have hlt := cdv_lt N (hb d hd)
    have hdg := dgt_cdv N (hb d hd)
    refine ⟨hlt, ?_⟩
    have hF : Fr ok nx N s 0 (dgt b (cdv b d N) N) := Fr_cong N s 0 d _ (fun j _ hj => (hdg j (by omega)).symm) hd
    rcases hv _ hlt with ⟨_, e⟩ | ⟨q, _⟩
    · rw [e, Vr_cong (fun j _ hj => hdg j (by omega))]
    · exact absurd hF q
  refine ⟨⟨hcF, ⟨fun d hd => ?_, _, hcF, rfl⟩, fun d hd he j _ hj hag => ?_⟩, p2.trans hcv⟩
  · obtain ⟨a1, a2⟩ := hcode d hd
    have := p3 _ a1
    rw [a2, hcv, nI_toInt (hB d hd), nI_toInt (hB _ hcF)] at this
    omega
  · rcases Nat.lt_or_ge (d j) (dgt b c N j) with q | q
    · obtain ⟨a1, a2⟩ := hcode d hd
      have hlx := cdv_lex N (by omega) (hb d hd) (fun i hi => hag i (Nat.zero_le _) hi) q
      rw [cdv_dgt hb0 N c p1] at hlx
      have := p4 _ hlx
      rw [a2, hcv, he] at this
      omega
    · exact q
end LEX
