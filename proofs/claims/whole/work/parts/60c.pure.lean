/-! odds, likely: whole numbers on both sides -/
theorem sm_swap (F : Nat → Nat → Nat) (m : Nat) : ∀ n, fb_sm (fun j => fb_sm (fun i => F i j) n) m = fb_sm (fun i => fb_sm (fun j => F i j) m) n := by
  intro n
  induction n with
  | zero => exact (fb_sm_const 0 m).trans (Nat.mul_zero m)
  | succ n ih => rw [fb_sm_succ, ← ih, ← fb_sm_add]; rfl
theorem sm_mulr (f : Nat → Nat) (c : Nat) : ∀ n, fb_sm f n * c = fb_sm (fun k => f k * c) n := by
  intro n
  induction n with
  | zero => exact Nat.zero_mul c
  | succ n ih => rw [fb_sm_succ, fb_sm_succ, Nat.add_mul, ih]
theorem sm_pick {t c : Nat} (h : Nat → Nat) : ∀ n, fb_sm (fun j => (if t = j then c else 0) * h j) n = if t < n then c * h t else 0 := by
  intro n
  induction n with
  | zero => rfl
  | succ n ih =>
    rw [fb_sm_succ, ih]
    by_cases e : t = n
    · subst e; rw [if_neg (by omega), if_pos rfl, if_pos (by omega), Nat.zero_add]
    · rw [if_neg e, Nat.zero_mul, Nat.add_zero]
      by_cases h2 : t < n
      · rw [if_pos h2, if_pos (by omega)]
      · rw [if_neg h2, if_neg (by omega)]
def gbN (τ : Nat → Nat → Int32) (h : Nat → Nat) : Nat → Nat := fun a => h a * (10 - chN τ a) + h (tnN τ a) * chN τ a
theorem gN_dual {τ : Nat → Nat → Int32} {P W G : Nat} (hk : TOK τ P W G) (f h : Nat → Nat) : fb_sm (fun j => gN τ f j * h j) 4 = fb_sm (fun i => f i * gbN τ h i) 4 := by
  have e1 : ∀ j, gN τ f j * h j = fb_sm (fun i => ((if tnN τ i = j then f i * chN τ i else 0) + (if i = j then f i * (10 - chN τ i) else 0)) * h j) 4 := fun j => sm_mulr _ _ 4
  rw [fb_sm_cong (fun j _ => e1 j), sm_swap]
  refine fb_sm_cong (fun i hi => ?_)
  have e2 : ∀ j, ((if tnN τ i = j then f i * chN τ i else 0) + (if i = j then f i * (10 - chN τ i) else 0)) * h j = (if tnN τ i = j then f i * chN τ i else 0) * h j + (if i = j then f i * (10 - chN τ i) else 0) * h j := fun j => Nat.add_mul _ _ _
  rw [fb_sm_cong (fun j _ => e2 j), fb_sm_add, sm_pick, sm_pick, if_pos (tn_lt hk hi), if_pos hi]
  unfold gbN
  rw [Nat.mul_add, Nat.add_comm, Nat.mul_assoc, Nat.mul_assoc, Nat.mul_comm (10 - chN τ i), Nat.mul_comm (chN τ i)]
theorem gN_sum {τ : Nat → Nat → Int32} {P W G : Nat} (hk : TOK τ P W G) (f : Nat → Nat) : fb_sm (gN τ f) 4 = 10 * fb_sm f 4 := by
  have h := gN_dual hk f (fun _ => 1)
  rw [fb_sm_cong (fun j _ => Nat.mul_one (gN τ f j)), fb_sm_cong (f := fun i => f i * gbN τ (fun _ => 1) i) (g := fun i => f i * 10) (fun i hi => by
    have := ch_lt hk hi
    show f i * (1 * (10 - chN τ i) + 1 * chN τ i) = f i * 10
    rw [Nat.one_mul, Nat.one_mul, show 10 - chN τ i + chN τ i = 10 by omega]), ← sm_mulr] at h
  rw [Nat.mul_comm]
  exact h
theorem cd_gcd : ∀ m, m ≤ 62 → ∀ a b k, a < 2 ^ 63 → b < 2 ^ m → 2 * m + 1 ≤ k → cdR k (lN a) (lN b) = lN (Nat.gcd a b) := by
  intro m
  induction m with
  | zero =>
    intro _ a b k _ hb hk
    obtain ⟨k, rfl⟩ : ∃ q, k = q + 1 := ⟨k - 1, by omega⟩
    have : b = 0 := by rw [Nat.pow_zero] at hb; omega
    subst this
    rw [cdR, if_pos (show lN 0 = 0 from rfl), Nat.gcd_zero_right]
  | succ m ih =>
    intro hm a b k ha hb hk
    have h62 : 2 ^ (m + 1) ≤ 2 ^ 62 := Nat.pow_le_pow_right (by decide) hm
    obtain ⟨k, rfl⟩ : ∃ q, k = q + 1 := ⟨k - 1, by omega⟩
    rw [cdR]
    by_cases e : b = 0
    · subst e; rw [if_pos (show lN 0 = 0 from rfl), Nat.gcd_zero_right]
    · rw [if_neg (show ¬ lN b = 0 from fun h => e ((pk_lEQ (b := 0) (by omega) (by decide)).mp h)), pk_lRem ha (by omega) (by omega)]
      have hr : a % b < b := Nat.mod_lt _ (by omega)
      have hg : Nat.gcd a b = Nat.gcd b (a % b) := by rw [Nat.gcd_comm a b, Nat.gcd_rec b a, Nat.gcd_comm]
      rw [hg]
      generalize a % b = r at *
      obtain ⟨k, rfl⟩ : ∃ q, k = q + 1 := ⟨k - 1, by omega⟩
      rw [cdR]
      by_cases e2 : r = 0
      · subst e2; rw [if_pos (show lN 0 = 0 from rfl), Nat.gcd_zero_right]
      · rw [if_neg (show ¬ lN r = 0 from fun h => e2 ((pk_lEQ (b := 0) (by omega) (by decide)).mp h)), pk_lRem (by omega) (by omega) (by omega)]
        have hg2 : Nat.gcd b r = Nat.gcd r (b % r) := by rw [Nat.gcd_comm b r, Nat.gcd_rec r b, Nat.gcd_comm]
        rw [hg2]
        have h1 : b % r < r := Nat.mod_lt _ (by omega)
        have h2 := Nat.div_add_mod b r
        have h3 : 1 ≤ b / r := Nat.div_pos (by omega) (by omega)
        have h4 : r * 1 ≤ r * (b / r) := Nat.mul_le_mul_left r h3
        rw [Nat.pow_succ] at hb
        exact ih (by omega) r (b % r) k (by omega) (by omega) (by omega)
theorem sum4_eq {w : Nat → Int64} {f : Nat → Nat} : ∀ k, (∀ j, j < k → w j = lN (f j)) → sum4 w k = lN (fb_sm f k) := by
  intro k
  induction k with
  | zero => intro _; rfl
  | succ k ih => intro h; rw [sum4, fb_sm_succ, ih (fun j hj => h j (by omega)), h k (Nat.lt_succ_self k), lN_add]
theorem cPart_eq {w : Nat → Int64} {f : Nat → Nat} {a : Nat} {c : Int32} (h : ∀ j, j < 4 → w j = lN (f j)) (ha : a < 4) (hT : fb_sm f 4 < 2 ^ 49) (hT0 : 0 < fb_sm f 4) : cPart w a c = if c = 0 then lN (f a / Nat.gcd (f a) (fb_sm f 4)) else lN (fb_sm f 4 / Nat.gcd (f a) (fb_sm f 4)) := by
  have hp := fb_sm_part f ha
  have hfa : f a < 2 ^ 49 := by omega
  have hg0 : 0 < Nat.gcd (f a) (fb_sm f 4) := Nat.gcd_pos_of_pos_right _ hT0
  have hgl : Nat.gcd (f a) (fb_sm f 4) ≤ fb_sm f 4 := Nat.gcd_le_right _ hT0
  have e49 : (2 : Nat) ^ 49 < 2 ^ 63 := by decide
  unfold cPart
  rw [h a ha, sum4_eq 4 h, cd_gcd 49 (by decide) _ _ 100 (by omega) hT (by decide), if_neg (show ¬ lN (Nat.gcd (f a) (fb_sm f 4)) = 0 from fun q => by have := (pk_lEQ (b := 0) (by omega) (by decide)).mp q; omega)]
  by_cases hc : c = 0
  · rw [if_pos hc, if_pos hc, pk_lDiv (by omega) hg0 (by omega)]
  · rw [if_neg hc, if_neg hc, pk_lDiv (by omega) hg0 (by omega)]
theorem ch64 {τ : Nat → Nat → Int32} {P W G k : Nat} (hk : TOK τ P W G) (h : k < 4) : (τ 14 k).toInt64 = lN (chN τ k) ∧ (10 - τ 14 k).toInt64 = lN (10 - chN τ k) := by
  have h1 := ch_lt hk h
  rw [ch_eq hk h]
  refine ⟨nI_l (by omega), ?_⟩
  rw [show (10 : Int32) = nI 10 from rfl, pk_sub (by omega), nI_l (by omega)]
theorem gF_eq {τ : Nat → Nat → Int32} {P W G : Nat} (hk : TOK τ P W G) {w : Nat → Int64} {f : Nat → Nat} (h : ∀ j, j < 4 → w j = lN (f j)) : ∀ k, k ≤ 4 → ∀ j, gF τ w k j = lN (gNk τ f k j) := by
  intro k
  induction k with
  | zero => intro _ j; rfl
  | succ k ih =>
    intro hk4 j
    have hi := ih (by omega)
    have hc := ch64 hk (show k < 4 by omega)
    have ht := tn_eq hk (show k < 4 by omega)
    have htl := tn_lt hk (show k < 4 by omega)
    show vp_updL (vp_updL (gF τ w k) k (gF τ w k k + w k * (10 - τ 14 k).toInt64)) (τ 13 k).toNatClampNeg (vp_updL (gF τ w k) k (gF τ w k k + w k * (10 - τ 14 k).toInt64) (τ 13 k).toNatClampNeg + w k * (τ 14 k).toInt64) j = lN (gNk τ f k j + ((if tnN τ k = j then f k * chN τ k else 0) + (if k = j then f k * (10 - chN τ k) else 0)))
    rw [hc.1, hc.2, h k (by omega), lN_mul, lN_mul, hi k, lN_add, show (τ 13 k).toNatClampNeg = tnN τ k from rfl]
    by_cases e1 : j = tnN τ k
    · rw [← e1, pk_uLs, if_pos rfl]
      by_cases e2 : j = k
      · subst e2; rw [pk_uLs, lN_add, if_pos rfl]; congr 1; omega
      · rw [pk_uLn e2, hi j, lN_add, if_neg (fun q => e2 q.symm), Nat.add_zero]
    · rw [pk_uLn e1, if_neg (fun q => e1 q.symm), Nat.zero_add]
      by_cases e2 : j = k
      · subst e2; rw [pk_uLs, if_pos rfl]
      · rw [pk_uLn e2, hi j, if_neg (fun q => e2 q.symm), Nat.add_zero]
theorem gIt_eq {τ : Nat → Nat → Int32} {P W G : Nat} (hk : TOK τ P W G) {w : Nat → Int64} {f : Nat → Nat} (h : ∀ j, j < 4 → w j = lN (f j)) : ∀ N j, j < 4 → gIt τ w N j = lN (gNi τ f N j) := by
  intro N
  induction N with
  | zero => exact h
  | succ N ih => intro j hj; exact gF_eq hk ih 4 (Nat.le_refl _) j
theorem gNi_sum {τ : Nat → Nat → Int32} {P W G : Nat} (hk : TOK τ P W G) (f : Nat → Nat) : ∀ N, fb_sm (gNi τ f N) 4 = 10 ^ N * fb_sm f 4 := by
  intro N
  induction N with
  | zero => rw [Nat.pow_zero, Nat.one_mul]; rfl
  | succ N ih =>
    show fb_sm (gN τ (gNi τ f N)) 4 = _
    rw [gN_sum hk, ih, Nat.pow_succ, Nat.mul_comm (10 ^ N) 10, Nat.mul_assoc]
theorem kOdds_eq {τ δ : Nat → Nat → Int32} {P W G : Nat} (hk : TOK τ P W G) (hw : vp_in (δ 1 0) 4) (a b c : Int32) : kOdds τ δ a b c = mOdds τ δ a b c := by
  unfold kOdds mOdds
  by_cases ha : inB a 4 = true
  · rw [if_pos ha, if_pos ha]
    by_cases hb : inB b 10 = true
    · rw [if_pos hb, if_pos hb]
      by_cases hc : inB c 2 = true
      · rw [if_pos hc, if_pos hc]
        obtain ⟨a1, ha1, rfl⟩ := vp_in_of (inB_t.mp ha) (by decide)
        obtain ⟨b1, hb1, rfl⟩ := vp_in_of (inB_t.mp hb) (by decide)
        obtain ⟨w, hw1, ew⟩ := vp_in_of hw (by decide)
        rw [ew, nI_clamp (by omega), nI_clamp (by omega), nI_clamp (by omega)]
        have h0 : ∀ j, j < 4 → w1 w j = lN (e1 w j) := fun j _ => by
          unfold w1 e1 vp_updL
          by_cases e : j = w
          · rw [if_pos e, if_pos e]; rfl
          · rw [if_neg e, if_neg e]; rfl
        have hs : fb_sm (gNi τ (e1 w) b1) 4 = 10 ^ b1 := by
          rw [gNi_sum hk]
          have : fb_sm (e1 w) 4 = 1 := by
            rcases (show w = 0 ∨ w = 1 ∨ w = 2 ∨ w = 3 by omega) with e | e | e | e <;> subst e <;> rfl
          rw [this, Nat.mul_one]
        have hl : 10 ^ b1 ≤ 10 ^ 9 := Nat.pow_le_pow_right (by decide) (by omega)
        have hp : 0 < 10 ^ b1 := Nat.pow_pos (by decide)
        have e49 : (10 : Nat) ^ 9 < 2 ^ 49 := by decide
        rw [cPart_eq (gIt_eq hk h0 b1) ha1 (by omega) (by omega), hs]
      · rw [if_neg hc, if_neg hc]
    · rw [if_neg hb, if_neg hb]
  · rw [if_neg ha, if_neg ha]
/-! likely -/
def SGN (tc t : Nat → Nat → Int32) (B : Nat) : Prop := ∀ i, i < B → tc 1 i = t 19 i ∧ tc 2 i = t 20 i ∧ tc 3 i = t 21 i ∧ vp_in (t 21 i) 2
theorem so_rule {tc t : Nat → Nat → Int32} {B : Nat} (hS : SGN tc t B) {ago : Int32} {i j : Nat} (hi : i < B) : soB t (nI j) ago i = !rOfB tc ago i j := by
  obtain ⟨h1, h2, h3, h4⟩ := hS i hi
  unfold soB rOfB
  rw [h1, h2, h3]
  by_cases ea : t 20 i = ago
  · rw [decide_eq_false (fun q => q ea), decide_eq_true ea, Bool.false_or, Bool.true_and]
    obtain ⟨x, hx, ex⟩ := vp_in_of h4 (by decide)
    rw [ex]
    rcases (show x = 0 ∨ x = 1 by omega) with e | e <;> subst e
    · by_cases ew : nI j = t 19 i
      · rw [if_pos ew, decide_eq_false (show ¬ (t 19 i = nI j ↔ nI 0 = 1) from fun q => absurd (q.mp ew.symm) (by decide))]; decide
      · rw [if_neg ew]
        rw [decide_eq_true (show (t 19 i = nI j ↔ nI 0 = 1) from ⟨fun q => absurd q.symm ew, fun q => absurd q (by decide)⟩)]
        decide
    · by_cases ew : nI j = t 19 i
      · rw [if_pos ew, decide_eq_true (show (t 19 i = nI j ↔ nI 1 = 1) from ⟨fun _ => rfl, fun _ => ew.symm⟩)]; decide
      · rw [if_neg ew]
        rw [decide_eq_false (show ¬ (t 19 i = nI j ↔ nI 1 = 1) from fun q => ew (q.mpr rfl).symm)]
        decide
  · rw [decide_eq_true ea, decide_eq_false ea]; rfl
def msk9 (t : Nat → Nat → Int32) (B ago : Nat) (f : Nat → Nat) : Nat → Nat := fun j => if soR t (nI j) (nI ago) B = true then f j else 0
theorem rIn_eq {tc : Nat → Nat → Int32} {ago : Int32} {i : Nat} {h : Nat → Int64} : ∀ k j, rIn tc ago i h k j = if j < k ∧ rOfB tc ago i j = true then 0 else h j := by
  intro k
  induction k with
  | zero => intro j; rw [rIn, if_neg (by omega)]
  | succ k ih =>
    intro j
    rw [rIn]
    by_cases hr : rOfB tc ago i k = true
    · rw [if_pos hr]
      by_cases e : j = k
      · subst e; rw [pk_uLs, if_pos ⟨by omega, hr⟩]
      · rw [pk_uLn e, ih j]
        by_cases h2 : j < k ∧ rOfB tc ago i j = true
        · rw [if_pos h2, if_pos ⟨by omega, h2.2⟩]
        · rw [if_neg h2, if_neg (fun q => h2 ⟨by omega, q.2⟩)]
    · rw [if_neg hr, ih j]
      by_cases h2 : j < k ∧ rOfB tc ago i j = true
      · rw [if_pos h2, if_pos ⟨by omega, h2.2⟩]
      · rw [if_neg h2, if_neg (fun q => h2 ⟨by
          by_cases e : j = k
          · subst e; exact absurd q.2 hr
          · omega, q.2⟩)]
theorem rOut_eq {tc t : Nat → Nat → Int32} {B : Nat} (hS : SGN tc t B) {ago : Nat} {h : Nat → Int64} {f : Nat → Nat} : (∀ j, j < 4 → h j = lN (f j)) → ∀ j, j < 4 → rOut tc (nI ago) h B j = lN (msk9 t B ago f j) := by
  intro hf j hj
  have hh : ∀ k, k ≤ B → rOut tc (nI ago) h k j = lN (if soR t (nI j) (nI ago) k = true then f j else 0) := by
    intro k
    induction k with
    | zero => intro _; rw [rOut, soR, if_pos rfl]; exact hf j hj
    | succ k ih =>
      intro hk
      rw [rOut, rIn_eq, ih (by omega), soR, so_rule hS (show k < B by omega)]
      cases hr : rOfB tc (nI ago) k j with
      | true => rw [if_pos ⟨hj, rfl⟩, Bool.not_true, Bool.and_false, if_neg (by decide)]; rfl
      | false => rw [if_neg (fun q => by cases q.2), Bool.not_false, Bool.and_true]
  exact hh B (Nat.le_refl _)
def Fm (τ t : Nat → Nat → Int32) (B : Nat) : Nat → Nat → Nat
  | 0 => msk9 t B 9 (fun _ => 1)
  | k + 1 => msk9 t B (8 - k) (gN τ (Fm τ t B k))
def Bm (τ t : Nat → Nat → Int32) (B : Nat) : Nat → Nat → Nat
  | 0 => fun _ => 1
  | k + 1 => gbN τ (msk9 t B k (Bm τ t B k))
theorem lkF_eq {τ tc t : Nat → Nat → Int32} {P W G B : Nat} (hk : TOK τ P W G) (hS : SGN tc t B) : ∀ k j, j < 4 → lkF τ tc B k j = lN (Fm τ t B k j) := by
  intro k
  induction k with
  | zero => exact rOut_eq hS (fun j _ => rfl)
  | succ k ih => exact rOut_eq hS (fun j _ => gF_eq hk ih 4 (Nat.le_refl _) j)
theorem lkB_eq {τ tc t : Nat → Nat → Int32} {P W G B : Nat} (hk : TOK τ P W G) (hS : SGN tc t B) : ∀ k j, j < 4 → lkB τ tc B k j = lN (Bm τ t B k j) := by
  intro k
  induction k with
  | zero => intro j _; rfl
  | succ k ih =>
    intro j hj
    have hr := rOut_eq hS (ago := k) ih
    have hc := ch64 hk hj
    show gB τ (rOut tc (nI k) (lkB τ tc B k) B) (fun _ => 0) 4 j = lN (gbN τ (msk9 t B k (Bm τ t B k)) j)
    unfold gB gbN
    rw [if_pos hj, hc.1, hc.2, hr j hj, show (τ 13 j).toNatClampNeg = tnN τ j from rfl, hr _ (tn_lt hk hj), lN_mul, lN_mul, lN_add]
theorem lkW_eq {τ tc t : Nat → Nat → Int32} {P W G B N : Nat} (hk : TOK τ P W G) (hS : SGN tc t B) : ∀ j, j < 4 → lkW τ tc B N j = lN (Fm τ t B (9 - N) j * Bm τ t B N j) := fun j hj => by
  unfold lkW mulW
  rw [if_pos hj, lkF_eq hk hS _ j hj, lkB_eq hk hS _ j hj, lN_mul]
theorem mkN_lo {t : Nat → Nat → Int32} {B N k : Nat} {wv : Int32} {f : Nat → Nat} (h : k < 10) (hN : N < 10) (hne : ¬ k = N) : mkN t B wv (nI N) k f = msk9 t B k f := by
  funext j
  unfold mkN msk9 mkB
  rw [decide_eq_true (show ¬ nI k = nI N from fun q => hne ((nIne (by omega) (by omega)).mp q)), Bool.true_or, Bool.or_true, Bool.and_true]
theorem msk_mul (t : Nat → Nat → Int32) (B k : Nat) (f h : Nat → Nat) (j : Nat) : msk9 t B k f j * h j = f j * msk9 t B k h j := by
  unfold msk9
  by_cases q : soR t (nI j) (nI k) B = true
  · rw [if_pos q, if_pos q]
  · rw [if_neg q, if_neg q, Nat.zero_mul, Nat.mul_zero]
/-- what is behind a time k that is laid already, all times before it free -/
theorem wy_lo {τ t : Nat → Nat → Int32} {P W G B N : Nat} {wv : Int32} (hk : TOK τ P W G) (hN : N < 10) : ∀ k, k < N → ∀ f s, wyR τ t B wv (nI N) (k + 1) f s = fb_sm (fun j => msk9 t B k f j * Bm τ t B k j) 4 := by
  intro k
  induction k with
  | zero =>
    intro h f s
    rw [wyR, wyR, mkN_lo (by omega) hN (by omega)]
    exact fb_sm_cong (fun j _ => (Nat.mul_one _).symm)
  | succ k ih =>
    intro h f s
    rw [wyR, if_pos (Nat.succ_pos k), ih (by omega), mkN_lo (by omega) hN (by omega), fb_sm_cong (fun j _ => msk_mul t B k _ (Bm τ t B k) j), gN_dual hk]
    rfl
theorem wy_at {τ t : Nat → Nat → Int32} {P W G B N : Nat} {wv : Int32} (hk : TOK τ P W G) (hN : N < 10) (f : Nat → Nat) (s : Nat) : wyR τ t B wv (nI N) (N + 1) f s = fb_sm (fun j => mkN t B wv (nI N) N f j * Bm τ t B N j) 4 := by
  cases N with
  | zero =>
    rw [wyR, wyR]
    exact fb_sm_cong (fun j _ => (Nat.mul_one _).symm)
  | succ k =>
    rw [wyR, if_pos (Nat.succ_pos k), wy_lo hk hN k (Nat.lt_succ_self k), fb_sm_cong (fun j _ => msk_mul t B k _ (Bm τ t B k) j), gN_dual hk]
    rfl
def Uf (τ t : Nat → Nat → Int32) (B : Nat) : Nat → Nat → Nat
  | 0 => fun _ => 1
  | k + 1 => gN τ (msk9 t B (9 - k) (Uf τ t B k))
theorem Fm_Uf (τ t : Nat → Nat → Int32) (B : Nat) : ∀ k, k < 10 → Fm τ t B k = msk9 t B (9 - k) (Uf τ t B k) := by
  intro k
  induction k with
  | zero => intro _; rfl
  | succ k ih =>
    intro h
    show msk9 t B (8 - k) (gN τ (Fm τ t B k)) = msk9 t B (9 - (k + 1)) (gN τ (msk9 t B (9 - k) (Uf τ t B k)))
    rw [ih (by omega), show 9 - (k + 1) = 8 - k by omega]
theorem wy_hi {τ t : Nat → Nat → Int32} {B N : Nat} {wv : Int32} (hN : N < 10) (s : Nat) : ∀ m, m ≤ 9 - N → ∃ s', wyR τ t B wv (nI N) 10 (fun _ => 1) s = wyR τ t B wv (nI N) (10 - m) (Uf τ t B m) s' := by
  intro m
  induction m with
  | zero => intro _; exact ⟨s, rfl⟩
  | succ m ih =>
    intro h
    obtain ⟨s', e⟩ := ih (by omega)
    rw [e, show 10 - m = (9 - m) + 1 by omega, wyR, if_pos (by omega), mkN_lo (by omega) hN (by omega), show 10 - (m + 1) = 9 - m by omega]
    exact ⟨_, rfl⟩
theorem wy_all {τ t : Nat → Nat → Int32} {P W G B N : Nat} {wv : Int32} (hk : TOK τ P W G) (hN : N < 10) : wyR τ t B wv (nI N) 10 (fun _ => 1) 0 = fb_sm (fun j => mkN t B wv (nI N) N (Uf τ t B (9 - N)) j * Bm τ t B N j) 4 := by
  obtain ⟨s', e⟩ := wy_hi (τ := τ) (t := t) (B := B) (wv := wv) hN 0 (9 - N) (Nat.le_refl _)
  rw [e, show 10 - (9 - N) = N + 1 by omega, wy_at hk hN]
theorem wy_none {τ t : Nat → Nat → Int32} {P W G B N : Nat} (hk : TOK τ P W G) (hN : N < 10) : wyR τ t B (-1) (nI N) 10 (fun _ => 1) 0 = fb_sm (fun j => Fm τ t B (9 - N) j * Bm τ t B N j) 4 := by
  rw [wy_all hk hN, Fm_Uf τ t B (9 - N) (by omega), show 9 - (9 - N) = N by omega]
  refine fb_sm_cong (fun j _ => ?_)
  congr 1
  unfold mkN msk9 mkB
  rw [decide_eq_true (show (-1 : Int32) < 0 by decide), Bool.true_or, Bool.and_true]
theorem wy_one {τ t : Nat → Nat → Int32} {P W G B N a : Nat} (hk : TOK τ P W G) (hN : N < 10) (ha : a < 4) : wyR τ t B (nI a) (nI N) 10 (fun _ => 1) 0 = Fm τ t B (9 - N) a * Bm τ t B N a := by
  rw [wy_all hk hN, Fm_Uf τ t B (9 - N) (by omega), show 9 - (9 - N) = N by omega]
  have e : ∀ j, j < 4 → mkN t B (nI a) (nI N) N (Uf τ t B (9 - N)) j * Bm τ t B N j = (if a = j then msk9 t B N (Uf τ t B (9 - N)) a else 0) * Bm τ t B N j := fun j hj => by
    congr 1
    unfold mkN msk9 mkB
    rw [decide_eq_false (show ¬ nI a < 0 from nI_pos (by omega)), decide_eq_false (show ¬ ¬ nI N = nI N from fun q => q rfl), Bool.false_or, Bool.false_or]
    by_cases e : a = j
    · subst e; rw [if_pos rfl, decide_eq_true rfl, Bool.and_true]
    · rw [if_neg e, decide_eq_false (fun q => e ((nIne (by omega) (by omega)).mp q).symm), Bool.and_false, if_neg (by decide)]
  rw [fb_sm_cong e, sm_pick, if_pos ha]
theorem mkN_sum {t : Nat → Nat → Int32} {B : Nat} {wv tv : Int32} {k : Nat} (f : Nat → Nat) : fb_sm (mkN t B wv tv k f) 4 ≤ fb_sm f 4 := fb_sm_le (fun j _ => by unfold mkN; split; exact Nat.le_refl _; exact Nat.zero_le _)
theorem wy_bound {τ t : Nat → Nat → Int32} {P W G B : Nat} {wv tv : Int32} (hk : TOK τ P W G) : ∀ k f s, wyR τ t B wv tv (k + 1) f s ≤ 10 ^ k * fb_sm f 4 := by
  intro k
  induction k with
  | zero => intro f s; rw [wyR, wyR, Nat.pow_zero, Nat.one_mul]; exact mkN_sum f
  | succ k ih =>
    intro f s
    rw [wyR, if_pos (Nat.succ_pos k)]
    refine Nat.le_trans (ih _ _) ?_
    rw [gN_sum hk, Nat.pow_succ, Nat.mul_assoc]
    exact Nat.mul_le_mul_left _ (Nat.mul_le_mul_left _ (mkN_sum f))
theorem kLikely_eq {τ tc t : Nat → Nat → Int32} {P W G B : Nat} (hk : TOK τ P W G) (hS : SGN tc t B) (a b c : Int32) : kLikely τ tc B a b c = mLikely τ t B a b c := by
  unfold kLikely mLikely
  by_cases ha : inB a 4 = true
  · rw [if_pos ha, if_pos ha]
    by_cases hb : inB b 10 = true
    · rw [if_pos hb, if_pos hb]
      by_cases hc : inB c 2 = true
      · rw [if_pos hc, if_pos hc]
        obtain ⟨a1, ha1, rfl⟩ := vp_in_of (inB_t.mp ha) (by decide)
        obtain ⟨b1, hb1, rfl⟩ := vp_in_of (inB_t.mp hb) (by decide)
        have hb9 := wy_bound (τ := τ) (t := t) (B := B) (wv := -1) (tv := nI b1) hk 9 (fun _ => 1) 0
        rw [wy_none hk hb1] at hb9
        rw [wy_none hk hb1, wy_one hk hb1 ha1, nI_clamp (by omega), nI_clamp (by omega)]
        have hW := lkW_eq (N := b1) hk hS
        have e4 : 10 ^ 9 * fb_sm (fun _ => 1) 4 < 2 ^ 49 := by decide
        rw [sum4_eq 4 hW]
        by_cases h0 : fb_sm (fun j => Fm τ t B (9 - b1) j * Bm τ t B b1 j) 4 = 0
        · rw [if_pos h0, if_pos (by rw [h0]; rfl)]
        · have e49 : (2 : Nat) ^ 49 < 2 ^ 63 := by decide
          rw [if_neg h0, if_neg (show ¬ lN (fb_sm (fun j => Fm τ t B (9 - b1) j * Bm τ t B b1 j) 4) = 0 from fun q => h0 ((pk_lEQ (b := 0) (by omega) (by decide)).mp q)), cPart_eq hW ha1 (by omega) (by omega)]
      · rw [if_neg hc, if_neg hc]
    · rw [if_neg hb, if_neg hb]
  · rw [if_neg ha, if_neg ha]
