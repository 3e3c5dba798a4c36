/-! pairs: both sides over all graphs of five -/
def omax : Option Nat → Option Nat → Option Nat
  | none, b => b
  | some a, none => some a
  | some a, some b => some (if a < b then b else a)
def bth (p : Nat × Nat) : Nat := 2 ^ p.1 ||| 2 ^ p.2
def mlI (S : Nat) : List (Nat × Nat) → Nat → Nat → Nat → Option Nat
  | [], _, _, c => some c
  | p :: t, i, who, c => if S.testBit i = true then (if who &&& bth p = 0 then mlI S t (i + 1) (who ||| bth p) (c + 1) else none) else mlI S t (i + 1) who c
def bsL (must : Nat) : List (Nat × Nat) → Nat → Nat → Option Nat
  | [], _, _ => some 0
  | p :: t, i, who => omax (if i = must then none else bsL must t (i + 1) who) (if who &&& bth p = 0 then (bsL must t (i + 1) (who ||| bth p)).map (fun x => x + 1) else none)
theorem omax_l {a v : Nat} {o : Option Nat} (h : omax (some a) o = some v) : a ≤ v := by
  cases o with
  | none => cases h; exact Nat.le_refl _
  | some b => rw [omax] at h; cases h; split <;> omega
theorem omax_r {b v : Nat} {o : Option Nat} (h : omax o (some b) = some v) : b ≤ v := by
  cases o with
  | none => cases h; exact Nat.le_refl _
  | some a => rw [omax] at h; cases h; split <;> omega
theorem omax_of {o q : Option Nat} {v : Nat} (h : omax o q = some v) : o = some v ∨ q = some v := by
  cases o with
  | none => exact Or.inr h
  | some a =>
    cases q with
    | none => exact Or.inl h
    | some b =>
      rw [omax] at h
      split at h
      · exact Or.inr h
      · exact Or.inl h
theorem omax_so {o q : Option Nat} {a : Nat} (h : o = some a ∨ q = some a) : ∃ v, omax o q = some v ∧ a ≤ v := by
  rcases h with rfl | rfl
  · cases q with
    | none => exact ⟨a, rfl, Nat.le_refl _⟩
    | some b => exact ⟨_, rfl, by split <;> omega⟩
  · cases o with
    | none => exact ⟨a, rfl, Nat.le_refl _⟩
    | some b => exact ⟨_, rfl, by split <;> omega⟩
theorem ml_ub {must S : Nat} : ∀ (t : List (Nat × Nat)) (i who c r : Nat), (i ≤ must → must < i + t.length → S.testBit must = true) → mlI S t i who c = some r → ∃ v, bsL must t i who = some v ∧ r ≤ c + v := by
  intro t
  induction t with
  | nil => intro i who c r _ h; rw [mlI] at h; cases h; exact ⟨0, rfl, Nat.le_refl _⟩
  | cons p t ih =>
    intro i who c r hm h
    rw [List.length_cons] at hm
    have hm' : i + 1 ≤ must → must < i + 1 + t.length → S.testBit must = true := fun a b => hm (by omega) (by omega)
    rw [mlI] at h
    rw [bsL]
    by_cases hb : S.testBit i = true
    · rw [if_pos hb] at h
      by_cases hd : who &&& bth p = 0
      · rw [if_pos hd] at h
        obtain ⟨v, h1, h2⟩ := ih _ _ _ _ hm' h
        obtain ⟨w, h3, h4⟩ := omax_so (o := if i = must then none else bsL must t (i + 1) who) (q := (bsL must t (i + 1) (who ||| bth p)).map (fun x => x + 1)) (a := v + 1) (Or.inr (by rw [h1]; rfl))
        exact ⟨w, by rw [if_pos hd]; exact h3, by omega⟩
      · rw [if_neg hd] at h; cases h
    · rw [if_neg hb] at h
      have hne : ¬ i = must := fun e => hb (by subst e; exact hm (Nat.le_refl _) (by omega))
      obtain ⟨v, h1, h2⟩ := ih _ _ _ _ hm' h
      obtain ⟨w, h3, h4⟩ := omax_so (o := bsL must t (i + 1) who) (q := if who &&& bth p = 0 then (bsL must t (i + 1) (who ||| bth p)).map (fun x => x + 1) else none) (a := v) (Or.inl h1)
      exact ⟨w, by rw [if_neg hne]; exact h3, by omega⟩
theorem tb_add {S0 i j : Nat} (h : S0 < 2 ^ i) : (S0 + 2 ^ i).testBit j = (S0.testBit j || decide (j = i)) := by
  rcases Nat.lt_trichotomy j i with q | q | q
  · rw [Nat.add_comm, Nat.testBit_two_pow_add_gt q, decide_eq_false (by omega), Bool.or_false]
  · subst q
    rw [Nat.add_comm, Nat.testBit_two_pow_add_eq, Nat.testBit_lt_two_pow h, decide_eq_true rfl]; rfl
  · have h2 : 2 ^ (i + 1) ≤ 2 ^ j := Nat.pow_le_pow_right (by decide) (by omega)
    rw [Nat.pow_succ] at h2
    rw [Nat.testBit_lt_two_pow (by omega), Nat.testBit_lt_two_pow (by omega), decide_eq_false (by omega)]; rfl
theorem ml_ex {must : Nat} : ∀ (t : List (Nat × Nat)) (i who c v S0 : Nat), bsL must t i who = some v → S0 < 2 ^ i → ∃ S, S < 2 ^ (i + t.length) ∧ (∀ j, j < i → S.testBit j = S0.testBit j) ∧ (i ≤ must → must < i + t.length → S.testBit must = true) ∧ mlI S t i who c = some (c + v) := by
  intro t
  induction t with
  | nil =>
    intro i who c v S0 h hS
    rw [bsL] at h
    cases h
    exact ⟨S0, hS, fun _ _ => rfl, fun a b => by rw [List.length_nil] at b; omega, rfl⟩
  | cons p t ih =>
    intro i who c v S0 h hS
    rw [bsL] at h
    rw [List.length_cons]
    have hp : 2 ^ (i + 1) = 2 ^ i + 2 ^ i := by rw [Nat.pow_succ]; omega
    rcases omax_of h with q | q
    · by_cases e : i = must
      · rw [if_pos e] at q; cases q
      · rw [if_neg e] at q
        obtain ⟨S, a1, a2, a3, a4⟩ := ih (i + 1) who c v S0 q (by omega)
        have hb : S.testBit i = false := by rw [a2 i (Nat.lt_succ_self i)]; exact Nat.testBit_lt_two_pow hS
        refine ⟨S, by rw [show i + (t.length + 1) = i + 1 + t.length by omega]; exact a1, fun j hj => a2 j (by omega), fun x y => a3 (by omega) (by omega), ?_⟩
        rw [mlI, hb, if_neg (by decide)]; exact a4
    · by_cases hd : who &&& bth p = 0
      · rw [if_pos hd] at q
        obtain ⟨u, hu, rfl⟩ := Option.map_eq_some_iff.mp q
        obtain ⟨S, a1, a2, a3, a4⟩ := ih (i + 1) (who ||| bth p) (c + 1) u (S0 + 2 ^ i) hu (by omega)
        have hb : S.testBit i = true := by rw [a2 i (Nat.lt_succ_self i), tb_add hS, decide_eq_true rfl, Bool.or_true]
        refine ⟨S, by rw [show i + (t.length + 1) = i + 1 + t.length by omega]; exact a1, fun j hj => by rw [a2 j (by omega), tb_add hS, decide_eq_false (by omega), Bool.or_false], fun x y => ?_, ?_⟩
        · by_cases e : i = must
          · rw [← e]; exact hb
          · exact a3 (by omega) (by omega)
        · rw [mlI, if_pos hb, if_pos hd, a4]
          congr 1
          omega
      · rw [if_neg hd] at q; cases q
/-- the pairs that the model laid, as a list -/
def Rep (s : lyT) (l : List (Nat × Nat)) : Prop := s.1 = l.length ∧ ∀ i p, l[i]? = some p → s.2.1 i = nI p.1 ∧ s.2.2 i = nI p.2 ∧ p.1 < 5 ∧ p.2 < 5
theorem boI_eq {s : lyT} {i : Nat} {p : Nat × Nat} (h : s.2.1 i = nI p.1 ∧ s.2.2 i = nI p.2 ∧ p.1 < 5 ∧ p.2 < 5) : boI s i = nI (bth p) ∧ bth p < 32 := by
  unfold boI bth
  rw [h.1, h.2.1, xshl1 _ (by omega), xshl1 _ (by omega), fa_or]
  exact ⟨rfl, Nat.or_lt_two_pow (n := 5) (Nat.pow_lt_pow_right (by decide) h.2.2.1) (Nat.pow_lt_pow_right (by decide) h.2.2.2)⟩
theorem mwI_ml {s : lyT} {l : List (Nat × Nat)} {S : Nat} (hr : Rep s l) : ∀ (t : List (Nat × Nat)) (i who c : Nat), l.drop i = t → who < 32 → mwI s S t.length i (nI who) c = mlI S t i who c := by
  intro t
  induction t with
  | nil => intro i who c _ _; rfl
  | cons p t ih =>
    intro i who c hl hw
    have h1 : l[i]? = some p := by
      have := congrArg (fun x => x[0]?) hl
      simp only [List.getElem?_drop, Nat.add_zero, List.getElem?_cons_zero] at this
      exact this
    have h2 : l.drop (i + 1) = t := by
      have := congrArg List.tail hl
      rw [List.tail_drop, List.tail_cons] at this
      exact this
    obtain ⟨e1, e2⟩ := boI_eq (hr.2 i p h1)
    rw [List.length_cons, mwI, mlI, e1]
    by_cases hb : S.testBit i = true
    · rw [if_pos hb, if_pos hb]
      have hz : nI who &&& nI (bth p) = 0 ↔ who &&& bth p = 0 := by
        rw [fa_and]
        exact nIne (b := 0) (Nat.lt_of_le_of_lt Nat.and_le_left (by omega)) (by decide)
      by_cases hd : who &&& bth p = 0
      · rw [if_pos hd, if_pos (hz.mpr hd), fa_or]
        exact ih (i + 1) _ _ h2 (Nat.or_lt_two_pow (n := 5) hw e2)
      · rw [if_neg hd, if_neg (fun q => hd (hz.mp q))]
    · rw [if_neg hb, if_neg hb]
      exact ih (i + 1) who c h2 hw
theorem mwM_ge {v : Nat → Option Nat} {k c : Nat} (h : v k = some c) : ∀ n, k < n → c ≤ mwM v n
  | 0, h => by omega
  | n + 1, hn => by
    rw [mwM]
    by_cases e : k = n
    · subst e
      rw [h]
      show c ≤ if mwM v k < c then c else mwM v k
      split <;> omega
    · have := mwM_ge h n (by omega)
      cases hv : v n with
      | none => exact this
      | some x =>
        show c ≤ if mwM v n < x then x else mwM v n
        split <;> omega
theorem mw_eq {s : lyT} {l : List (Nat × Nat)} (hr : Rep s l) (hn : l.length ≤ 10) {pv : Int32} {must : Nat} (hp : (pv < 0 ∧ l.length ≤ must) ∨ (¬ pv < 0 ∧ pv = nI must ∧ must < l.length)) : mwM (mwV s pv) (2 ^ s.1) = (bsL must l 0 0).getD 0 := by
  have hs := hr.1
  have hbit : ∀ S, S < 2 ^ s.1 → ((pv < 0 ∨ bo (nI S) pv = 1) ↔ (0 ≤ must → must < 0 + l.length → S.testBit must = true)) := fun S hS => by
    rcases hp with ⟨h1, h2⟩ | ⟨h1, h2, h3⟩
    · exact ⟨fun _ _ q => by omega, fun _ => Or.inl h1⟩
    · rw [h2, bo_1 (by omega)]
      exact ⟨fun q _ _ => q.resolve_left (by rw [← h2]; exact h1), fun q => Or.inr (q (Nat.zero_le _) (by omega))⟩
  have hml : ∀ S, mwI s S s.1 0 0 0 = mlI S l 0 0 0 := fun S => by
    have := mwI_ml (S := S) hr l 0 0 0 rfl (by decide)
    rw [hs]; exact this
  apply Nat.le_antisymm
  · have h1 : ∀ k c, k < 2 ^ s.1 → mwV s pv k = some c → c ≤ (bsL must l 0 0).getD 0 := fun k c hk h => by
      unfold mwV at h
      by_cases q : pv < 0 ∨ bo (nI k) pv = 1
      · rw [if_pos q, hml] at h
        obtain ⟨v, e, hv⟩ := ml_ub l 0 0 0 c ((hbit k hk).mp q) h
        rw [e]; show c ≤ v; omega
      · rw [if_neg q] at h; cases h
    have h2 : ∀ n, n ≤ 2 ^ s.1 → mwM (mwV s pv) n ≤ (bsL must l 0 0).getD 0 := by
      intro n
      induction n with
      | zero => intro _; exact Nat.zero_le _
      | succ n ih =>
        intro hn
        have := ih (by omega)
        rw [mwM]
        cases hv : mwV s pv n with
        | none => exact this
        | some c =>
          have h3 := h1 n c (by omega) hv
          show (if mwM (mwV s pv) n < c then c else mwM (mwV s pv) n) ≤ _
          split <;> omega
    exact h2 _ (Nat.le_refl _)
  · cases hv : bsL must l 0 0 with
    | none => exact Nat.zero_le _
    | some v =>
      show v ≤ _
      obtain ⟨S, a1, -, a3, a4⟩ := ml_ex l 0 0 0 v 0 hv (by decide)
      rw [Nat.zero_add, ← hs] at a1
      refine mwM_ge (k := S) ?_ _ a1
      unfold mwV
      rw [if_pos ((hbit S a1).mpr a3), hml, a4, Nat.zero_add]
def plI (E : Nat → Nat → Bool) (a : Nat) : Nat → Nat → List (Nat × Nat)
  | 0, _ => []
  | k + 1, b => if E a b = true then (a, b) :: plI E a k (b + 1) else plI E a k (b + 1)
def plO (E : Nat → Nat → Bool) (P : Nat) : Nat → Nat → List (Nat × Nat)
  | 0, _ => []
  | k + 1, a => plI E a (P - (a + 1)) (a + 1) ++ plO E P k (a + 1)
theorem Rep_push {s : lyT} {l : List (Nat × Nat)} {a b : Nat} (h : Rep s l) (ha : a < 5) (hb : b < 5) : Rep (s.1 + 1, upd s.2.1 s.1 (nI a), upd s.2.2 s.1 (nI b)) (l ++ [(a, b)]) := by
  refine ⟨by rw [List.length_append]; show s.1 + 1 = _; rw [h.1]; rfl, fun i p hp => ?_⟩
  rw [h.1]
  dsimp only
  by_cases e : i = l.length
  · subst e
    rw [List.getElem?_append_right (Nat.le_refl _), Nat.sub_self] at hp
    cases hp
    rw [pk_us, pk_us]
    exact ⟨rfl, rfl, ha, hb⟩
  · have hi : i < l.length := by
      have := (List.getElem?_eq_some_iff.mp hp).1
      rw [List.length_append, List.length_singleton] at this
      omega
    rw [List.getElem?_append_left hi] at hp
    rw [upd_ne e, upd_ne e]
    exact h.2 i p hp
theorem Rep_I {E : Nat → Nat → Bool} {a : Nat} (ha : a < 5) : ∀ k b s l, b + k ≤ 5 → Rep s l → Rep (lyI E a k b s) (l ++ plI E a k b) := by
  intro k
  induction k with
  | zero => intro b s l _ h; rw [lyI, plI, List.append_nil]; exact h
  | succ k ih =>
    intro b s l hb h
    rw [lyI, plI]
    by_cases e : E a b = true
    · rw [if_pos e, if_pos e]
      have := ih (b + 1) _ _ (by omega) (Rep_push h ha (show b < 5 by omega))
      rw [List.append_assoc] at this
      exact this
    · rw [if_neg e, if_neg e]
      exact ih (b + 1) s l (by omega) h
theorem Rep_O {E : Nat → Nat → Bool} {P : Nat} (hP : P ≤ 5) : ∀ k a s l, a + k = P → Rep s l → Rep (lyO E P k a s) (l ++ plO E P k a) := by
  intro k
  induction k with
  | zero => intro a s l _ h; rw [lyO, plO, List.append_nil]; exact h
  | succ k ih =>
    intro a s l hb h
    rw [lyO, plO, ← List.append_assoc]
    exact ih (a + 1) _ _ (by omega) (Rep_I (by omega) _ _ _ _ (by omega) h)
theorem Rep_all {E : Nat → Nat → Bool} {P a : Nat} (hP : P ≤ 5) (ha : a ≤ P) (f g : Nat → Int32) : Rep (lyO E P (P - a) a (0, f, g)) (plO E P (P - a) a) := by
  have := Rep_O (E := E) hP (P - a) a (0, f, g) [] (by omega) ⟨rfl, fun i p h => by cases h⟩
  exact this
def pfL (l : List (Nat × Nat)) (a most : Nat) : List (Nat × Nat) → Nat → Option Nat
  | [], _ => none
  | p :: t, i => if p.1 = a then (if (bsL i l 0 0).getD 0 = most then some p.2 else pfL l a most t (i + 1)) else none
def prL (E : Nat → Nat → Bool) (P most : Nat) : Nat → Nat → Option (Nat × Nat)
  | 0, _ => none
  | k + 1, a => (pfL (plO E P (P - a) a) a most (plO E P (P - a) a) 0).elim (prL E P most k (a + 1)) (fun b => some (a, b))
theorem prI_pf {s : lyT} {l : List (Nat × Nat)} {a most : Nat} (hr : Rep s l) (hn : l.length ≤ 10) (ha : a < 5) : ∀ (t : List (Nat × Nat)) (i : Nat), l.drop i = t → i + t.length = l.length → (prI s a most t.length i = none ∧ pfL l a most t i = none) ∨ ∃ j b, prI s a most t.length i = some j ∧ pfL l a most t i = some b ∧ s.2.2 j = nI b := by
  intro t
  induction t with
  | nil => intro i _ _; exact Or.inl ⟨rfl, rfl⟩
  | cons p t ih =>
    intro i hl hi
    have h1 : l[i]? = some p := by
      have := congrArg (fun x => x[0]?) hl
      simp only [List.getElem?_drop, Nat.add_zero, List.getElem?_cons_zero] at this
      exact this
    have h2 : l.drop (i + 1) = t := by
      have := congrArg List.tail hl
      rw [List.tail_drop, List.tail_cons] at this
      exact this
    rw [List.length_cons] at hi ⊢
    obtain ⟨e1, e2, e3, e4⟩ := hr.2 i p h1
    rw [prI, pfL, e1, mw_eq hr hn (must := i) (Or.inr ⟨nI_pos (by omega), rfl, by omega⟩)]
    by_cases q : p.1 = a
    · rw [if_pos q, if_pos (by rw [q])]
      by_cases z : (bsL i l 0 0).getD 0 = most
      · rw [if_pos z, if_pos z]
        exact Or.inr ⟨i, p.2, rfl, rfl, e2⟩
      · rw [if_neg z, if_neg z]
        exact ih (i + 1) h2 (by omega)
    · rw [if_neg q, if_neg (fun y => q ((nIne (by omega) (by omega)).mp y))]
      exact Or.inl ⟨rfl, rfl⟩
theorem len_I {E : Nat → Nat → Bool} {a : Nat} : ∀ k b, (plI E a k b).length ≤ k
  | 0, _ => Nat.le_refl _
  | k + 1, b => by
    have := len_I (E := E) (a := a) k (b + 1)
    rw [plI]
    split
    · rw [List.length_cons]; omega
    · omega
theorem len_O {E : Nat → Nat → Bool} {P : Nat} : ∀ k a, a + k = P → (plO E P k a).length ≤ tri k
  | 0, _, _ => Nat.le_refl _
  | k + 1, a, h => by
    have h1 := len_I (E := E) (a := a) (P - (a + 1)) (a + 1)
    have h2 := len_O (E := E) (P := P) k (a + 1) (by omega)
    rw [plO, List.length_append, tri]
    omega
theorem prO_pr {E : Nat → Nat → Bool} {P most : Nat} (hP : P ≤ 5) (w : Int32) : ∀ k a s, a + k = P → prV (prO E P most k a s) w = (prL E P most k a).elim (-1) (fun x => if w = 1 then nI x.1 else nI x.2) := by
  intro k
  induction k with
  | zero => intro a s _; rfl
  | succ k ih =>
    intro a s h
    have hr := Rep_all (E := E) (a := a) hP (by omega) s.2.1 s.2.2
    have hl : (plO E P (P - a) a).length ≤ 10 := Nat.le_trans (len_O _ _ (by omega)) (tri_le (by omega))
    have he : (lyO E P (P - a) a (0, s.2)) = lyO E P (P - a) a (0, s.2.1, s.2.2) := rfl
    rw [prO, prL, he]
    have hpf := prI_pf (a := a) (most := most) hr hl (by omega) (plO E P (P - a) a) 0 rfl (Nat.zero_add _)
    rw [← hr.1] at hpf
    rcases hpf with ⟨h1, h2⟩ | ⟨j, b, h1, h2, h3⟩
    · rw [h1, h2]
      exact ih (a + 1) _ (by omega)
    · rw [h1, h2]
      show (if w = 1 then nI a else (lyO E P (P - a) a (0, s.2.1, s.2.2)).2.2 j) = if w = 1 then nI a else nI b
      rw [h3]
