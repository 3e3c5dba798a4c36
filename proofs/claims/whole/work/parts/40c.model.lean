set_option maxHeartbeats 4000000 in
set_option maxRecDepth 100000 in
theorem c_m_good {n : Nat} {M : Nat → xE} {t : Nat → Nat → Int32} {u : Nat → Nat → Int64} (hn : 113 < n) (hM : oX11 99 t u M) {τ : Nat → Nat → Int32} {P W G : Nat} (hw : RT τ P W G (t 0)) {δ : Nat → Nat → Int32} (hd : ∀ k, k < 22 → t 1 k = dv δ k) (hk : TOK τ P W G) {c : Nat} (hc : c < 1000) (hc0 : δ 0 0 = nI c) {a b : Int32} : xMet mX11_good [.ref 99, .int a, .int b] n M (fun r M' => M = M' ∧ some (.int (kGood τ δ G a b)) = r) := by
  have hM0 := hM
  obtain ⟨mp0, mp1, mp2, mp3, mp4, mp5, mp6, mp7, mp8, mp9, mp10, mp11, mp12, mp13, mp14⟩ := hM
  have hP5 := rtP hw
  have hW6 := rtW hw
  have hG5 := rtG hw
  have hiX11 : ∀ w ∈ wsX110, w ∈ wsX11_good := by decide +kernel
  refine xMet.of _ (by decide) rfl (Nat.le_of_ble_eq_true rfl) ?_
  refine x_aload_n (q := 1) dX11_good_0 rfl rfl ?_
  refine x_iload_n (q := 2) dX11_good_1 rfl rfl ?_
  refine x_callV (q := 5) (ci := 11) (c_m_isGood hn hM0 (rtG hw) (rtgood hw)) eX11_good_178 gX11_good_X11_isGood mp0 (by omega) rfl rfl rfl (Nat.le_of_ble_eq_true rfl) ⟨Nat.le_refl _, Nat.le_refl _⟩ dX11_good_2 rfl rfl (fun r2 M2 p2 => ?_)
  obtain ⟨rfl, p2⟩ := p2
  rcases p2 with ⟨b2, rfl⟩ | ⟨b2, rfl⟩
  · obtain ⟨a1, ha1, rfl⟩ := vp_in_of (inB_t.mp b2) (by omega)
    refine x_if_ne (t := 11) (q := 8) dX11_good_5 (by decide) rfl (fun c5 => ?_) (fun c5 => absurd c5 (by decide))
    refine x_iload_n (q := 12) dX11_good_11 rfl rfl ?_
    refine x_callS (q := 15) c_m_isFlag eX11_good_181 gX11_good_X11_isFlag rfl (Nat.le_of_ble_eq_true rfl) ⟨Nat.le_refl _, Nat.le_refl _⟩ dX11_good_12 rfl rfl (fun r12 M12 p12 => ?_)
    obtain ⟨rfl, p12⟩ := p12
    rcases p12 with ⟨b12, rfl⟩ | ⟨b12, rfl⟩
    · refine x_if_ne (t := 21) (q := 18) dX11_good_15 (by decide) rfl (fun c15 => ?_) (fun c15 => absurd c15 (by decide))
      refine x_iload_n (q := 22) dX11_good_21 rfl rfl ?_
      refine x_if_ne (t := 40) (q := 25) dX11_good_22 (by decide) rfl (fun c22 => ?_) (fun c22 => ?_)
      · refine x_aload_n (q := 41) dX11_good_40 rfl rfl ?_
        refine x_getf (C := RX11) (T := TX11) (N := 29) (k := 1) (q := 44) mp0 (by omega) rfl hiX11 (by decide) (by decide +kernel) rfl dX11_good_41 rfl ?_
        refine x_bipush (v := 18) (q := 46) dX11_good_44 rfl (by decide) ?_
        refine x_iald (q := 47) mp2 (by omega) (ixI (show (18 : Int32) = nI 18 from rfl) (by omega) (by decide)) dX11_good_46 rfl ?_
        rw [ixC (show (18 : Int32) = nI 18 from rfl) (by omega)]
        rw [rdsold hd]
        refine x_iload_n (q := 48) dX11_good_47 rfl rfl ?_
        refine x_ishr (q := 49) dX11_good_48 rfl ?_
        refine x_iconst (v := 1) (q := 50) dX11_good_49 rfl (by decide) ?_
        refine x_iand (q := 51) dX11_good_50 rfl ?_
        refine x_iret dX11_good_51 rfl rfl (Nat.le_refl _) ?_
        refine ⟨rfl, ?_⟩
        unfold kGood
        rw [if_pos b2]
        first
          | (rw [if_pos c22, hc0]; done)
          | (have hb : b = 1 := by
               obtain ⟨b1, hb1, eb⟩ := vp_in_of (inB_t.mp b12) (by decide)
               rcases (show b1 = 0 ∨ b1 = 1 by omega) with h | h
               · exact absurd (by rw [eb, h]; rfl) c22
               · rw [eb, h]; rfl
             rw [if_neg c22, if_pos hb]; rfl)
          | (have hx : ¬ vp_in b 2 := fun h => b12 (inB_t.mpr h)
             rw [if_neg (show ¬ b = 0 from xne hx 0 (by decide) (by decide)), if_neg (show ¬ b = 1 from xne hx 1 (by decide) (by decide))]; done)
      · refine x_aload_n (q := 26) dX11_good_25 rfl rfl ?_
        refine x_iload_n (q := 27) dX11_good_26 rfl rfl ?_
        refine x_aload_n (q := 28) dX11_good_27 rfl rfl ?_
        refine x_getf (C := RX11) (T := TX11) (N := 29) (k := 1) (q := 31) mp0 (by omega) rfl hiX11 (by decide) (by decide +kernel) rfl dX11_good_28 rfl ?_
        refine x_bipush (v := 20) (q := 33) dX11_good_31 rfl (by decide) ?_
        refine x_iald (q := 34) mp2 (by omega) (ixI (show (20 : Int32) = nI 20 from rfl) (by omega) (by decide)) dX11_good_33 rfl ?_
        rw [ixC (show (20 : Int32) = nI 20 from rfl) (by omega)]
        rw [rdcent hd, hc0]
        refine x_callV (q := 37) (ci := 11) (c_m_worthIn hn hM0 hw hk ha1 (by omega)) eX11_good_184 gX11_good_X11_worthIn mp0 (by omega) rfl rfl rfl (Nat.le_of_ble_eq_true rfl) ⟨Nat.le_refl _, Nat.le_refl _⟩ dX11_good_34 rfl rfl (fun r34 M34 p34 => ?_)
        obtain ⟨rfl, rfl⟩ := p34
        refine x_goto (q := 51) dX11_good_37 (by decide) ?_
        refine x_iret dX11_good_51 rfl rfl (Nat.le_refl _) ?_
        refine ⟨rfl, ?_⟩
        unfold kGood
        rw [if_pos b2]
        first
          | (rw [if_pos c22, hc0]; done)
          | (have hb : b = 1 := by
               obtain ⟨b1, hb1, eb⟩ := vp_in_of (inB_t.mp b12) (by decide)
               rcases (show b1 = 0 ∨ b1 = 1 by omega) with h | h
               · exact absurd (by rw [eb, h]; rfl) c22
               · rw [eb, h]; rfl
             rw [if_neg c22, if_pos hb]; rfl)
          | (have hx : ¬ vp_in b 2 := fun h => b12 (inB_t.mpr h)
             rw [if_neg (show ¬ b = 0 from xne hx 0 (by decide) (by decide)), if_neg (show ¬ b = 1 from xne hx 1 (by decide) (by decide))]; done)
    · refine x_if_ne (t := 21) (q := 18) dX11_good_15 (by decide) rfl (fun c15 => absurd c15 (by decide)) (fun c15 => ?_)
      refine x_bipush (v := -3) (q := 20) dX11_good_18 rfl (by decide) ?_
      refine x_iret dX11_good_20 rfl rfl (Nat.le_refl _) ?_
      refine ⟨rfl, ?_⟩
      unfold kGood
      rw [if_pos b2]
      first
        | (rw [if_pos c22, hc0]; done)
        | (have hb : b = 1 := by
             obtain ⟨b1, hb1, eb⟩ := vp_in_of (inB_t.mp b12) (by decide)
             rcases (show b1 = 0 ∨ b1 = 1 by omega) with h | h
             · exact absurd (by rw [eb, h]; rfl) c22
             · rw [eb, h]; rfl
           rw [if_neg c22, if_pos hb]; rfl)
        | (have hx : ¬ vp_in b 2 := fun h => b12 (inB_t.mpr h)
           rw [if_neg (show ¬ b = 0 from xne hx 0 (by decide) (by decide)), if_neg (show ¬ b = 1 from xne hx 1 (by decide) (by decide))]; done)
  · refine x_if_ne (t := 11) (q := 8) dX11_good_5 (by decide) rfl (fun c5 => absurd c5 (by decide)) (fun c5 => ?_)
    refine x_bipush (v := -2) (q := 10) dX11_good_8 rfl (by decide) ?_
    refine x_iret dX11_good_10 rfl rfl (Nat.le_refl _) ?_
    refine ⟨rfl, ?_⟩
    unfold kGood
    rw [if_neg b2]

def isOfB (k b : Int32) : Bool := decide (b = 0) || (decide (b = k + 2) || ((decide (b = 1) && decide (k < 2)) || (decide (b = 4) && decide (k = 3))))
theorem isOf_bo {k b : Int32} (hk : vp_in k 4) (hb : vp_in b 6) : (bo (xTk k.toNatClampNeg) b = 0) ↔ ¬ isOfB k b = true := by
  obtain ⟨a, ha, ea⟩ := vp_in_of hk (by decide)
  obtain ⟨c, hc, eb⟩ := vp_in_of hb (by decide)
  rw [ea, eb]
  rcases (show a = 0 ∨ a = 1 ∨ a = 2 ∨ a = 3 by omega) with e | e | e | e <;> rcases (show c = 0 ∨ c = 1 ∨ c = 2 ∨ c = 3 ∨ c = 4 ∨ c = 5 by omega) with f | f | f | f | f | f <;> subst e <;> subst f <;> decide
set_option maxHeartbeats 4000000 in
set_option maxRecDepth 100000 in
theorem c_m_isOf {n : Nat} {M : Nat → xE} {k b : Int32} : xMet mX11_isOf [.int k, .int b] n M (fun r M' => M = M' ∧ xB (isOfB k b = true) r) := by
  refine xMet.of _ (by decide) rfl (Nat.le_of_ble_eq_true rfl) ?_
  refine x_iload_n (q := 1) dX11_isOf_0 rfl rfl ?_
  refine x_if_eq (t := 31) (q := 4) dX11_isOf_1 (by decide) rfl (fun c1 => ?_) (fun c1 => ?_)
  · refine x_iconst (v := 1) (q := 32) dX11_isOf_31 rfl (by decide) ?_
    refine x_goto (q := 36) dX11_isOf_32 (by decide) ?_
    refine x_zret dX11_isOf_36 rfl rfl rfl (Nat.le_refl _) ?_
    refine ⟨rfl, ?_⟩
    unfold isOfB
    simp only [Bool.or_eq_true, Bool.and_eq_true, decide_eq_true_iff]
    first
      | exact Or.inl ⟨Or.inl c1, rfl⟩
      | exact Or.inl ⟨Or.inr (Or.inl c8), rfl⟩
      | exact Or.inl ⟨Or.inr (Or.inr (Or.inl ⟨c13, c18⟩)), rfl⟩
      | exact Or.inl ⟨Or.inr (Or.inr (Or.inr ⟨c23, c28⟩)), rfl⟩
      | exact Or.inr ⟨by rintro (h | h | ⟨h, h'⟩ | ⟨h, h'⟩) <;> contradiction, rfl⟩
  · refine x_iload_n (q := 5) dX11_isOf_4 rfl rfl ?_
    refine x_iload_n (q := 6) dX11_isOf_5 rfl rfl ?_
    refine x_iconst (v := 2) (q := 7) dX11_isOf_6 rfl (by decide) ?_
    refine x_iadd (q := 8) dX11_isOf_7 rfl ?_
    refine x_icmp_eq (t := 31) (q := 11) dX11_isOf_8 (by decide) rfl (fun c8 => ?_) (fun c8 => ?_)
    · refine x_iconst (v := 1) (q := 32) dX11_isOf_31 rfl (by decide) ?_
      refine x_goto (q := 36) dX11_isOf_32 (by decide) ?_
      refine x_zret dX11_isOf_36 rfl rfl rfl (Nat.le_refl _) ?_
      refine ⟨rfl, ?_⟩
      unfold isOfB
      simp only [Bool.or_eq_true, Bool.and_eq_true, decide_eq_true_iff]
      first
        | exact Or.inl ⟨Or.inl c1, rfl⟩
        | exact Or.inl ⟨Or.inr (Or.inl c8), rfl⟩
        | exact Or.inl ⟨Or.inr (Or.inr (Or.inl ⟨c13, c18⟩)), rfl⟩
        | exact Or.inl ⟨Or.inr (Or.inr (Or.inr ⟨c23, c28⟩)), rfl⟩
        | exact Or.inr ⟨by rintro (h | h | ⟨h, h'⟩ | ⟨h, h'⟩) <;> contradiction, rfl⟩
    · refine x_iload_n (q := 12) dX11_isOf_11 rfl rfl ?_
      refine x_iconst (v := 1) (q := 13) dX11_isOf_12 rfl (by decide) ?_
      refine x_icmp_ne (t := 21) (q := 16) dX11_isOf_13 (by decide) rfl (fun c13 => ?_) (fun c13 => ?_)
      · refine x_iload_n (q := 22) dX11_isOf_21 rfl rfl ?_
        refine x_iconst (v := 4) (q := 23) dX11_isOf_22 rfl (by decide) ?_
        refine x_icmp_ne (t := 35) (q := 26) dX11_isOf_23 (by decide) rfl (fun c23 => ?_) (fun c23 => ?_)
        · refine x_iconst (v := 0) (q := 36) dX11_isOf_35 rfl (by decide) ?_
          refine x_zret dX11_isOf_36 rfl rfl rfl (Nat.le_refl _) ?_
          refine ⟨rfl, ?_⟩
          unfold isOfB
          simp only [Bool.or_eq_true, Bool.and_eq_true, decide_eq_true_iff]
          first
            | exact Or.inl ⟨Or.inl c1, rfl⟩
            | exact Or.inl ⟨Or.inr (Or.inl c8), rfl⟩
            | exact Or.inl ⟨Or.inr (Or.inr (Or.inl ⟨c13, c18⟩)), rfl⟩
            | exact Or.inl ⟨Or.inr (Or.inr (Or.inr ⟨c23, c28⟩)), rfl⟩
            | exact Or.inr ⟨by rintro (h | h | ⟨h, h'⟩ | ⟨h, h'⟩) <;> contradiction, rfl⟩
        · refine x_iload_n (q := 27) dX11_isOf_26 rfl rfl ?_
          refine x_iconst (v := 3) (q := 28) dX11_isOf_27 rfl (by decide) ?_
          refine x_icmp_ne (t := 35) (q := 31) dX11_isOf_28 (by decide) rfl (fun c28 => ?_) (fun c28 => ?_)
          · refine x_iconst (v := 0) (q := 36) dX11_isOf_35 rfl (by decide) ?_
            refine x_zret dX11_isOf_36 rfl rfl rfl (Nat.le_refl _) ?_
            refine ⟨rfl, ?_⟩
            unfold isOfB
            simp only [Bool.or_eq_true, Bool.and_eq_true, decide_eq_true_iff]
            first
              | exact Or.inl ⟨Or.inl c1, rfl⟩
              | exact Or.inl ⟨Or.inr (Or.inl c8), rfl⟩
              | exact Or.inl ⟨Or.inr (Or.inr (Or.inl ⟨c13, c18⟩)), rfl⟩
              | exact Or.inl ⟨Or.inr (Or.inr (Or.inr ⟨c23, c28⟩)), rfl⟩
              | exact Or.inr ⟨by rintro (h | h | ⟨h, h'⟩ | ⟨h, h'⟩) <;> contradiction, rfl⟩
          · refine x_iconst (v := 1) (q := 32) dX11_isOf_31 rfl (by decide) ?_
            refine x_goto (q := 36) dX11_isOf_32 (by decide) ?_
            refine x_zret dX11_isOf_36 rfl rfl rfl (Nat.le_refl _) ?_
            refine ⟨rfl, ?_⟩
            unfold isOfB
            simp only [Bool.or_eq_true, Bool.and_eq_true, decide_eq_true_iff]
            first
              | exact Or.inl ⟨Or.inl c1, rfl⟩
              | exact Or.inl ⟨Or.inr (Or.inl c8), rfl⟩
              | exact Or.inl ⟨Or.inr (Or.inr (Or.inl ⟨c13, c18⟩)), rfl⟩
              | exact Or.inl ⟨Or.inr (Or.inr (Or.inr ⟨c23, c28⟩)), rfl⟩
              | exact Or.inr ⟨by rintro (h | h | ⟨h, h'⟩ | ⟨h, h'⟩) <;> contradiction, rfl⟩
      · refine x_iload_n (q := 17) dX11_isOf_16 rfl rfl ?_
        refine x_iconst (v := 2) (q := 18) dX11_isOf_17 rfl (by decide) ?_
        refine x_icmp_lt (t := 31) (q := 21) dX11_isOf_18 (by decide) rfl (fun c18 => ?_) (fun c18 => ?_)
        · refine x_iconst (v := 1) (q := 32) dX11_isOf_31 rfl (by decide) ?_
          refine x_goto (q := 36) dX11_isOf_32 (by decide) ?_
          refine x_zret dX11_isOf_36 rfl rfl rfl (Nat.le_refl _) ?_
          refine ⟨rfl, ?_⟩
          unfold isOfB
          simp only [Bool.or_eq_true, Bool.and_eq_true, decide_eq_true_iff]
          first
            | exact Or.inl ⟨Or.inl c1, rfl⟩
            | exact Or.inl ⟨Or.inr (Or.inl c8), rfl⟩
            | exact Or.inl ⟨Or.inr (Or.inr (Or.inl ⟨c13, c18⟩)), rfl⟩
            | exact Or.inl ⟨Or.inr (Or.inr (Or.inr ⟨c23, c28⟩)), rfl⟩
            | exact Or.inr ⟨by rintro (h | h | ⟨h, h'⟩ | ⟨h, h'⟩) <;> contradiction, rfl⟩
        · refine x_iload_n (q := 22) dX11_isOf_21 rfl rfl ?_
          refine x_iconst (v := 4) (q := 23) dX11_isOf_22 rfl (by decide) ?_
          refine x_icmp_ne (t := 35) (q := 26) dX11_isOf_23 (by decide) rfl (fun c23 => ?_) (fun c23 => ?_)
          · refine x_iconst (v := 0) (q := 36) dX11_isOf_35 rfl (by decide) ?_
            refine x_zret dX11_isOf_36 rfl rfl rfl (Nat.le_refl _) ?_
            refine ⟨rfl, ?_⟩
            unfold isOfB
            simp only [Bool.or_eq_true, Bool.and_eq_true, decide_eq_true_iff]
            first
              | exact Or.inl ⟨Or.inl c1, rfl⟩
              | exact Or.inl ⟨Or.inr (Or.inl c8), rfl⟩
              | exact Or.inl ⟨Or.inr (Or.inr (Or.inl ⟨c13, c18⟩)), rfl⟩
              | exact Or.inl ⟨Or.inr (Or.inr (Or.inr ⟨c23, c28⟩)), rfl⟩
              | exact Or.inr ⟨by rintro (h | h | ⟨h, h'⟩ | ⟨h, h'⟩) <;> contradiction, rfl⟩
          · refine x_iload_n (q := 27) dX11_isOf_26 rfl rfl ?_
            refine x_iconst (v := 3) (q := 28) dX11_isOf_27 rfl (by decide) ?_
            refine x_icmp_ne (t := 35) (q := 31) dX11_isOf_28 (by decide) rfl (fun c28 => ?_) (fun c28 => ?_)
            · refine x_iconst (v := 0) (q := 36) dX11_isOf_35 rfl (by decide) ?_
              refine x_zret dX11_isOf_36 rfl rfl rfl (Nat.le_refl _) ?_
              refine ⟨rfl, ?_⟩
              unfold isOfB
              simp only [Bool.or_eq_true, Bool.and_eq_true, decide_eq_true_iff]
              first
                | exact Or.inl ⟨Or.inl c1, rfl⟩
                | exact Or.inl ⟨Or.inr (Or.inl c8), rfl⟩
                | exact Or.inl ⟨Or.inr (Or.inr (Or.inl ⟨c13, c18⟩)), rfl⟩
                | exact Or.inl ⟨Or.inr (Or.inr (Or.inr ⟨c23, c28⟩)), rfl⟩
                | exact Or.inr ⟨by rintro (h | h | ⟨h, h'⟩ | ⟨h, h'⟩) <;> contradiction, rfl⟩
            · refine x_iconst (v := 1) (q := 32) dX11_isOf_31 rfl (by decide) ?_
              refine x_goto (q := 36) dX11_isOf_32 (by decide) ?_
              refine x_zret dX11_isOf_36 rfl rfl rfl (Nat.le_refl _) ?_
              refine ⟨rfl, ?_⟩
              unfold isOfB
              simp only [Bool.or_eq_true, Bool.and_eq_true, decide_eq_true_iff]
              first
                | exact Or.inl ⟨Or.inl c1, rfl⟩
                | exact Or.inl ⟨Or.inr (Or.inl c8), rfl⟩
                | exact Or.inl ⟨Or.inr (Or.inr (Or.inl ⟨c13, c18⟩)), rfl⟩
                | exact Or.inl ⟨Or.inr (Or.inr (Or.inr ⟨c23, c28⟩)), rfl⟩
                | exact Or.inr ⟨by rintro (h | h | ⟨h, h'⟩ | ⟨h, h'⟩) <;> contradiction, rfl⟩

set_option maxHeartbeats 4000000 in
set_option maxRecDepth 100000 in
theorem l_m_as {n P W G p : Nat} {b : Int32} {t τ δ : Nat → Nat → Int32} {u : Nat → Nat → Int64} {Q : Option Value → (Nat → xE) → Prop} (hn : 113 < n) (hw : RT τ P W G (t 0)) (hd : ∀ k, k < 22 → t 1 k = dv δ k) (hk : TOK τ P W G) (hp : p < P) : ∀ (k i : Nat) (M : Nat → xE), i + k = W → (oX11 99 t u M) → (Q (some (.int (bset (fun k => cDo τ δ (nI p) (nI k)) W))) M) → X mX11_as 0 0 49 [(4, .int (nI i)), (3, .int (bset (fun k => cDo τ δ (nI p) (nI k)) i)), (0, .ref 99), (1, .int (nI p)), (2, .int b)] [] n M (Q) := by
  have hiX11 : ∀ w ∈ wsX110, w ∈ wsX11_as := by decide +kernel
  intro k
  induction k with
  | zero =>
    intro i M hik hM hQ
    have hM0 := hM
    obtain ⟨mp0, mp1, mp2, mp3, mp4, mp5, mp6, mp7, mp8, mp9, mp10, mp11, mp12, mp13, mp14⟩ := hM
    have hP5 := rtP hw
    have hW6 := rtW hw
    have hG5 := rtG hw
    refine x_iload (q := 51) dX11_as_49 rfl rfl ?_
    refine x_aload_n (q := 52) dX11_as_51 rfl rfl ?_
    refine x_getf (C := RX11) (T := TX11) (N := 29) (k := 0) (q := 55) mp0 (by omega) rfl hiX11 (by decide) (by decide +kernel) rfl dX11_as_52 rfl ?_
    refine x_bipush (v := 11) (q := 57) dX11_as_55 rfl (by decide) ?_
    refine x_iald (q := 58) mp1 (by omega) (ixI (show (11 : Int32) = nI 11 from rfl) (by omega) (by decide)) dX11_as_57 rfl ?_
    rw [ixC (show (11 : Int32) = nI 11 from rfl) (by omega)]
    rw [rtmany hw]
    refine x_icmp_ge (t := 88) (q := 61) dX11_as_58 (by decide) rfl (fun c58 => ?_) (fun c58 => absurd (by rw [show i = W by omega]; exact nI_le (Nat.le_refl _) (by omega)) c58)
    refine x_iload_n (q := 89) dX11_as_88 rfl rfl ?_
    refine x_iret dX11_as_89 rfl rfl (Nat.le_refl _) ?_
    rw [show i = W by omega]
    exact hQ
  | succ k ih =>
    intro i M hik hM hQ
    have hM0 := hM
    obtain ⟨mp0, mp1, mp2, mp3, mp4, mp5, mp6, mp7, mp8, mp9, mp10, mp11, mp12, mp13, mp14⟩ := hM
    have hP5 := rtP hw
    have hW6 := rtW hw
    have hG5 := rtG hw
    refine x_iload (q := 51) dX11_as_49 rfl rfl ?_
    refine x_aload_n (q := 52) dX11_as_51 rfl rfl ?_
    refine x_getf (C := RX11) (T := TX11) (N := 29) (k := 0) (q := 55) mp0 (by omega) rfl hiX11 (by decide) (by decide +kernel) rfl dX11_as_52 rfl ?_
    refine x_bipush (v := 11) (q := 57) dX11_as_55 rfl (by decide) ?_
    refine x_iald (q := 58) mp1 (by omega) (ixI (show (11 : Int32) = nI 11 from rfl) (by omega) (by decide)) dX11_as_57 rfl ?_
    rw [ixC (show (11 : Int32) = nI 11 from rfl) (by omega)]
    rw [rtmany hw]
    refine x_icmp_ge (t := 88) (q := 61) dX11_as_58 (by decide) rfl (fun c58 => absurd c58 (nI_ge (a := i) (b := W) (by omega) (by omega))) (fun c58 => ?_)
    refine x_iload_n (q := 62) dX11_as_61 rfl rfl ?_
    refine x_aload_n (q := 63) dX11_as_62 rfl rfl ?_
    refine x_iload_n (q := 64) dX11_as_63 rfl rfl ?_
    refine x_iload (q := 66) dX11_as_64 rfl rfl ?_
    refine x_callV (q := 69) (ci := 11) (c_m_canDo hn hM0 hw hd hk hp (show i < W by omega)) eX11_as_193 gX11_as_X11_canDo mp0 (by omega) rfl rfl rfl (Nat.le_of_ble_eq_true rfl) ⟨Nat.le_refl _, Nat.le_refl _⟩ dX11_as_66 rfl rfl (fun r66 M66 p66 => ?_)
    obtain ⟨rfl, p66⟩ := p66
    rcases p66 with ⟨b66, rfl⟩ | ⟨b66, rfl⟩
    · refine x_if_eq (t := 79) (q := 72) dX11_as_69 (by decide) rfl (fun c69 => absurd c69 (by decide)) (fun c69 => ?_)
      refine x_iconst (v := 1) (q := 73) dX11_as_72 rfl (by decide) ?_
      refine x_iload (q := 75) dX11_as_73 rfl rfl ?_
      refine x_ishl (q := 76) dX11_as_75 rfl ?_
      refine x_goto (q := 80) dX11_as_76 (by decide) ?_
      refine x_ior (q := 81) dX11_as_80 rfl ?_
      refine x_istore_n (L' := fun x3_81 => [(3, .int x3_81), (4, .int (nI i)), (0, .ref 99), (1, .int (nI p)), (2, .int b)]) (q := 82) dX11_as_81 rfl (by decide) (fun _ => rfl) (fun x3_81 ex3_81 => ?_)
      obtain rfl : x3_81 = bset (fun k => cDo τ δ (nI p) (nI k)) (i + 1) := ex3_81.trans (by first | rw [bset_t (p := fun k => cDo τ δ (nI p) (nI k)) b66] | rw [bset_f (p := fun k => cDo τ δ (nI p) (nI k)) (by simpa using b66), Int32.or_zero])
      refine x_iinc (L' := fun x4_82 => [(4, .int x4_82), (3, .int (bset (fun k => cDo τ δ (nI p) (nI k)) (i + 1))), (0, .ref 99), (1, .int (nI p)), (2, .int b)]) (q := 85) dX11_as_82 rfl rfl (by decide) (fun _ => rfl) (fun x4_82 ex4_82 => ?_)
      obtain rfl : x4_82 = nI (i + 1) := ex4_82.trans (nI_1 i)
      refine x_goto (q := 49) dX11_as_85 (by decide) ?_
      refine x_pick (L' := [(4, .int (nI (i + 1))), (3, .int (bset (fun k => cDo τ δ (nI p) (nI k)) (i + 1))), (0, .ref 99), (1, .int (nI p)), (2, .int b)]) [0, 1, 2, 3, 4] rfl ?_
      exact ih (i + 1) M (by omega) hM0 hQ
    · refine x_if_eq (t := 79) (q := 72) dX11_as_69 (by decide) rfl (fun c69 => ?_) (fun c69 => absurd c69 (by decide))
      refine x_iconst (v := 0) (q := 80) dX11_as_79 rfl (by decide) ?_
      refine x_ior (q := 81) dX11_as_80 rfl ?_
      refine x_istore_n (L' := fun x3_81 => [(3, .int x3_81), (4, .int (nI i)), (0, .ref 99), (1, .int (nI p)), (2, .int b)]) (q := 82) dX11_as_81 rfl (by decide) (fun _ => rfl) (fun x3_81 ex3_81 => ?_)
      obtain rfl : x3_81 = bset (fun k => cDo τ δ (nI p) (nI k)) (i + 1) := ex3_81.trans (by first | rw [bset_t (p := fun k => cDo τ δ (nI p) (nI k)) b66] | rw [bset_f (p := fun k => cDo τ δ (nI p) (nI k)) (by simpa using b66), Int32.or_zero])
      refine x_iinc (L' := fun x4_82 => [(4, .int x4_82), (3, .int (bset (fun k => cDo τ δ (nI p) (nI k)) (i + 1))), (0, .ref 99), (1, .int (nI p)), (2, .int b)]) (q := 85) dX11_as_82 rfl rfl (by decide) (fun _ => rfl) (fun x4_82 ex4_82 => ?_)
      obtain rfl : x4_82 = nI (i + 1) := ex4_82.trans (nI_1 i)
      refine x_goto (q := 49) dX11_as_85 (by decide) ?_
      refine x_pick (L' := [(4, .int (nI (i + 1))), (3, .int (bset (fun k => cDo τ δ (nI p) (nI k)) (i + 1))), (0, .ref 99), (1, .int (nI p)), (2, .int b)]) [0, 1, 2, 3, 4] rfl ?_
      exact ih (i + 1) M (by omega) hM0 hQ

set_option maxHeartbeats 4000000 in
set_option maxRecDepth 100000 in
theorem c_m_as {n : Nat} {M : Nat → xE} {t : Nat → Nat → Int32} {u : Nat → Nat → Int64} (hn : 113 < n) (hM : oX11 99 t u M) {τ : Nat → Nat → Int32} {P W G : Nat} (hw : RT τ P W G (t 0)) {δ : Nat → Nat → Int32} (hd : ∀ k, k < 22 → t 1 k = dv δ k) (hk : TOK τ P W G) {a b : Int32} : xMet mX11_as [.ref 99, .int a, .int b] n M (fun r M' => M = M' ∧ some (.int (kAs τ δ P W a b)) = r) := by
  have hM0 := hM
  obtain ⟨mp0, mp1, mp2, mp3, mp4, mp5, mp6, mp7, mp8, mp9, mp10, mp11, mp12, mp13, mp14⟩ := hM
  have hP5 := rtP hw
  have hW6 := rtW hw
  have hG5 := rtG hw
  have hiX11 : ∀ w ∈ wsX110, w ∈ wsX11_as := by decide +kernel
  refine xMet.of _ (by decide) rfl (Nat.le_of_ble_eq_true rfl) ?_
  refine x_aload_n (q := 1) dX11_as_0 rfl rfl ?_
  refine x_iload_n (q := 2) dX11_as_1 rfl rfl ?_
  refine x_callV (q := 5) (ci := 11) (c_m_isOne hn hM0 (rtP hw) (rtn hw)) eX11_as_170 gX11_as_X11_isOne mp0 (by omega) rfl rfl rfl (Nat.le_of_ble_eq_true rfl) ⟨Nat.le_refl _, Nat.le_refl _⟩ dX11_as_2 rfl rfl (fun r2 M2 p2 => ?_)
  obtain ⟨rfl, p2⟩ := p2
  rcases p2 with ⟨b2, rfl⟩ | ⟨b2, rfl⟩
  · obtain ⟨a1, ha1, rfl⟩ := vp_in_of (inB_t.mp b2) (by omega)
    refine x_if_ne (t := 11) (q := 8) dX11_as_5 (by decide) rfl (fun c5 => ?_) (fun c5 => absurd c5 (by decide))
    refine x_iload_n (q := 12) dX11_as_11 rfl rfl ?_
    refine x_i2l (q := 13) dX11_as_12 rfl ?_
    refine x_lconst (v := 0) (q := 14) dX11_as_13 rfl (by decide) ?_
    refine x_ldc2 (v := 5) (q := 17) (by decide +kernel) dX11_as_14 rfl ?_
    refine x_callS (q := 20) c_m_in eX11_as_65 gX11_as_X11_in rfl (Nat.le_of_ble_eq_true rfl) ⟨Nat.le_refl _, Nat.le_refl _⟩ dX11_as_17 rfl rfl (fun r17 M17 p17 => ?_)
    obtain ⟨rfl, p17⟩ := p17
    rcases p17 with ⟨b17, rfl⟩ | ⟨b17, rfl⟩
    · refine x_if_ne (t := 26) (q := 23) dX11_as_20 (by decide) rfl (fun c20 => ?_) (fun c20 => absurd c20 (by decide))
      refine x_aload_n (q := 27) dX11_as_26 rfl rfl ?_
      refine x_getf (C := RX11) (T := TX11) (N := 29) (k := 0) (q := 30) mp0 (by omega) rfl hiX11 (by decide) (by decide +kernel) rfl dX11_as_27 rfl ?_
      refine x_iconst (v := 1) (q := 31) dX11_as_30 rfl (by decide) ?_
      refine x_iload_n (q := 32) dX11_as_31 rfl rfl ?_
      refine x_iadd (q := 33) dX11_as_32 rfl ?_
      refine x_iald (q := 34) mp1 (by omega) (ixI (show ((1 + nI a1) : Int32) = nI (1 + a1) from (nIs rfl rfl)) (by omega) (by decide)) dX11_as_33 rfl ?_
      rw [ixC (show ((1 + nI a1) : Int32) = nI (1 + a1) from (nIs rfl rfl)) (by omega)]
      rw [rtkind hw ha1]
      refine x_iload_n (q := 35) dX11_as_34 rfl rfl ?_
      refine x_callS (q := 38) c_m_isOf eX11_as_190 gX11_as_X11_isOf rfl (Nat.le_of_ble_eq_true rfl) ⟨Nat.le_refl _, Nat.le_refl _⟩ dX11_as_35 rfl rfl (fun r35 M35 p35 => ?_)
      obtain ⟨rfl, p35⟩ := p35
      rcases p35 with ⟨b35, rfl⟩ | ⟨b35, rfl⟩
      · refine x_if_ne (t := 44) (q := 41) dX11_as_38 (by decide) rfl (fun c38 => ?_) (fun c38 => absurd c38 (by decide))
        refine x_iconst (v := 0) (q := 45) dX11_as_44 rfl (by decide) ?_
        refine x_istore_n (L' := fun x3_45 => [(3, .int x3_45), (0, .ref 99), (1, .int (nI a1)), (2, .int b)]) (q := 46) dX11_as_45 rfl (by decide) (fun _ => rfl) (fun x3_45 ex3_45 => ?_)
        refine x_iconst (v := 0) (q := 47) dX11_as_46 rfl (by decide) ?_
        refine x_istore (L' := fun x4_47 => [(4, .int x4_47), (3, .int x3_45), (0, .ref 99), (1, .int (nI a1)), (2, .int b)]) (q := 49) dX11_as_47 rfl (by decide) (fun _ => rfl) (fun x4_47 ex4_47 => ?_)
        subst ex3_45
        subst ex4_47
        exact l_m_as hn hw hd hk ha1 W 0 M (by omega) hM0 ⟨rfl, by unfold kAs; rw [if_pos b2, nI_clamp (show a1 < 2 ^ 31 by omega), if_pos ((mIn2 (k := 5) (by decide) rfl).mp b17), if_neg (fun h => (isOf_bo (hk.2.1 a1 ha1) (inB_t.mp ((mIn2 (k := 5) (by decide) rfl).mp b17))).mp h b35)]⟩
      · refine x_if_ne (t := 44) (q := 41) dX11_as_38 (by decide) rfl (fun c38 => absurd c38 (by decide)) (fun c38 => ?_)
        refine x_bipush (v := -4) (q := 43) dX11_as_41 rfl (by decide) ?_
        refine x_iret dX11_as_43 rfl rfl (Nat.le_refl _) ?_
        refine ⟨rfl, ?_⟩
        unfold kAs
        rw [if_pos b2, nI_clamp (show a1 < 2 ^ 31 by omega), if_pos ((mIn2 (k := 5) (by decide) rfl).mp b17), if_pos ((isOf_bo (hk.2.1 a1 ha1) (inB_t.mp ((mIn2 (k := 5) (by decide) rfl).mp b17))).mpr b35)]
    · refine x_if_ne (t := 26) (q := 23) dX11_as_20 (by decide) rfl (fun c20 => absurd c20 (by decide)) (fun c20 => ?_)
      refine x_bipush (v := -3) (q := 25) dX11_as_23 rfl (by decide) ?_
      refine x_iret dX11_as_25 rfl rfl (Nat.le_refl _) ?_
      refine ⟨rfl, ?_⟩
      unfold kAs
      rw [if_pos b2, nI_clamp (show a1 < 2 ^ 31 by omega), if_neg (fun h => b17 ((mIn2 (k := 5) (by decide) rfl).mpr h))]
  · refine x_if_ne (t := 11) (q := 8) dX11_as_5 (by decide) rfl (fun c5 => absurd c5 (by decide)) (fun c5 => ?_)
    refine x_bipush (v := -2) (q := 10) dX11_as_8 rfl (by decide) ?_
    refine x_iret dX11_as_10 rfl rfl (Nat.le_refl _) ?_
    refine ⟨rfl, ?_⟩
    unfold kAs
    rw [if_neg b2]

theorem kGoodAs_nI {τ δ : Nat → Nat → Int32} {G g : Nat} {b : Int32} (hg : g < G) (hG : G ≤ 5) (hb : inB b 3 = true) : kGoodAs τ δ G (nI g) b = if b = 0 ∨ b = (if bo (τ 9 0) (nI g) = 1 then 1 else 2) then tPrice τ (nI g) (δ 0 0 + 1) else -4 := by
  unfold kGoodAs
  rw [if_pos (inB_t.mpr (vp_in_nI hg (by omega))), if_pos hb]
set_option maxHeartbeats 4000000 in
set_option maxRecDepth 100000 in
theorem c_m_goodAs {n : Nat} {M : Nat → xE} {t : Nat → Nat → Int32} {u : Nat → Nat → Int64} (hn : 113 < n) (hM : oX11 99 t u M) {τ : Nat → Nat → Int32} {P W G : Nat} (hw : RT τ P W G (t 0)) {δ : Nat → Nat → Int32} (hd : ∀ k, k < 22 → t 1 k = dv δ k) (hk : TOK τ P W G) {c : Nat} (hc : c < 1000) (hc0 : δ 0 0 = nI c) {a b : Int32} : xMet mX11_goodAs [.ref 99, .int a, .int b] n M (fun r M' => M = M' ∧ some (.int (kGoodAs τ δ G a b)) = r) := by
  have hM0 := hM
  obtain ⟨mp0, mp1, mp2, mp3, mp4, mp5, mp6, mp7, mp8, mp9, mp10, mp11, mp12, mp13, mp14⟩ := hM
  have hP5 := rtP hw
  have hW6 := rtW hw
  have hG5 := rtG hw
  have hiX11 : ∀ w ∈ wsX110, w ∈ wsX11_goodAs := by decide +kernel
  refine xMet.of _ (by decide) rfl (Nat.le_of_ble_eq_true rfl) ?_
  refine x_aload_n (q := 1) dX11_goodAs_0 rfl rfl ?_
  refine x_iload_n (q := 2) dX11_goodAs_1 rfl rfl ?_
  refine x_callV (q := 5) (ci := 11) (c_m_isGood hn hM0 (rtG hw) (rtgood hw)) eX11_goodAs_178 gX11_goodAs_X11_isGood mp0 (by omega) rfl rfl rfl (Nat.le_of_ble_eq_true rfl) ⟨Nat.le_refl _, Nat.le_refl _⟩ dX11_goodAs_2 rfl rfl (fun r2 M2 p2 => ?_)
  obtain ⟨rfl, p2⟩ := p2
  rcases p2 with ⟨b2, rfl⟩ | ⟨b2, rfl⟩
  · obtain ⟨a1, ha1, rfl⟩ := vp_in_of (inB_t.mp b2) (by omega)
    refine x_if_ne (t := 11) (q := 8) dX11_goodAs_5 (by decide) rfl (fun c5 => ?_) (fun c5 => absurd c5 (by decide))
    refine x_iload_n (q := 12) dX11_goodAs_11 rfl rfl ?_
    refine x_i2l (q := 13) dX11_goodAs_12 rfl ?_
    refine x_lconst (v := 0) (q := 14) dX11_goodAs_13 rfl (by decide) ?_
    refine x_ldc2 (v := 2) (q := 17) (by decide +kernel) dX11_goodAs_14 rfl ?_
    refine x_callS (q := 20) c_m_in eX11_goodAs_65 gX11_goodAs_X11_in rfl (Nat.le_of_ble_eq_true rfl) ⟨Nat.le_refl _, Nat.le_refl _⟩ dX11_goodAs_17 rfl rfl (fun r17 M17 p17 => ?_)
    obtain ⟨rfl, p17⟩ := p17
    rcases p17 with ⟨b17, rfl⟩ | ⟨b17, rfl⟩
    · refine x_if_ne (t := 26) (q := 23) dX11_goodAs_20 (by decide) rfl (fun c20 => ?_) (fun c20 => absurd c20 (by decide))
      refine x_iload_n (q := 27) dX11_goodAs_26 rfl rfl ?_
      refine x_if_eq (t := 43) (q := 30) dX11_goodAs_27 (by decide) rfl (fun c27 => ?_) (fun c27 => ?_)
      · refine x_aload_n (q := 44) dX11_goodAs_43 rfl rfl ?_
        refine x_iload_n (q := 45) dX11_goodAs_44 rfl rfl ?_
        refine x_aload_n (q := 46) dX11_goodAs_45 rfl rfl ?_
        refine x_getf (C := RX11) (T := TX11) (N := 29) (k := 1) (q := 49) mp0 (by omega) rfl hiX11 (by decide) (by decide +kernel) rfl dX11_goodAs_46 rfl ?_
        refine x_bipush (v := 20) (q := 51) dX11_goodAs_49 rfl (by decide) ?_
        refine x_iald (q := 52) mp2 (by omega) (ixI (show (20 : Int32) = nI 20 from rfl) (by omega) (by decide)) dX11_goodAs_51 rfl ?_
        rw [ixC (show (20 : Int32) = nI 20 from rfl) (by omega)]
        rw [rdcent hd, hc0]
        refine x_iconst (v := 1) (q := 53) dX11_goodAs_52 rfl (by decide) ?_
        refine x_iadd (q := 54) dX11_goodAs_53 rfl ?_
        rw [nI_1]
        refine x_callV (q := 57) (ci := 11) (c_m_worthIn (c := c + 1) hn hM0 hw hk ha1 (by omega)) eX11_goodAs_184 gX11_goodAs_X11_worthIn mp0 (by omega) rfl rfl rfl (Nat.le_of_ble_eq_true rfl) ⟨Nat.le_refl _, Nat.le_refl _⟩ dX11_goodAs_54 rfl rfl (fun r54 M54 p54 => ?_)
        obtain ⟨rfl, rfl⟩ := p54
        refine x_goto (q := 62) dX11_goodAs_57 (by decide) ?_
        refine x_iret dX11_goodAs_62 rfl rfl (Nat.le_refl _) ?_
        refine ⟨rfl, ?_⟩
        rw [kGoodAs_nI ha1 (by omega) ((mIn2 (k := 2) (by decide) rfl).mp b17)]
        first
          | (rw [if_pos (Or.inl c27), hc0, nI_1]; done)
          | (rw [if_pos (Or.inr c40), hc0, nI_1]; done)
          | (rw [if_neg (fun h => h.elim c27 c40)]; done)
      · refine x_iload_n (q := 31) dX11_goodAs_30 rfl rfl ?_
        refine x_aload_n (q := 32) dX11_goodAs_31 rfl rfl ?_
        refine x_getf (C := RX11) (T := TX11) (N := 29) (k := 0) (q := 35) mp0 (by omega) rfl hiX11 (by decide) (by decide +kernel) rfl dX11_goodAs_32 rfl ?_
        refine x_bipush (v := 48) (q := 37) dX11_goodAs_35 rfl (by decide) ?_
        refine x_iload_n (q := 38) dX11_goodAs_37 rfl rfl ?_
        refine x_iadd (q := 39) dX11_goodAs_38 rfl ?_
        refine x_iald (q := 40) mp1 (by omega) (ixI (show ((48 + nI a1) : Int32) = nI (48 + a1) from (nIs rfl rfl)) (by omega) (by decide)) dX11_goodAs_39 rfl ?_
        rw [ixC (show ((48 + nI a1) : Int32) = nI (48 + a1) from (nIs rfl rfl)) (by omega)]
        rw [rtsort hw ha1]
        refine x_icmp_ne (t := 60) (q := 43) dX11_goodAs_40 (by decide) rfl (fun c40 => ?_) (fun c40 => ?_)
        · refine x_bipush (v := -4) (q := 62) dX11_goodAs_60 rfl (by decide) ?_
          refine x_iret dX11_goodAs_62 rfl rfl (Nat.le_refl _) ?_
          refine ⟨rfl, ?_⟩
          rw [kGoodAs_nI ha1 (by omega) ((mIn2 (k := 2) (by decide) rfl).mp b17)]
          first
            | (rw [if_pos (Or.inl c27), hc0, nI_1]; done)
            | (rw [if_pos (Or.inr c40), hc0, nI_1]; done)
            | (rw [if_neg (fun h => h.elim c27 c40)]; done)
        · refine x_aload_n (q := 44) dX11_goodAs_43 rfl rfl ?_
          refine x_iload_n (q := 45) dX11_goodAs_44 rfl rfl ?_
          refine x_aload_n (q := 46) dX11_goodAs_45 rfl rfl ?_
          refine x_getf (C := RX11) (T := TX11) (N := 29) (k := 1) (q := 49) mp0 (by omega) rfl hiX11 (by decide) (by decide +kernel) rfl dX11_goodAs_46 rfl ?_
          refine x_bipush (v := 20) (q := 51) dX11_goodAs_49 rfl (by decide) ?_
          refine x_iald (q := 52) mp2 (by omega) (ixI (show (20 : Int32) = nI 20 from rfl) (by omega) (by decide)) dX11_goodAs_51 rfl ?_
          rw [ixC (show (20 : Int32) = nI 20 from rfl) (by omega)]
          rw [rdcent hd, hc0]
          refine x_iconst (v := 1) (q := 53) dX11_goodAs_52 rfl (by decide) ?_
          refine x_iadd (q := 54) dX11_goodAs_53 rfl ?_
          rw [nI_1]
          refine x_callV (q := 57) (ci := 11) (c_m_worthIn (c := c + 1) hn hM0 hw hk ha1 (by omega)) eX11_goodAs_184 gX11_goodAs_X11_worthIn mp0 (by omega) rfl rfl rfl (Nat.le_of_ble_eq_true rfl) ⟨Nat.le_refl _, Nat.le_refl _⟩ dX11_goodAs_54 rfl rfl (fun r54 M54 p54 => ?_)
          obtain ⟨rfl, rfl⟩ := p54
          refine x_goto (q := 62) dX11_goodAs_57 (by decide) ?_
          refine x_iret dX11_goodAs_62 rfl rfl (Nat.le_refl _) ?_
          refine ⟨rfl, ?_⟩
          rw [kGoodAs_nI ha1 (by omega) ((mIn2 (k := 2) (by decide) rfl).mp b17)]
          first
            | (rw [if_pos (Or.inl c27), hc0, nI_1]; done)
            | (rw [if_pos (Or.inr c40), hc0, nI_1]; done)
            | (rw [if_neg (fun h => h.elim c27 c40)]; done)
    · refine x_if_ne (t := 26) (q := 23) dX11_goodAs_20 (by decide) rfl (fun c20 => absurd c20 (by decide)) (fun c20 => ?_)
      refine x_bipush (v := -3) (q := 25) dX11_goodAs_23 rfl (by decide) ?_
      refine x_iret dX11_goodAs_25 rfl rfl (Nat.le_refl _) ?_
      refine ⟨rfl, ?_⟩
      unfold kGoodAs
      rw [if_pos b2, if_neg (fun h => b17 ((mIn2 (k := 2) (by decide) rfl).mpr h))]
  · refine x_if_ne (t := 11) (q := 8) dX11_goodAs_5 (by decide) rfl (fun c5 => absurd c5 (by decide)) (fun c5 => ?_)
    refine x_bipush (v := -2) (q := 10) dX11_goodAs_8 rfl (by decide) ?_
    refine x_iret dX11_goodAs_10 rfl rfl (Nat.le_refl _) ?_
    refine ⟨rfl, ?_⟩
    unfold kGoodAs
    rw [if_neg b2]

set_option maxHeartbeats 4000000 in
set_option maxRecDepth 100000 in
theorem l_m_holding {n P W G : Nat} {t τ δ : Nat → Nat → Int32} {u : Nat → Nat → Int64} {Q : Option Value → (Nat → xE) → Prop} (hn : 113 < n) (hw : RT τ P W G (t 0)) (hd : ∀ k, k < 22 → t 1 k = dv δ k) : ∀ (k i : Nat) (M : Nat → xE), i + k = W → (oX11 99 t u M) → (Q (some (.int (bset (fun k => decide (0 < δ 9 k)) W))) M) → X mX11_holding 0 0 4 [(2, .int (nI i)), (1, .int (bset (fun k => decide (0 < δ 9 k)) i)), (0, .ref 99)] [] n M (Q) := by
  have hiX11 : ∀ w ∈ wsX110, w ∈ wsX11_holding := by decide +kernel
  intro k
  induction k with
  | zero =>
    intro i M hik hM hQ
    have hM0 := hM
    obtain ⟨mp0, mp1, mp2, mp3, mp4, mp5, mp6, mp7, mp8, mp9, mp10, mp11, mp12, mp13, mp14⟩ := hM
    have hP5 := rtP hw
    have hW6 := rtW hw
    have hG5 := rtG hw
    refine x_iload_n (q := 5) dX11_holding_4 rfl rfl ?_
    refine x_aload_n (q := 6) dX11_holding_5 rfl rfl ?_
    refine x_getf (C := RX11) (T := TX11) (N := 29) (k := 0) (q := 9) mp0 (by omega) rfl hiX11 (by decide) (by decide +kernel) rfl dX11_holding_6 rfl ?_
    refine x_bipush (v := 11) (q := 11) dX11_holding_9 rfl (by decide) ?_
    refine x_iald (q := 12) mp1 (by omega) (ixI (show (11 : Int32) = nI 11 from rfl) (by omega) (by decide)) dX11_holding_11 rfl ?_
    rw [ixC (show (11 : Int32) = nI 11 from rfl) (by omega)]
    rw [rtmany hw]
    refine x_icmp_ge (t := 42) (q := 15) dX11_holding_12 (by decide) rfl (fun c12 => ?_) (fun c12 => absurd (by rw [show i = W by omega]; exact nI_le (Nat.le_refl _) (by omega)) c12)
    refine x_iload_n (q := 43) dX11_holding_42 rfl rfl ?_
    refine x_iret dX11_holding_43 rfl rfl (Nat.le_refl _) ?_
    rw [show i = W by omega]
    exact hQ
  | succ k ih =>
    intro i M hik hM hQ
    have hM0 := hM
    obtain ⟨mp0, mp1, mp2, mp3, mp4, mp5, mp6, mp7, mp8, mp9, mp10, mp11, mp12, mp13, mp14⟩ := hM
    have hP5 := rtP hw
    have hW6 := rtW hw
    have hG5 := rtG hw
    refine x_iload_n (q := 5) dX11_holding_4 rfl rfl ?_
    refine x_aload_n (q := 6) dX11_holding_5 rfl rfl ?_
    refine x_getf (C := RX11) (T := TX11) (N := 29) (k := 0) (q := 9) mp0 (by omega) rfl hiX11 (by decide) (by decide +kernel) rfl dX11_holding_6 rfl ?_
    refine x_bipush (v := 11) (q := 11) dX11_holding_9 rfl (by decide) ?_
    refine x_iald (q := 12) mp1 (by omega) (ixI (show (11 : Int32) = nI 11 from rfl) (by omega) (by decide)) dX11_holding_11 rfl ?_
    rw [ixC (show (11 : Int32) = nI 11 from rfl) (by omega)]
    rw [rtmany hw]
    refine x_icmp_ge (t := 42) (q := 15) dX11_holding_12 (by decide) rfl (fun c12 => absurd c12 (nI_ge (a := i) (b := W) (by omega) (by omega))) (fun c12 => ?_)
    refine x_iload_n (q := 16) dX11_holding_15 rfl rfl ?_
    refine x_aload_n (q := 17) dX11_holding_16 rfl rfl ?_
    refine x_getf (C := RX11) (T := TX11) (N := 29) (k := 1) (q := 20) mp0 (by omega) rfl hiX11 (by decide) (by decide +kernel) rfl dX11_holding_17 rfl ?_
    refine x_iconst (v := 5) (q := 21) dX11_holding_20 rfl (by decide) ?_
    refine x_iload_n (q := 22) dX11_holding_21 rfl rfl ?_
    refine x_iadd (q := 23) dX11_holding_22 rfl ?_
    refine x_iald (q := 24) mp2 (by omega) (ixI (show ((5 + nI i) : Int32) = nI (5 + i) from (nIs rfl rfl)) (by omega) (by decide)) dX11_holding_23 rfl ?_
    rw [ixC (show ((5 + nI i) : Int32) = nI (5 + i) from (nIs rfl rfl)) (by omega)]
    rw [rdholds hd (show i < 6 by omega)]
    refine x_if_le (t := 33) (q := 27) dX11_holding_24 (by decide) rfl (fun c24 => ?_) (fun c24 => ?_)
    · refine x_iconst (v := 0) (q := 34) dX11_holding_33 rfl (by decide) ?_
      refine x_ior (q := 35) dX11_holding_34 rfl ?_
      refine x_istore_n (L' := fun x1_35 => [(1, .int x1_35), (2, .int (nI i)), (0, .ref 99)]) (q := 36) dX11_holding_35 rfl (by decide) (fun _ => rfl) (fun x1_35 ex1_35 => ?_)
      obtain rfl : x1_35 = bset (fun k => decide (0 < δ 9 k)) (i + 1) := ex1_35.trans (by first | rw [bset_t (p := fun k => decide (0 < δ 9 k)) (decide_eq_true (xlt_nle.mp c24))] | rw [bset_f (p := fun k => decide (0 < δ 9 k)) (decide_eq_false (fun h => xlt_nle.mpr h c24)), Int32.or_zero])
      refine x_iinc (L' := fun x2_36 => [(2, .int x2_36), (1, .int (bset (fun k => decide (0 < δ 9 k)) (i + 1))), (0, .ref 99)]) (q := 39) dX11_holding_36 rfl rfl (by decide) (fun _ => rfl) (fun x2_36 ex2_36 => ?_)
      obtain rfl : x2_36 = nI (i + 1) := ex2_36.trans (nI_1 i)
      refine x_goto (q := 4) dX11_holding_39 (by decide) ?_
      refine x_pick (L' := [(2, .int (nI (i + 1))), (1, .int (bset (fun k => decide (0 < δ 9 k)) (i + 1))), (0, .ref 99)]) [0, 1, 2] rfl ?_
      exact ih (i + 1) M (by omega) hM0 hQ
    · refine x_iconst (v := 1) (q := 28) dX11_holding_27 rfl (by decide) ?_
      refine x_iload_n (q := 29) dX11_holding_28 rfl rfl ?_
      refine x_ishl (q := 30) dX11_holding_29 rfl ?_
      refine x_goto (q := 34) dX11_holding_30 (by decide) ?_
      refine x_ior (q := 35) dX11_holding_34 rfl ?_
      refine x_istore_n (L' := fun x1_35 => [(1, .int x1_35), (2, .int (nI i)), (0, .ref 99)]) (q := 36) dX11_holding_35 rfl (by decide) (fun _ => rfl) (fun x1_35 ex1_35 => ?_)
      obtain rfl : x1_35 = bset (fun k => decide (0 < δ 9 k)) (i + 1) := ex1_35.trans (by first | rw [bset_t (p := fun k => decide (0 < δ 9 k)) (decide_eq_true (xlt_nle.mp c24))] | rw [bset_f (p := fun k => decide (0 < δ 9 k)) (decide_eq_false (fun h => xlt_nle.mpr h c24)), Int32.or_zero])
      refine x_iinc (L' := fun x2_36 => [(2, .int x2_36), (1, .int (bset (fun k => decide (0 < δ 9 k)) (i + 1))), (0, .ref 99)]) (q := 39) dX11_holding_36 rfl rfl (by decide) (fun _ => rfl) (fun x2_36 ex2_36 => ?_)
      obtain rfl : x2_36 = nI (i + 1) := ex2_36.trans (nI_1 i)
      refine x_goto (q := 4) dX11_holding_39 (by decide) ?_
      refine x_pick (L' := [(2, .int (nI (i + 1))), (1, .int (bset (fun k => decide (0 < δ 9 k)) (i + 1))), (0, .ref 99)]) [0, 1, 2] rfl ?_
      exact ih (i + 1) M (by omega) hM0 hQ

set_option maxHeartbeats 4000000 in
set_option maxRecDepth 100000 in
theorem c_m_holding {n : Nat} {M : Nat → xE} {t : Nat → Nat → Int32} {u : Nat → Nat → Int64} (hn : 113 < n) (hM : oX11 99 t u M) {τ : Nat → Nat → Int32} {P W G : Nat} (hw : RT τ P W G (t 0)) {δ : Nat → Nat → Int32} (hd : ∀ k, k < 22 → t 1 k = dv δ k) : xMet mX11_holding [.ref 99] n M (fun r M' => M = M' ∧ some (.int (bset (fun k => decide (0 < δ 9 k)) W)) = r) := by
  have hM0 := hM
  obtain ⟨mp0, mp1, mp2, mp3, mp4, mp5, mp6, mp7, mp8, mp9, mp10, mp11, mp12, mp13, mp14⟩ := hM
  have hP5 := rtP hw
  have hW6 := rtW hw
  have hG5 := rtG hw
  refine xMet.of _ (by decide) rfl (Nat.le_of_ble_eq_true rfl) ?_
  refine x_iconst (v := 0) (q := 1) dX11_holding_0 rfl (by decide) ?_
  refine x_istore_n (L' := fun x1_1 => [(1, .int x1_1), (0, .ref 99)]) (q := 2) dX11_holding_1 rfl (by decide) (fun _ => rfl) (fun x1_1 ex1_1 => ?_)
  refine x_iconst (v := 0) (q := 3) dX11_holding_2 rfl (by decide) ?_
  refine x_istore_n (L' := fun x2_3 => [(2, .int x2_3), (1, .int x1_1), (0, .ref 99)]) (q := 4) dX11_holding_3 rfl (by decide) (fun _ => rfl) (fun x2_3 ex2_3 => ?_)
  subst ex1_1
  subst ex2_3
  exact l_m_holding hn hw hd W 0 M (by omega) hM0 ⟨rfl, rfl⟩

def mrN (s : Nat → Int32) : Nat → Nat
  | 0 => 0
  | k + 1 => mrN s k + (if nI k < s k then 1 else 0)
theorem mrN_s {s : Nat → Int32} {k : Nat} : nI (mrN s (k + 1)) = nI (mrN s k) + (if nI k < s k then 1 else 0) := by
  rw [mrN]
  by_cases h : nI k < s k
  · rw [if_pos h, if_pos h, nI_1]
  · rw [if_neg h, if_neg h, Int32.add_zero, Nat.add_zero]
set_option maxHeartbeats 4000000 in
set_option maxRecDepth 100000 in
theorem l_m_marriages {n P W G : Nat} {t τ δ : Nat → Nat → Int32} {u : Nat → Nat → Int64} {Q : Option Value → (Nat → xE) → Prop} (hn : 113 < n) (hw : RT τ P W G (t 0)) (hd : ∀ k, k < 22 → t 1 k = dv δ k) : ∀ (k i : Nat) (M : Nat → xE), i + k = P → (oX11 99 t u M) → (Q (some (.int (nI (mrN (δ 8) P)))) M) → X mX11_marriages 0 0 4 [(2, .int (nI i)), (1, .int (nI (mrN (δ 8) i))), (0, .ref 99)] [] n M (Q) := by
  have hiX11 : ∀ w ∈ wsX110, w ∈ wsX11_marriages := by decide +kernel
  intro k
  induction k with
  | zero =>
    intro i M hik hM hQ
    have hM0 := hM
    obtain ⟨mp0, mp1, mp2, mp3, mp4, mp5, mp6, mp7, mp8, mp9, mp10, mp11, mp12, mp13, mp14⟩ := hM
    have hP5 := rtP hw
    have hW6 := rtW hw
    have hG5 := rtG hw
    refine x_iload_n (q := 5) dX11_marriages_4 rfl rfl ?_
    refine x_aload_n (q := 6) dX11_marriages_5 rfl rfl ?_
    refine x_getf (C := RX11) (T := TX11) (N := 29) (k := 0) (q := 9) mp0 (by omega) rfl hiX11 (by decide) (by decide +kernel) rfl dX11_marriages_6 rfl ?_
    refine x_iconst (v := 0) (q := 10) dX11_marriages_9 rfl (by decide) ?_
    refine x_iald (q := 11) mp1 (by omega) (ixI (show (0 : Int32) = nI 0 from rfl) (by omega) (by decide)) dX11_marriages_10 rfl ?_
    rw [ixC (show (0 : Int32) = nI 0 from rfl) (by omega)]
    rw [rtn hw]
    refine x_icmp_ge (t := 41) (q := 14) dX11_marriages_11 (by decide) rfl (fun c11 => ?_) (fun c11 => absurd (by rw [show i = P by omega]; exact nI_le (Nat.le_refl _) (by omega)) c11)
    refine x_iload_n (q := 42) dX11_marriages_41 rfl rfl ?_
    refine x_iret dX11_marriages_42 rfl rfl (Nat.le_refl _) ?_
    rw [show i = P by omega]
    exact hQ
  | succ k ih =>
    intro i M hik hM hQ
    have hM0 := hM
    obtain ⟨mp0, mp1, mp2, mp3, mp4, mp5, mp6, mp7, mp8, mp9, mp10, mp11, mp12, mp13, mp14⟩ := hM
    have hP5 := rtP hw
    have hW6 := rtW hw
    have hG5 := rtG hw
    refine x_iload_n (q := 5) dX11_marriages_4 rfl rfl ?_
    refine x_aload_n (q := 6) dX11_marriages_5 rfl rfl ?_
    refine x_getf (C := RX11) (T := TX11) (N := 29) (k := 0) (q := 9) mp0 (by omega) rfl hiX11 (by decide) (by decide +kernel) rfl dX11_marriages_6 rfl ?_
    refine x_iconst (v := 0) (q := 10) dX11_marriages_9 rfl (by decide) ?_
    refine x_iald (q := 11) mp1 (by omega) (ixI (show (0 : Int32) = nI 0 from rfl) (by omega) (by decide)) dX11_marriages_10 rfl ?_
    rw [ixC (show (0 : Int32) = nI 0 from rfl) (by omega)]
    rw [rtn hw]
    refine x_icmp_ge (t := 41) (q := 14) dX11_marriages_11 (by decide) rfl (fun c11 => absurd c11 (nI_ge (a := i) (b := P) (by omega) (by omega))) (fun c11 => ?_)
    refine x_iload_n (q := 15) dX11_marriages_14 rfl rfl ?_
    refine x_aload_n (q := 16) dX11_marriages_15 rfl rfl ?_
    refine x_getf (C := RX11) (T := TX11) (N := 29) (k := 1) (q := 19) mp0 (by omega) rfl hiX11 (by decide) (by decide +kernel) rfl dX11_marriages_16 rfl ?_
    refine x_bipush (v := 11) (q := 21) dX11_marriages_19 rfl (by decide) ?_
    refine x_iload_n (q := 22) dX11_marriages_21 rfl rfl ?_
    refine x_iadd (q := 23) dX11_marriages_22 rfl ?_
    refine x_iald (q := 24) mp2 (by omega) (ixI (show ((11 + nI i) : Int32) = nI (11 + i) from (nIs rfl rfl)) (by omega) (by decide)) dX11_marriages_23 rfl ?_
    rw [ixC (show ((11 + nI i) : Int32) = nI (11 + i) from (nIs rfl rfl)) (by omega)]
    rw [rdspouse hd (show i < 5 by omega)]
    refine x_iload_n (q := 25) dX11_marriages_24 rfl rfl ?_
    refine x_icmp_le (t := 32) (q := 28) dX11_marriages_25 (by decide) rfl (fun c25 => ?_) (fun c25 => ?_)
    · refine x_iconst (v := 0) (q := 33) dX11_marriages_32 rfl (by decide) ?_
      refine x_iadd (q := 34) dX11_marriages_33 rfl ?_
      refine x_istore_n (L' := fun x1_34 => [(1, .int x1_34), (2, .int (nI i)), (0, .ref 99)]) (q := 35) dX11_marriages_34 rfl (by decide) (fun _ => rfl) (fun x1_34 ex1_34 => ?_)
      obtain rfl : x1_34 = nI (mrN (δ 8) (i + 1)) := ex1_34.trans (by rw [mrN_s]; first | rw [if_pos (xlt_nle.mp c25)] | rw [if_neg (fun h => xlt_nle.mpr h c25)])
      refine x_iinc (L' := fun x2_35 => [(2, .int x2_35), (1, .int (nI (mrN (δ 8) (i + 1)))), (0, .ref 99)]) (q := 38) dX11_marriages_35 rfl rfl (by decide) (fun _ => rfl) (fun x2_35 ex2_35 => ?_)
      obtain rfl : x2_35 = nI (i + 1) := ex2_35.trans (nI_1 i)
      refine x_goto (q := 4) dX11_marriages_38 (by decide) ?_
      refine x_pick (L' := [(2, .int (nI (i + 1))), (1, .int (nI (mrN (δ 8) (i + 1)))), (0, .ref 99)]) [0, 1, 2] rfl ?_
      exact ih (i + 1) M (by omega) hM0 hQ
    · refine x_iconst (v := 1) (q := 29) dX11_marriages_28 rfl (by decide) ?_
      refine x_goto (q := 33) dX11_marriages_29 (by decide) ?_
      refine x_iadd (q := 34) dX11_marriages_33 rfl ?_
      refine x_istore_n (L' := fun x1_34 => [(1, .int x1_34), (2, .int (nI i)), (0, .ref 99)]) (q := 35) dX11_marriages_34 rfl (by decide) (fun _ => rfl) (fun x1_34 ex1_34 => ?_)
      obtain rfl : x1_34 = nI (mrN (δ 8) (i + 1)) := ex1_34.trans (by rw [mrN_s]; first | rw [if_pos (xlt_nle.mp c25)] | rw [if_neg (fun h => xlt_nle.mpr h c25)])
      refine x_iinc (L' := fun x2_35 => [(2, .int x2_35), (1, .int (nI (mrN (δ 8) (i + 1)))), (0, .ref 99)]) (q := 38) dX11_marriages_35 rfl rfl (by decide) (fun _ => rfl) (fun x2_35 ex2_35 => ?_)
      obtain rfl : x2_35 = nI (i + 1) := ex2_35.trans (nI_1 i)
      refine x_goto (q := 4) dX11_marriages_38 (by decide) ?_
      refine x_pick (L' := [(2, .int (nI (i + 1))), (1, .int (nI (mrN (δ 8) (i + 1)))), (0, .ref 99)]) [0, 1, 2] rfl ?_
      exact ih (i + 1) M (by omega) hM0 hQ

set_option maxHeartbeats 4000000 in
set_option maxRecDepth 100000 in
theorem c_m_marriages {n : Nat} {M : Nat → xE} {t : Nat → Nat → Int32} {u : Nat → Nat → Int64} (hn : 113 < n) (hM : oX11 99 t u M) {τ : Nat → Nat → Int32} {P W G : Nat} (hw : RT τ P W G (t 0)) {δ : Nat → Nat → Int32} (hd : ∀ k, k < 22 → t 1 k = dv δ k) : xMet mX11_marriages [.ref 99] n M (fun r M' => M = M' ∧ some (.int (nI (mrN (δ 8) P))) = r) := by
  have hM0 := hM
  obtain ⟨mp0, mp1, mp2, mp3, mp4, mp5, mp6, mp7, mp8, mp9, mp10, mp11, mp12, mp13, mp14⟩ := hM
  have hP5 := rtP hw
  have hW6 := rtW hw
  have hG5 := rtG hw
  refine xMet.of _ (by decide) rfl (Nat.le_of_ble_eq_true rfl) ?_
  refine x_iconst (v := 0) (q := 1) dX11_marriages_0 rfl (by decide) ?_
  refine x_istore_n (L' := fun x1_1 => [(1, .int x1_1), (0, .ref 99)]) (q := 2) dX11_marriages_1 rfl (by decide) (fun _ => rfl) (fun x1_1 ex1_1 => ?_)
  refine x_iconst (v := 0) (q := 3) dX11_marriages_2 rfl (by decide) ?_
  refine x_istore_n (L' := fun x2_3 => [(2, .int x2_3), (1, .int x1_1), (0, .ref 99)]) (q := 4) dX11_marriages_3 rfl (by decide) (fun _ => rfl) (fun x2_3 ex2_3 => ?_)
  subst ex1_1
  subst ex2_3
  exact l_m_marriages hn hw hd P 0 M (by omega) hM0 ⟨rfl, rfl⟩

set_option maxHeartbeats 4000000 in
set_option maxRecDepth 100000 in
theorem c_m_like {n : Nat} {M : Nat → xE} {t : Nat → Nat → Int32} {u : Nat → Nat → Int64} (hn : 113 < n) (hM : oX11 99 t u M) {τ : Nat → Nat → Int32} {P W G : Nat} (hw : RT τ P W G (t 0)) {p q : Nat} (hp : p < P) (hq : q < P) : xMet mX11_like [.ref 99, .int (nI p), .int (nI q)] n M (fun r M' => M = M' ∧ xB (tLikeB τ (nI p) (nI q) = true) r) := by
  have hM0 := hM
  obtain ⟨mp0, mp1, mp2, mp3, mp4, mp5, mp6, mp7, mp8, mp9, mp10, mp11, mp12, mp13, mp14⟩ := hM
  have hP5 := rtP hw
  have hW6 := rtW hw
  have hG5 := rtG hw
  have hiX11 : ∀ w ∈ wsX110, w ∈ wsX11_like := by decide +kernel
  refine xMet.of _ (by decide) rfl (Nat.le_of_ble_eq_true rfl) ?_
  refine x_aload_n (q := 1) dX11_like_0 rfl rfl ?_
  refine x_getf (C := RX11) (T := TX11) (N := 29) (k := 0) (q := 4) mp0 (by omega) rfl hiX11 (by decide) (by decide +kernel) rfl dX11_like_1 rfl ?_
  refine x_bipush (v := 6) (q := 6) dX11_like_4 rfl (by decide) ?_
  refine x_iload_n (q := 7) dX11_like_6 rfl rfl ?_
  refine x_iadd (q := 8) dX11_like_7 rfl ?_
  refine x_iald (q := 9) mp1 (by omega) (ixI (show ((6 + nI p) : Int32) = nI (6 + p) from (nIs rfl rfl)) (by omega) (by decide)) dX11_like_8 rfl ?_
  rw [ixC (show ((6 + nI p) : Int32) = nI (6 + p) from (nIs rfl rfl)) (by omega)]
  rw [rtlike hw hp]
  refine x_iload_n (q := 10) dX11_like_9 rfl rfl ?_
  refine x_callS (q := 13) c_m_has eX11_like_164 gX11_like_X11_has rfl (Nat.le_of_ble_eq_true rfl) ⟨Nat.le_refl _, Nat.le_refl _⟩ dX11_like_10 rfl rfl (fun r10 M10 p10 => ?_)
  obtain ⟨rfl, p10⟩ := p10
  rcases p10 with ⟨b10, rfl⟩ | ⟨b10, rfl⟩
  · refine x_if_eq (t := 36) (q := 16) dX11_like_13 (by decide) rfl (fun c13 => absurd c13 (by decide)) (fun c13 => ?_)
    refine x_aload_n (q := 17) dX11_like_16 rfl rfl ?_
    refine x_getf (C := RX11) (T := TX11) (N := 29) (k := 0) (q := 20) mp0 (by omega) rfl hiX11 (by decide) (by decide +kernel) rfl dX11_like_17 rfl ?_
    refine x_bipush (v := 6) (q := 22) dX11_like_20 rfl (by decide) ?_
    refine x_iload_n (q := 23) dX11_like_22 rfl rfl ?_
    refine x_iadd (q := 24) dX11_like_23 rfl ?_
    refine x_iald (q := 25) mp1 (by omega) (ixI (show ((6 + nI q) : Int32) = nI (6 + q) from (nIs rfl rfl)) (by omega) (by decide)) dX11_like_24 rfl ?_
    rw [ixC (show ((6 + nI q) : Int32) = nI (6 + q) from (nIs rfl rfl)) (by omega)]
    rw [rtlike hw hq]
    refine x_iload_n (q := 26) dX11_like_25 rfl rfl ?_
    refine x_callS (q := 29) c_m_has eX11_like_164 gX11_like_X11_has rfl (Nat.le_of_ble_eq_true rfl) ⟨Nat.le_refl _, Nat.le_refl _⟩ dX11_like_26 rfl rfl (fun r26 M26 p26 => ?_)
    obtain ⟨rfl, p26⟩ := p26
    rcases p26 with ⟨b26, rfl⟩ | ⟨b26, rfl⟩
    · refine x_if_eq (t := 36) (q := 32) dX11_like_29 (by decide) rfl (fun c29 => absurd c29 (by decide)) (fun c29 => ?_)
      refine x_iconst (v := 1) (q := 33) dX11_like_32 rfl (by decide) ?_
      refine x_goto (q := 37) dX11_like_33 (by decide) ?_
      refine x_zret dX11_like_37 rfl rfl rfl (Nat.le_refl _) ?_
      refine ⟨rfl, ?_⟩
      unfold tLikeB
      rw [nI_clamp (show p < 2 ^ 31 by omega), nI_clamp (show q < 2 ^ 31 by omega), Bool.and_eq_true, decide_eq_true_iff, decide_eq_true_iff]
      first
        | exact Or.inl ⟨⟨b10, b26⟩, rfl⟩
        | exact Or.inr ⟨fun h => b10 h.1, rfl⟩
        | exact Or.inr ⟨fun h => b26 h.2, rfl⟩
    · refine x_if_eq (t := 36) (q := 32) dX11_like_29 (by decide) rfl (fun c29 => ?_) (fun c29 => absurd c29 (by decide))
      refine x_iconst (v := 0) (q := 37) dX11_like_36 rfl (by decide) ?_
      refine x_zret dX11_like_37 rfl rfl rfl (Nat.le_refl _) ?_
      refine ⟨rfl, ?_⟩
      unfold tLikeB
      rw [nI_clamp (show p < 2 ^ 31 by omega), nI_clamp (show q < 2 ^ 31 by omega), Bool.and_eq_true, decide_eq_true_iff, decide_eq_true_iff]
      first
        | exact Or.inl ⟨⟨b10, b26⟩, rfl⟩
        | exact Or.inr ⟨fun h => b10 h.1, rfl⟩
        | exact Or.inr ⟨fun h => b26 h.2, rfl⟩
  · refine x_if_eq (t := 36) (q := 16) dX11_like_13 (by decide) rfl (fun c13 => ?_) (fun c13 => absurd c13 (by decide))
    refine x_iconst (v := 0) (q := 37) dX11_like_36 rfl (by decide) ?_
    refine x_zret dX11_like_37 rfl rfl rfl (Nat.le_refl _) ?_
    refine ⟨rfl, ?_⟩
    unfold tLikeB
    rw [nI_clamp (show p < 2 ^ 31 by omega), nI_clamp (show q < 2 ^ 31 by omega), Bool.and_eq_true, decide_eq_true_iff, decide_eq_true_iff]
    first
      | exact Or.inl ⟨⟨b10, b26⟩, rfl⟩
      | exact Or.inr ⟨fun h => b10 h.1, rfl⟩
      | exact Or.inr ⟨fun h => b26 h.2, rfl⟩

theorem eM_iff {τ δ : Nat → Nat → Int32} {p q : Nat} (hp : p < 5) (hq : q < 5) : eM τ δ p q = true ↔ (tLikeB τ (nI p) (nI q) = true ∧ δ 8 p = -1 ∧ δ 8 q = -1) := by
  unfold eM tLikeB
  rw [nI_clamp (show p < 2 ^ 31 by omega), nI_clamp (show q < 2 ^ 31 by omega)]
  simp only [Bool.and_eq_true, decide_eq_true_iff]
  exact ⟨fun ⟨a, b, c, d⟩ => ⟨⟨a, b⟩, c, d⟩, fun ⟨⟨a, b⟩, c, d⟩ => ⟨a, b, c, d⟩⟩
set_option maxHeartbeats 4000000 in
set_option maxRecDepth 100000 in
theorem c_m_mayMarry {n : Nat} {M : Nat → xE} {t : Nat → Nat → Int32} {u : Nat → Nat → Int64} (hn : 113 < n) (hM : oX11 99 t u M) {τ : Nat → Nat → Int32} {P W G : Nat} (hw : RT τ P W G (t 0)) {δ : Nat → Nat → Int32} (hd : ∀ k, k < 22 → t 1 k = dv δ k) {p q : Nat} (hp : p < P) (hq : q < P) : xMet mX11_mayMarry [.ref 99, .int (nI p), .int (nI q)] n M (fun r M' => M = M' ∧ xB (eM τ δ p q = true) r) := by
  have hM0 := hM
  obtain ⟨mp0, mp1, mp2, mp3, mp4, mp5, mp6, mp7, mp8, mp9, mp10, mp11, mp12, mp13, mp14⟩ := hM
  have hP5 := rtP hw
  have hW6 := rtW hw
  have hG5 := rtG hw
  have hiX11 : ∀ w ∈ wsX110, w ∈ wsX11_mayMarry := by decide +kernel
  refine xMet.of _ (by decide) rfl (Nat.le_of_ble_eq_true rfl) ?_
  refine x_aload_n (q := 1) dX11_mayMarry_0 rfl rfl ?_
  refine x_iload_n (q := 2) dX11_mayMarry_1 rfl rfl ?_
  refine x_iload_n (q := 3) dX11_mayMarry_2 rfl rfl ?_
  refine x_callV (q := 6) (ci := 11) (c_m_like hn hM0 hw hp hq) eX11_mayMarry_205 gX11_mayMarry_X11_like mp0 (by omega) rfl rfl rfl (Nat.le_of_ble_eq_true rfl) ⟨Nat.le_refl _, Nat.le_refl _⟩ dX11_mayMarry_3 rfl rfl (fun r3 M3 p3 => ?_)
  obtain ⟨rfl, p3⟩ := p3
  rcases p3 with ⟨b3, rfl⟩ | ⟨b3, rfl⟩
  · refine x_if_eq (t := 39) (q := 9) dX11_mayMarry_6 (by decide) rfl (fun c6 => absurd c6 (by decide)) (fun c6 => ?_)
    refine x_aload_n (q := 10) dX11_mayMarry_9 rfl rfl ?_
    refine x_getf (C := RX11) (T := TX11) (N := 29) (k := 1) (q := 13) mp0 (by omega) rfl hiX11 (by decide) (by decide +kernel) rfl dX11_mayMarry_10 rfl ?_
    refine x_bipush (v := 11) (q := 15) dX11_mayMarry_13 rfl (by decide) ?_
    refine x_iload_n (q := 16) dX11_mayMarry_15 rfl rfl ?_
    refine x_iadd (q := 17) dX11_mayMarry_16 rfl ?_
    refine x_iald (q := 18) mp2 (by omega) (ixI (show ((11 + nI p) : Int32) = nI (11 + p) from (nIs rfl rfl)) (by omega) (by decide)) dX11_mayMarry_17 rfl ?_
    rw [ixC (show ((11 + nI p) : Int32) = nI (11 + p) from (nIs rfl rfl)) (by omega)]
    rw [rdspouse hd (show p < 5 by omega)]
    refine x_iconst (v := -1) (q := 19) dX11_mayMarry_18 rfl (by decide) ?_
    refine x_icmp_ne (t := 39) (q := 22) dX11_mayMarry_19 (by decide) rfl (fun c19 => ?_) (fun c19 => ?_)
    · refine x_iconst (v := 0) (q := 40) dX11_mayMarry_39 rfl (by decide) ?_
      refine x_zret dX11_mayMarry_40 rfl rfl rfl (Nat.le_refl _) ?_
      refine ⟨rfl, ?_⟩
      rw [eM_iff (by omega) (by omega)]
      first
        | exact Or.inl ⟨⟨b3, c19, c32⟩, rfl⟩
        | exact Or.inr ⟨fun h => b3 h.1, rfl⟩
        | exact Or.inr ⟨fun h => c19 h.2.1, rfl⟩
        | exact Or.inr ⟨fun h => c32 h.2.2, rfl⟩
    · refine x_aload_n (q := 23) dX11_mayMarry_22 rfl rfl ?_
      refine x_getf (C := RX11) (T := TX11) (N := 29) (k := 1) (q := 26) mp0 (by omega) rfl hiX11 (by decide) (by decide +kernel) rfl dX11_mayMarry_23 rfl ?_
      refine x_bipush (v := 11) (q := 28) dX11_mayMarry_26 rfl (by decide) ?_
      refine x_iload_n (q := 29) dX11_mayMarry_28 rfl rfl ?_
      refine x_iadd (q := 30) dX11_mayMarry_29 rfl ?_
      refine x_iald (q := 31) mp2 (by omega) (ixI (show ((11 + nI q) : Int32) = nI (11 + q) from (nIs rfl rfl)) (by omega) (by decide)) dX11_mayMarry_30 rfl ?_
      rw [ixC (show ((11 + nI q) : Int32) = nI (11 + q) from (nIs rfl rfl)) (by omega)]
      rw [rdspouse hd (show q < 5 by omega)]
      refine x_iconst (v := -1) (q := 32) dX11_mayMarry_31 rfl (by decide) ?_
      refine x_icmp_ne (t := 39) (q := 35) dX11_mayMarry_32 (by decide) rfl (fun c32 => ?_) (fun c32 => ?_)
      · refine x_iconst (v := 0) (q := 40) dX11_mayMarry_39 rfl (by decide) ?_
        refine x_zret dX11_mayMarry_40 rfl rfl rfl (Nat.le_refl _) ?_
        refine ⟨rfl, ?_⟩
        rw [eM_iff (by omega) (by omega)]
        first
          | exact Or.inl ⟨⟨b3, c19, c32⟩, rfl⟩
          | exact Or.inr ⟨fun h => b3 h.1, rfl⟩
          | exact Or.inr ⟨fun h => c19 h.2.1, rfl⟩
          | exact Or.inr ⟨fun h => c32 h.2.2, rfl⟩
      · refine x_iconst (v := 1) (q := 36) dX11_mayMarry_35 rfl (by decide) ?_
        refine x_goto (q := 40) dX11_mayMarry_36 (by decide) ?_
        refine x_zret dX11_mayMarry_40 rfl rfl rfl (Nat.le_refl _) ?_
        refine ⟨rfl, ?_⟩
        rw [eM_iff (by omega) (by omega)]
        first
          | exact Or.inl ⟨⟨b3, c19, c32⟩, rfl⟩
          | exact Or.inr ⟨fun h => b3 h.1, rfl⟩
          | exact Or.inr ⟨fun h => c19 h.2.1, rfl⟩
          | exact Or.inr ⟨fun h => c32 h.2.2, rfl⟩
  · refine x_if_eq (t := 39) (q := 9) dX11_mayMarry_6 (by decide) rfl (fun c6 => ?_) (fun c6 => absurd c6 (by decide))
    refine x_iconst (v := 0) (q := 40) dX11_mayMarry_39 rfl (by decide) ?_
    refine x_zret dX11_mayMarry_40 rfl rfl rfl (Nat.le_refl _) ?_
    refine ⟨rfl, ?_⟩
    rw [eM_iff (by omega) (by omega)]
    first
      | exact Or.inl ⟨⟨b3, c19, c32⟩, rfl⟩
      | exact Or.inr ⟨fun h => b3 h.1, rfl⟩
      | exact Or.inr ⟨fun h => c19 h.2.1, rfl⟩
      | exact Or.inr ⟨fun h => c32 h.2.2, rfl⟩

set_option maxHeartbeats 4000000 in
set_option maxRecDepth 100000 in
theorem c_m_count {n : Nat} {M : Nat → xE} {t : Nat → Nat → Int32} {u : Nat → Nat → Int64} (hn : 113 < n) (hM : oX11 99 t u M) {τ : Nat → Nat → Int32} {P W G : Nat} (hw : RT τ P W G (t 0)) {δ : Nat → Nat → Int32} (hd : ∀ k, k < 22 → t 1 k = dv δ k) (hk : TOK τ P W G) {B0 B1 B2 sz xs : Nat} (h9 : t 22 0 = nI B0) (h10 : t 27 0 = nI B1) (h11 : t 18 0 = nI B2) (h12 : t 2 0 = nI sz) (h13 : t 5 0 = nI xs) (hm : δ 3 0 = nI (mrN (δ 8) P)) {b : Int32} : xMet mX11_count [.ref 99, .int b] n M (fun r M' => M = M' ∧ some (.int (kCount τ δ W B0 B1 B2 sz xs b)) = r) := by
  have hM0 := hM
  obtain ⟨mp0, mp1, mp2, mp3, mp4, mp5, mp6, mp7, mp8, mp9, mp10, mp11, mp12, mp13, mp14⟩ := hM
  have hP5 := rtP hw
  have hW6 := rtW hw
  have hG5 := rtG hw
  have hiX11 : ∀ w ∈ wsX110, w ∈ wsX11_count := by decide +kernel
  refine xMet.of _ (by decide) rfl (Nat.le_of_ble_eq_true rfl) ?_
  refine x_iload_n (q := 1) dX11_count_0 rfl rfl ?_
  by_cases hs1 : vp_in b 14
  · obtain ⟨k1, hk1, ek1⟩ := vp_in_of hs1 (by decide)
    rcases (show k1 = 0 ∨ k1 = 1 ∨ k1 = 2 ∨ k1 = 3 ∨ k1 = 4 ∨ k1 = 5 ∨ k1 = 6 ∨ k1 = 7 ∨ k1 = 8 ∨ k1 = 9 ∨ k1 = 10 ∨ k1 = 11 ∨ k1 = 12 ∨ k1 = 13 by omega) with ej | ej | ej | ej | ej | ej | ej | ej | ej | ej | ej | ej | ej | ej
    · rw [ej] at ek1
      refine x_tableIn (t := 72) (off := 71) dX11_count_1 (by rw [ek1]; decide) (by rw [ek1]; decide) (by rw [ek1]; decide +kernel) (by decide) ?_
      refine x_aload_n (q := 73) dX11_count_72 rfl rfl ?_
      refine x_getf (C := RX11) (T := TX11) (N := 29) (k := 0) (q := 76) mp0 (by omega) rfl hiX11 (by decide) (by decide +kernel) rfl dX11_count_73 rfl ?_
      refine x_iconst (v := 0) (q := 77) dX11_count_76 rfl (by decide) ?_
      refine x_iald (q := 78) mp1 (by omega) (ixI (show (0 : Int32) = nI 0 from rfl) (by omega) (by decide)) dX11_count_77 rfl ?_
      rw [ixC (show (0 : Int32) = nI 0 from rfl) (by omega)]
      rw [rtn hw, ← hk.1.1]
      refine x_iret dX11_count_78 rfl rfl (Nat.le_refl _) ?_
      refine ⟨rfl, ?_⟩
      unfold kCount
      rw [ek1]
      rfl
    · rw [ej] at ek1
      refine x_tableIn (t := 79) (off := 78) dX11_count_1 (by rw [ek1]; decide) (by rw [ek1]; decide) (by rw [ek1]; decide +kernel) (by decide) ?_
      refine x_aload_n (q := 80) dX11_count_79 rfl rfl ?_
      refine x_getf (C := RX11) (T := TX11) (N := 29) (k := 0) (q := 83) mp0 (by omega) rfl hiX11 (by decide) (by decide +kernel) rfl dX11_count_80 rfl ?_
      refine x_bipush (v := 11) (q := 85) dX11_count_83 rfl (by decide) ?_
      refine x_iald (q := 86) mp1 (by omega) (ixI (show (11 : Int32) = nI 11 from rfl) (by omega) (by decide)) dX11_count_85 rfl ?_
      rw [ixC (show (11 : Int32) = nI 11 from rfl) (by omega)]
      rw [rtmany hw, ← hk.1.2.1]
      refine x_iret dX11_count_86 rfl rfl (Nat.le_refl _) ?_
      refine ⟨rfl, ?_⟩
      unfold kCount
      rw [ek1]
      rfl
    · rw [ej] at ek1
      refine x_tableIn (t := 87) (off := 86) dX11_count_1 (by rw [ek1]; decide) (by rw [ek1]; decide) (by rw [ek1]; decide +kernel) (by decide) ?_
      refine x_aload_n (q := 88) dX11_count_87 rfl rfl ?_
      refine x_getf (C := RX11) (T := TX11) (N := 29) (k := 0) (q := 91) mp0 (by omega) rfl hiX11 (by decide) (by decide +kernel) rfl dX11_count_88 rfl ?_
      refine x_bipush (v := 37) (q := 93) dX11_count_91 rfl (by decide) ?_
      refine x_iald (q := 94) mp1 (by omega) (ixI (show (37 : Int32) = nI 37 from rfl) (by omega) (by decide)) dX11_count_93 rfl ?_
      rw [ixC (show (37 : Int32) = nI 37 from rfl) (by omega)]
      rw [rtgood hw, ← hk.1.2.2.1]
      refine x_iret dX11_count_94 rfl rfl (Nat.le_refl _) ?_
      refine ⟨rfl, ?_⟩
      unfold kCount
      rw [ek1]
      rfl
    · rw [ej] at ek1
      refine x_tableIn (t := 95) (off := 94) dX11_count_1 (by rw [ek1]; decide) (by rw [ek1]; decide) (by rw [ek1]; decide +kernel) (by decide) ?_
      refine x_aload_n (q := 96) dX11_count_95 rfl rfl ?_
      refine x_getf (C := RX11) (T := TX11) (N := 29) (k := 0) (q := 99) mp0 (by omega) rfl hiX11 (by decide) (by decide +kernel) rfl dX11_count_96 rfl ?_
      refine x_bipush (v := 36) (q := 101) dX11_count_99 rfl (by decide) ?_
      refine x_iald (q := 102) mp1 (by omega) (ixI (show (36 : Int32) = nI 36 from rfl) (by omega) (by decide)) dX11_count_101 rfl ?_
      rw [ixC (show (36 : Int32) = nI 36 from rfl) (by omega)]
      rw [rtlen hw]
      refine x_iret dX11_count_102 rfl rfl (Nat.le_refl _) ?_
      refine ⟨rfl, ?_⟩
      unfold kCount
      rw [ek1]
      rfl
    · rw [ej] at ek1
      refine x_tableIn (t := 103) (off := 102) dX11_count_1 (by rw [ek1]; decide) (by rw [ek1]; decide) (by rw [ek1]; decide +kernel) (by decide) ?_
      refine x_aload_n (q := 104) dX11_count_103 rfl rfl ?_
      refine x_getf (C := RX11) (T := TX11) (N := 29) (k := 1) (q := 107) mp0 (by omega) rfl hiX11 (by decide) (by decide +kernel) rfl dX11_count_104 rfl ?_
      refine x_bipush (v := 20) (q := 109) dX11_count_107 rfl (by decide) ?_
      refine x_iald (q := 110) mp2 (by omega) (ixI (show (20 : Int32) = nI 20 from rfl) (by omega) (by decide)) dX11_count_109 rfl ?_
      rw [ixC (show (20 : Int32) = nI 20 from rfl) (by omega)]
      rw [rdcent hd]
      refine x_iret dX11_count_110 rfl rfl (Nat.le_refl _) ?_
      refine ⟨rfl, ?_⟩
      unfold kCount
      rw [ek1]
      rfl
    · rw [ej] at ek1
      refine x_tableIn (t := 111) (off := 110) dX11_count_1 (by rw [ek1]; decide) (by rw [ek1]; decide) (by rw [ek1]; decide +kernel) (by decide) ?_
      refine x_aload_n (q := 112) dX11_count_111 rfl rfl ?_
      refine x_getf (C := RX11) (T := TX11) (N := 29) (k := 1) (q := 115) mp0 (by omega) rfl hiX11 (by decide) (by decide +kernel) rfl dX11_count_112 rfl ?_
      refine x_bipush (v := 21) (q := 117) dX11_count_115 rfl (by decide) ?_
      refine x_iald (q := 118) mp2 (by omega) (ixI (show (21 : Int32) = nI 21 from rfl) (by omega) (by decide)) dX11_count_117 rfl ?_
      rw [ixC (show (21 : Int32) = nI 21 from rfl) (by omega)]
      rw [rdworld hd]
      refine x_iret dX11_count_118 rfl rfl (Nat.le_refl _) ?_
      refine ⟨rfl, ?_⟩
      unfold kCount
      rw [ek1]
      rfl
    · rw [ej] at ek1
      refine x_tableIn (t := 119) (off := 118) dX11_count_1 (by rw [ek1]; decide) (by rw [ek1]; decide) (by rw [ek1]; decide +kernel) (by decide) ?_
      refine x_aload_n (q := 120) dX11_count_119 rfl rfl ?_
      refine x_getf (C := RX11) (T := TX11) (N := 29) (k := 1) (q := 123) mp0 (by omega) rfl hiX11 (by decide) (by decide +kernel) rfl dX11_count_120 rfl ?_
      refine x_bipush (v := 19) (q := 125) dX11_count_123 rfl (by decide) ?_
      refine x_iald (q := 126) mp2 (by omega) (ixI (show (19 : Int32) = nI 19 from rfl) (by omega) (by decide)) dX11_count_125 rfl ?_
      rw [ixC (show (19 : Int32) = nI 19 from rfl) (by omega)]
      rw [rdearned hd]
      refine x_iret dX11_count_126 rfl rfl (Nat.le_refl _) ?_
      refine ⟨rfl, ?_⟩
      unfold kCount
      rw [ek1]
      rfl
    · rw [ej] at ek1
      refine x_tableIn (t := 127) (off := 126) dX11_count_1 (by rw [ek1]; decide) (by rw [ek1]; decide) (by rw [ek1]; decide +kernel) (by decide) ?_
      refine x_aload_n (q := 128) dX11_count_127 rfl rfl ?_
      refine x_callV (q := 131) (ci := 11) (c_m_holding hn hM0 hw hd) eX11_count_295 gX11_count_X11_holding mp0 (by omega) rfl rfl rfl (Nat.le_of_ble_eq_true rfl) ⟨Nat.le_refl _, Nat.le_refl _⟩ dX11_count_128 rfl rfl (fun r128 M128 p128 => ?_)
      obtain ⟨rfl, rfl⟩ := p128
      refine x_iret dX11_count_131 rfl rfl (Nat.le_refl _) ?_
      refine ⟨rfl, ?_⟩
      unfold kCount
      rw [ek1]
      rfl
    · rw [ej] at ek1
      refine x_tableIn (t := 132) (off := 131) dX11_count_1 (by rw [ek1]; decide) (by rw [ek1]; decide) (by rw [ek1]; decide +kernel) (by decide) ?_
      refine x_aload_n (q := 133) dX11_count_132 rfl rfl ?_
      refine x_callV (q := 136) (ci := 11) (c_m_marriages hn hM0 hw hd) eX11_count_211 gX11_count_X11_marriages mp0 (by omega) rfl rfl rfl (Nat.le_of_ble_eq_true rfl) ⟨Nat.le_refl _, Nat.le_refl _⟩ dX11_count_133 rfl rfl (fun r133 M133 p133 => ?_)
      obtain ⟨rfl, rfl⟩ := p133
      refine x_iret dX11_count_136 rfl rfl (Nat.le_refl _) ?_
      refine ⟨rfl, ?_⟩
      unfold kCount
      rw [ek1]
      exact congrArg (fun z => some (Value.int z)) hm
    · rw [ej] at ek1
      refine x_tableIn (t := 137) (off := 136) dX11_count_1 (by rw [ek1]; decide) (by rw [ek1]; decide) (by rw [ek1]; decide +kernel) (by decide) ?_
      refine x_aload_n (q := 138) dX11_count_137 rfl rfl ?_
      refine x_getf (C := RX11) (T := TX11) (N := 29) (k := 22) (q := 141) mp0 (by omega) rfl hiX11 (by decide) (by decide +kernel) rfl dX11_count_138 rfl ?_
      refine x_iret dX11_count_141 rfl rfl (Nat.le_refl _) ?_
      refine ⟨rfl, ?_⟩
      unfold kCount
      rw [ek1]
      exact congrArg (fun z => some (Value.int z)) h9.symm
    · rw [ej] at ek1
      refine x_tableIn (t := 142) (off := 141) dX11_count_1 (by rw [ek1]; decide) (by rw [ek1]; decide) (by rw [ek1]; decide +kernel) (by decide) ?_
      refine x_aload_n (q := 143) dX11_count_142 rfl rfl ?_
      refine x_getf (C := RX11) (T := TX11) (N := 29) (k := 27) (q := 146) mp0 (by omega) rfl hiX11 (by decide) (by decide +kernel) rfl dX11_count_143 rfl ?_
      refine x_iret dX11_count_146 rfl rfl (Nat.le_refl _) ?_
      refine ⟨rfl, ?_⟩
      unfold kCount
      rw [ek1]
      exact congrArg (fun z => some (Value.int z)) h10.symm
    · rw [ej] at ek1
      refine x_tableIn (t := 147) (off := 146) dX11_count_1 (by rw [ek1]; decide) (by rw [ek1]; decide) (by rw [ek1]; decide +kernel) (by decide) ?_
      refine x_aload_n (q := 148) dX11_count_147 rfl rfl ?_
      refine x_getf (C := RX11) (T := TX11) (N := 29) (k := 18) (q := 151) mp0 (by omega) rfl hiX11 (by decide) (by decide +kernel) rfl dX11_count_148 rfl ?_
      refine x_iret dX11_count_151 rfl rfl (Nat.le_refl _) ?_
      refine ⟨rfl, ?_⟩
      unfold kCount
      rw [ek1]
      exact congrArg (fun z => some (Value.int z)) h11.symm
    · rw [ej] at ek1
      refine x_tableIn (t := 152) (off := 151) dX11_count_1 (by rw [ek1]; decide) (by rw [ek1]; decide) (by rw [ek1]; decide +kernel) (by decide) ?_
      refine x_aload_n (q := 153) dX11_count_152 rfl rfl ?_
      refine x_getf (C := RX11) (T := TX11) (N := 29) (k := 2) (q := 156) mp0 (by omega) rfl hiX11 (by decide) (by decide +kernel) rfl dX11_count_153 rfl ?_
      refine x_iret dX11_count_156 rfl rfl (Nat.le_refl _) ?_
      refine ⟨rfl, ?_⟩
      unfold kCount
      rw [ek1]
      exact congrArg (fun z => some (Value.int z)) h12.symm
    · rw [ej] at ek1
      refine x_tableIn (t := 157) (off := 156) dX11_count_1 (by rw [ek1]; decide) (by rw [ek1]; decide) (by rw [ek1]; decide +kernel) (by decide) ?_
      refine x_aload_n (q := 158) dX11_count_157 rfl rfl ?_
      refine x_getf (C := RX11) (T := TX11) (N := 29) (k := 5) (q := 161) mp0 (by omega) rfl hiX11 (by decide) (by decide +kernel) rfl dX11_count_158 rfl ?_
      refine x_iret dX11_count_161 rfl rfl (Nat.le_refl _) ?_
      refine ⟨rfl, ?_⟩
      unfold kCount
      rw [ek1]
      exact congrArg (fun z => some (Value.int z)) h13.symm
  · refine x_tableOut (t := 162) dX11_count_1 (by rw [vp_in_iff] at hs1; omega) (by decide) ?_
    refine x_bipush (v := -3) (q := 164) dX11_count_162 rfl (by decide) ?_
    refine x_iret dX11_count_164 rfl rfl (Nat.le_refl _) ?_
    refine ⟨rfl, ?_⟩
    unfold kCount
    rw [if_neg (show ¬ b = 0 from xne hs1 0 (by decide) (by decide)), if_neg (show ¬ b = 1 from xne hs1 1 (by decide) (by decide)), if_neg (show ¬ b = 2 from xne hs1 2 (by decide) (by decide)), if_neg (show ¬ b = 3 from xne hs1 3 (by decide) (by decide)), if_neg (show ¬ b = 4 from xne hs1 4 (by decide) (by decide)), if_neg (show ¬ b = 5 from xne hs1 5 (by decide) (by decide)), if_neg (show ¬ b = 6 from xne hs1 6 (by decide) (by decide)), if_neg (show ¬ b = 7 from xne hs1 7 (by decide) (by decide)), if_neg (show ¬ b = 8 from xne hs1 8 (by decide) (by decide)), if_neg (show ¬ b = 9 from xne hs1 9 (by decide) (by decide)), if_neg (show ¬ b = 10 from xne hs1 10 (by decide) (by decide)), if_neg (show ¬ b = 11 from xne hs1 11 (by decide) (by decide)), if_neg (show ¬ b = 12 from xne hs1 12 (by decide) (by decide)), if_neg (show ¬ b = 13 from xne hs1 13 (by decide) (by decide))]

