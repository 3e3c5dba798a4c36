def stWs : List Cond := [Cond.laysStatic "CenturyTown" "TAKEN_AS" "[I", Cond.initialized RX10, Cond.laysStatic "java/lang/String" "COMPACT_STRINGS" "Z", Cond.initialized "java/lang/String", Cond.laysStatic "jdk/internal/util/Preconditions" "SIOOBE_FORMATTER" "Ljava/util/function/BiFunction;", Cond.initialized "jdk/internal/util/Preconditions", Cond.arrayOver (.object RX3), Cond.arrayClass .int, Cond.arrayClass .long, Cond.arrayClass .boolean, Cond.instantiable RX0 4, Cond.instantiable RX1 7, Cond.instantiable RX2 5, Cond.instantiable RX3 10, Cond.instantiable RX4 5, Cond.instantiable RX5 3, Cond.instantiable RX6 10, Cond.instantiable RX7 8, Cond.instantiable RX8 15, Cond.instantiable RX9 2, Cond.instantiable RX10 12, Cond.instantiable RX11 29] ++ xStr.map (fun q => Cond.stringRef RX7 q.1 q.2) ++ xNest.map (fun q => Cond.methodLinkNest q.1 q.2.1 q.2.2 RX10)
set_option maxRecDepth 20000 in
theorem stWs_in : ∀ w ∈ stWs, w ∈ lw_tbl := memOf [710, 76, 573, 90, 589, 92, 293, 197, 396, 1161, 437, 368, 398, 235, 345, 287, 307, 199, 105, 423, 97, 1056, 548, 549, 550, 551, 552, 553, 554, 555, 556, 557, 558, 559, 984, 862, 804, 629, 701] (by decide +kernel)
def tmS (i : Nat) : Term := .string RX7 ((xStr.getD i (0, "")).1)
def stGv : List Cond := flatC (Jvm.Cond.and given_1 narrow_1)
theorem st_str : ∀ i, i < 12 → (xLen.getD i 0 < 2 ^ 31 ∧ Cond.exactly (tmS i) "java/lang/String" ∈ stGv ∧ Cond.eq (.field (tmS i) "java/lang/String" "coder" "B") (.int 0) ∈ stGv ∧ Cond.arrayOf (.field (tmS i) "java/lang/String" "value" "[B") .byte ∈ stGv ∧ Cond.eq (.length (.field (tmS i) "java/lang/String" "value" "[B")) (.int (Int32.ofNat (xLen.getD i 0))) ∈ stGv) := by decide +kernel
theorem st_let : ∀ i, i < 12 → ∀ j, j < xLen.getD i 0 → Cond.eq (.elem (.field (tmS i) "java/lang/String" "value" "[B") (.int (Int32.ofNat j))) (.int ((xByt.getD i []).getD j 0)) ∈ stGv := by decide +kernel
theorem st_ne : ∀ i, i < 12 → ∀ j, j < 12 → i ≠ j → (Cond.not (Cond.eq (tmS i) (tmS j)) ∈ stGv ∨ Cond.not (Cond.eq (tmS j) (tmS i)) ∈ stGv) := by decide +kernel
theorem st_tk : ∀ j, j < 4 → Cond.eq (.elem (.static "CenturyTown" "TAKEN_AS" "[I") (.int (Int32.ofNat j))) (.int (xTk j)) ∈ stGv := by decide +kernel
theorem st_g : ∀ w ∈ [Cond.arrayOf (.static "CenturyTown" "TAKEN_AS" "[I") .int, Cond.eq (.length (.static "CenturyTown" "TAKEN_AS" "[I")) (.int 4), Cond.eq (.static "java/lang/String" "COMPACT_STRINGS" "Z") (.int 1), Cond.isRef (.static "jdk/internal/util/Preconditions" "SIOOBE_FORMATTER" "Ljava/util/function/BiFunction;")], w ∈ stGv := by decide +kernel
theorem st_size {args : Array Value} {s : State} {tm : Term} {n : Nat} (hn : n < 2 ^ 31) (h : (Term.length tm).eval args s none [] s = some (.int (Int32.ofNat n))) : ∃ b cell, tm.eval args s none [] s = some (.ref b) ∧ s.arrayAt? b = some cell ∧ cell.slots.size = n := by
  obtain ⟨b, cell, ht, harr, hv⟩ := Term.length_spec h
  refine ⟨b, cell, ht, harr, ?_⟩
  have hsz : cell.slots.size < 2 ^ 31 := by
    simp only [Term.eval, ht, harr, Option.bind_eq_bind, Option.bind_some] at h
    by_cases hlt : cell.slots.size < 2147483648
    · exact hlt
    · simp [hlt] at h
  have e : Int32.ofNat n = Int32.ofNat cell.slots.size := by
    injection hv
  have e2 := congrArg Int32.toNatClampNeg e
  rw [Int32.toNatClampNeg_ofNat_of_lt hn, Int32.toNatClampNeg_ofNat_of_lt hsz] at e2
  exact e2.symm
theorem st_xX {args : Array Value} {s : State} (hts : ∀ w ∈ lw_tbl, w.before args s = true) (hgv : (Jvm.Cond.and given_1 narrow_1).before args s = true) (b : Nat) : ∃ ad : Nat → Nat, ad 26 = b ∧ ∀ (tC : Nat → ClassId) (D : va_G), xX (s.heap.size, ad, tC, D) s := by
  have hw : ∀ w ∈ stWs, w.before args s = true := fun w h => hts w (stWs_in w h)
  have hf : ∀ w ∈ stGv, w.before args s = true := flat_of_before _ hgv
  have hA : ∀ a : Nat, a < s.heap.size → ¬ (fun q : Nat => s.heap.size ≤ q) a := fun a h => Nat.not_le.mpr h
  obtain ⟨adK, adV, hS, hE⟩ := vk_Sof (args := args) (s := s) (N := 12) (tm := tmS) (len := xLen) (byt := xByt) (A := fun q => s.heap.size ≤ q) (fun i hi => (st_str i hi).1) (fun i hi => hf _ (st_str i hi).2.1) (fun i hi => hf _ (st_str i hi).2.2.1) (fun i hi => hf _ (st_str i hi).2.2.2.1) (fun i hi => hf _ (st_str i hi).2.2.2.2) (fun i hi j hj => hf _ (st_let i hi j hj)) (fun i j hi hj hij => (st_ne i hi j hj hij).imp (hf _) (hf _)) hA
  have hlen := va_eqt (hf _ (st_g (Cond.eq (.length (.static "CenturyTown" "TAKEN_AS" "[I")) (.int 4)) (by simp)))
  obtain ⟨tk, cell, ht, hat, hsz⟩ := st_size (n := 4) (by decide) hlen
  obtain ⟨hcell, hkn, -, -⟩ := State.arrayAt?_spec hat
  have hof := (Cond.arrayOf_spec (hf _ (st_g (Cond.arrayOf (.static "CenturyTown" "TAKEN_AS" "[I") .int) (by simp))) ht hcell).1
  have htkl : tk < s.heap.size := (Array.getElem?_eq_some_iff.mp hcell).1
  have hel : ∀ j : Nat, j < 4 → cell.slots[j]? = some (.int (xTk j)) := by
    intro j hj
    obtain ⟨a, i, cell2, h1, h2, h3, h4, h5⟩ := Term.elem_spec (va_eqt (hf _ (st_tk j hj)))
    cases ht.symm.trans h1
    cases hat.symm.trans h3
    have hi : i = Int32.ofNat j := by
      have e : (Term.int (Int32.ofNat j)).eval args s none [] s = some (.int (Int32.ofNat j)) := rfl
      cases h2.symm.trans e
      rfl
    have hc : i.toNatClampNeg = j := by rw [hi]; exact Int32.toNatClampNeg_ofNat_of_lt (by omega)
    rw [hc] at h5
    exact h5
  have hcs := va_eqt (hf _ (st_g (Cond.eq (.static "java/lang/String" "COMPACT_STRINGS" "Z") (.int 1)) (by simp)))
  obtain ⟨v, hv, hvr⟩ := Cond.isRef_spec (hf _ (st_g (Cond.isRef (.static "jdk/internal/util/Preconditions" "SIOOBE_FORMATTER" "Ljava/util/function/BiFunction;")) (by simp)))
  obtain ⟨sf, hsf⟩ : ∃ sf : Nat, v = .ref sf ∨ v = .null := by
    cases v with
    | ref t => exact ⟨t, Or.inl rfl⟩
    | null => exact ⟨0, Or.inr rfl⟩
    | _ => simp [Value.isRef] at hvr
  refine ⟨fun k => if k = 0 then tk else if k < 13 then adK (k - 1) else if k < 25 then adV (k - 13) else if k = 25 then sf else b, rfl, fun tC D => ?_⟩
  have e1 : ∀ i, i < 12 → (if i + 1 = 0 then tk else if i + 1 < 13 then adK (i + 1 - 1) else if i + 1 < 25 then adV (i + 1 - 13) else if i + 1 = 25 then sf else b) = adK i := fun i hi => by
    rw [if_neg (by omega), if_pos (by omega), Nat.add_sub_cancel]
  have e2 : ∀ i, i < 12 → (if i + 13 = 0 then tk else if i + 13 < 13 then adK (i + 13 - 1) else if i + 13 < 25 then adV (i + 13 - 13) else if i + 13 = 25 then sf else b) = adV i := fun i hi => by
    rw [if_neg (by omega), if_neg (by omega), if_pos (by omega), Nat.add_sub_cancel]
  refine ⟨⟨fun i hi => ?_, fun i j hi hj e => ?_⟩, fun i q hq => ?_, ?_, ⟨cell, hcell, hof, hkn, hsz, hel⟩, htkl, ?_, fun q hq => ?_, ?_, ?_⟩
  · dsimp only
    rw [e1 i hi, e2 i hi]
    exact hS.1 i hi
  · dsimp only at e
    rw [e1 i hi, e1 j hj] at e
    exact hS.2 i j hi hj e
  · have hi : i < 12 := (List.getElem?_eq_some_iff.mp hq).1
    dsimp only
    rw [e1 i hi]
    have hq2 : xStr.getD i (0, "") = q := by
      rw [List.getD_eq_getElem?_getD, hq]; rfl
    have h3 := hE i hi
    unfold tmS at h3
    rw [hq2] at h3
    refine vk_R.of (A := args) (hw _ ?_) h3
    unfold stWs
    exact List.mem_append_left _ (List.mem_append_right _ (List.mem_map.mpr ⟨q, List.mem_of_getElem? hq, rfl⟩))
  · exact va_Zref (hw _ (List.mem_append_left _ (List.mem_append_left _ (by decide +kernel)))) (hw (Cond.initialized RX10) (List.mem_append_left _ (List.mem_append_left _ (by decide +kernel)))) ht hA
  · exact va_Zof (hw _ (List.mem_append_left _ (List.mem_append_left _ (by decide +kernel)))) (hw (Cond.initialized "java/lang/String") (List.mem_append_left _ (List.mem_append_left _ (by decide +kernel)))) hcs hA
  · refine va_Nw.of rfl (hw _ ?_)
    unfold stWs
    exact List.mem_append_right _ (List.mem_map.mpr ⟨q, hq, rfl⟩)
  · exact va_AO.of (hw (Cond.arrayOver (.object RX3)) (List.mem_append_left _ (List.mem_append_left _ (by decide +kernel))))
  · rcases hsf with rfl | rfl
    · exact ⟨.retAddr 25, Or.inl rfl, va_Zof (hw _ (List.mem_append_left _ (List.mem_append_left _ (by decide +kernel)))) (hw (Cond.initialized "jdk/internal/util/Preconditions") (List.mem_append_left _ (List.mem_append_left _ (by decide +kernel)))) hv hA⟩
    · exact ⟨.null, Or.inr rfl, va_Zof (hw _ (List.mem_append_left _ (List.mem_append_left _ (by decide +kernel)))) (hw (Cond.initialized "jdk/internal/util/Preconditions") (List.mem_append_left _ (List.mem_append_left _ (by decide +kernel)))) hv hA⟩
theorem st_K {args : Array Value} {s : State} (hts : ∀ w ∈ lw_tbl, w.before args s = true) : ∃ (tC : Nat → ClassId) (D : va_G), va_K D vwCl (xtys tC) s := by
  have hw : ∀ w ∈ stWs, w.before args s = true := fun w h => hts w (stWs_in w h)
  obtain ⟨c0, i0, h0⟩ := u_known (C := RX0) (T := TX0) (N := 4) (n := 4) hts lin_wsX00 (hw (Cond.instantiable RX0 4) (List.mem_append_left _ (List.mem_append_left _ (by decide +kernel))))
  obtain ⟨c1, i1, h1⟩ := u_known (C := RX1) (T := TX1) (N := 7) (n := 7) hts lin_wsX10 (hw (Cond.instantiable RX1 7) (List.mem_append_left _ (List.mem_append_left _ (by decide +kernel))))
  obtain ⟨c2, i2, h2⟩ := u_known (C := RX2) (T := TX2) (N := 5) (n := 5) hts lin_wsX20 (hw (Cond.instantiable RX2 5) (List.mem_append_left _ (List.mem_append_left _ (by decide +kernel))))
  obtain ⟨c3, i3, h3⟩ := u_known (C := RX3) (T := TX3) (N := 10) (n := 10) hts lin_wsX30 (hw (Cond.instantiable RX3 10) (List.mem_append_left _ (List.mem_append_left _ (by decide +kernel))))
  obtain ⟨c4, i4, h4⟩ := u_known (C := RX4) (T := TX4) (N := 5) (n := 5) hts lin_wsX40 (hw (Cond.instantiable RX4 5) (List.mem_append_left _ (List.mem_append_left _ (by decide +kernel))))
  obtain ⟨c5, i5, h5⟩ := u_known (C := RX5) (T := TX5) (N := 3) (n := 3) hts lin_wsX50 (hw (Cond.instantiable RX5 3) (List.mem_append_left _ (List.mem_append_left _ (by decide +kernel))))
  obtain ⟨c6, i6, h6⟩ := u_known (C := RX6) (T := TX6) (N := 10) (n := 10) hts lin_wsX60 (hw (Cond.instantiable RX6 10) (List.mem_append_left _ (List.mem_append_left _ (by decide +kernel))))
  obtain ⟨c7, i7, h7⟩ := u_known (C := RX7) (T := TX7) (N := 8) (n := 8) hts lin_wsX70 (hw (Cond.instantiable RX7 8) (List.mem_append_left _ (List.mem_append_left _ (by decide +kernel))))
  obtain ⟨c8, i8, h8⟩ := u_known (C := RX8) (T := TX8) (N := 15) (n := 15) hts lin_wsX80 (hw (Cond.instantiable RX8 15) (List.mem_append_left _ (List.mem_append_left _ (by decide +kernel))))
  obtain ⟨c9, i9, h9⟩ := u_known (C := RX9) (T := TX9) (N := 2) (n := 2) hts lin_wsX90 (hw (Cond.instantiable RX9 2) (List.mem_append_left _ (List.mem_append_left _ (by decide +kernel))))
  obtain ⟨c10, i10, h10⟩ := u_known (C := RX10) (T := TX10) (N := 12) (n := 12) hts lin_wsX100 (hw (Cond.instantiable RX10 12) (List.mem_append_left _ (List.mem_append_left _ (by decide +kernel))))
  obtain ⟨c11, i11, h11⟩ := u_known (C := RX11) (T := TX11) (N := 29) (n := 29) hts lin_wsX110 (hw (Cond.instantiable RX11 29) (List.mem_append_left _ (List.mem_append_left _ (by decide +kernel))))
  obtain ⟨a0, k0, p0, x1, x2, x3⟩ := Cond.arrayClass_spec (hw (Cond.arrayClass .int) (List.mem_append_left _ (List.mem_append_left _ (by decide +kernel))))
  obtain ⟨a1, k1, p1, y1, y2, y3⟩ := Cond.arrayClass_spec (hw (Cond.arrayClass .long) (List.mem_append_left _ (List.mem_append_left _ (by decide +kernel))))
  obtain ⟨a2, k2, p2, z1, z2, z3⟩ := Cond.arrayClass_spec (hw (Cond.arrayClass .boolean) (List.mem_append_left _ (List.mem_append_left _ (by decide +kernel))))
  obtain ⟨p3, a3, k3, w1, -, w2, w3, w4⟩ := Cond.arrayOver_spec (hw (Cond.arrayOver (.object RX3)) (List.mem_append_left _ (List.mem_append_left _ (by decide +kernel))))
  refine ⟨fun k => if k = 0 then a0 else if k = 1 then a1 else if k = 2 then a2 else a3, (fun k => [c0, c1, c2, c3, c4, c5, c6, c7, c8, c9, c10, c11].getD k c0, fun k => [i0, i1, i2, i3, i4, i5, i6, i7, i8, i9, i10, i11].getD k i0), fun k q hq => ?_, fun k q hq => ?_⟩
  · have hk : k < 12 := (List.getElem?_eq_some_iff.mp hq).1
    have h12 : k = 0 ∨ k = 1 ∨ k = 2 ∨ k = 3 ∨ k = 4 ∨ k = 5 ∨ k = 6 ∨ k = 7 ∨ k = 8 ∨ k = 9 ∨ k = 10 ∨ k = 11 := by omega
    rcases h12 with rfl | rfl | rfl | rfl | rfl | rfl | rfl | rfl | rfl | rfl | rfl | rfl
    · cases hq; exact h0
    · cases hq; exact h1
    · cases hq; exact h2
    · cases hq; exact h3
    · cases hq; exact h4
    · cases hq; exact h5
    · cases hq; exact h6
    · cases hq; exact h7
    · cases hq; exact h8
    · cases hq; exact h9
    · cases hq; exact h10
    · cases hq; exact h11
  · have hk : k < 4 := (List.getElem?_eq_some_iff.mp hq).1
    have h4 : k = 0 ∨ k = 1 ∨ k = 2 ∨ k = 3 := by omega
    rcases h4 with rfl | rfl | rfl | rfl
    · cases hq; exact ⟨fun n z => ⟨fun k h => (by cases h), k0, x2, p0, x3⟩, x1⟩
    · cases hq; exact ⟨fun n z => ⟨fun k h => (by cases h), k1, y2, p1, y3⟩, y1⟩
    · cases hq; exact ⟨fun n z => ⟨fun k h => (by cases h), k2, z2, p2, z3⟩, z1⟩
    · cases hq; exact ⟨fun n z => ⟨fun k h => (by cases h), k3, w2, p3, w3⟩, k3, p3, w2, w3, w1, w4⟩
theorem inv_start {M M' : Nat → xE} (h : oX10 0 M ∧ oX8 1 (tNone (fun _ _ => 0)) M ∧ oX7 12 (fun _ _ => 0) M ∧ oX8 14 (tNone (fun _ _ => 0)) M ∧ oX3 25 (dNew 60) M ∧ oPast 29 0 0 (fun _ _ _ => 0) M ∧ oKept (fun _ _ _ => 0) M ∧ oPl M ∧ oMa M ∧ oCh (fun _ _ => 0) M ∧ oCo M ∧ oX9 93 (fun _ _ => 0) M ∧ oBa 0 (fun _ => 0) M) (e : ∀ j, j < 99 → M' j = M j) (hM : oX11 99 (bgT (fun z => if z = 0 then begW (fun _ => 0) 0 else fun _ => 0)) (fun z _ => if z = 17 then 1 else 0) M') : INV M' := by
  obtain ⟨h1, h2, h3, h4, h5, h6, h7, h8, h9, h10, h11, h12, h13⟩ := h
  have hC : WC 0 (tNone (fun _ _ => 0)) (fun _ _ => 0) (dNew 60) (fun _ _ => 0) (fun _ _ => 0) 0 0 (fun _ _ _ => 0) (fun _ _ _ => 0) 0 (fun _ => 0) M := ⟨h1, h2, h3, ⟨_, h4⟩, h5, h6, h7, h8, h9, h10, h11, h12, h13⟩
  have hr : RT (tNone (fun _ _ => 0)) 0 0 0 (begW (fun _ => 0) 0) := by
    refine ⟨⟨by omega, by omega, by omega, by decide +kernel, by decide +kernel, by decide +kernel, by decide +kernel⟩, fun j hj => by omega, fun j hj => by omega, fun j hj => by omega, fun j hj => ?_⟩
    rcases (show j = 0 ∨ j = 1 ∨ j = 2 ∨ j = 3 by omega) with rfl | rfl | rfl | rfl <;> decide +kernel
  have hk : TOK (tNone (fun _ _ => 0)) 0 0 0 := by
    refine ⟨⟨by decide +kernel, by decide +kernel, by decide +kernel, by decide +kernel, by decide +kernel⟩, fun j hj => by omega, fun j hj => by omega, fun j hj => by omega, fun j hj => ?_⟩
    rcases (show j = 0 ∨ j = 1 ∨ j = 2 ∨ j = 3 by omega) with rfl | rfl | rfl | rfl <;> exact ⟨vp_in_iff.mpr (by decide +kernel), vp_in_iff.mpr (by decide +kernel)⟩
  refine ⟨0, _, _, _, _, _, 0, 0, _, _, 0, _, _, _, 0, 0, 0, 0, 0, 0, hC.low e, hM, ⟨hr, hk⟩, ⟨?_, dok_new (by omega) (by decide +kernel)⟩, ⟨by omega, by omega, rfl, fun i hi => by omega, fun i hi => by omega⟩, ⟨⟨0, by omega, rfl, fun j hj => ?_⟩, fun j hj h => ?_⟩, ⟨by omega, rfl, rfl, rfl⟩, ⟨by omega, rfl, rfl, fun i hi => by omega⟩, ⟨by omega, rfl, rfl, fun i hi => by omega⟩, ⟨by omega, rfl, rfl, ⟨fun b hb => by omega, fun b hb => by omega, Or.inl rfl⟩⟩⟩
  · intro k hk
    show bgD (fun _ => 0) (begW (fun _ => 0) 0 36) 5 k = _
    rw [show begW (fun _ => 0) 0 36 = 60 by decide +kernel]
    exact bgD_dv _ _ k hk
  · show upd (upd (fun _ => 0) 0 0) 1 0 j = _
    exact upd_00 j hj
  · exact absurd ((upd_00 (f := fun _ => 0) j hj).trans (by match j, hj with | 0, _ => decide | 1, _ => decide)) h
