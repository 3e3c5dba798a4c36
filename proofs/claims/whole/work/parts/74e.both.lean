set_option maxHeartbeats 4000000 in
set_option maxRecDepth 100000 in
theorem b_write {M : Nat → xE} (hI : INV M) {a : Int32} : BotI mX10_write mX11_write [.int a] M := by
  obtain ⟨kb, τ, tx, δ, tc, tw, sz, nx, Dp, K, Bb, sb, t, u, P, W, G, N, Bs, Bw, hC, hM, hA, hB, hc, hd, he, hf, hg, hh⟩ := id hI
  obtain ⟨cx, ct, ctx, ⟨τd, cdr⟩, cd, cpa, cke, cpl, cma, cch, cco, cwo, cba⟩ := id hC
  have hP := rtP hA.1
  have hW := rtW hA.1
  have hG5 := rtG hA.1
  have hP0 := hA.2.1.1
  have hW0 := hA.2.1.2.1
  have hG0 := hA.2.1.2.2.1
  obtain ⟨ce, hce, hce0⟩ := hB.2.2.2.2.1
  have hl := at11 hM
  refine ⟨_, c_write (n := 114) (by omega) cx ctx he.1 he.2.1, fun r1 M1 q => ?_⟩
  have hm := fun (M1 : Nat → xE) (hM1 : oX11 99 t u M1) => c_m_write (n := 114) (by omega) he.1 hM1 he.2.2.1 (a := a)
  by_cases e0 : inB a 256 = true
  · by_cases e1 : N < 160
    · rw [if_pos e0, if_pos e1] at q
      obtain ⟨rfl, q1, q2⟩ := q
      refine ⟨_, rfl, at11 (hM.up q2 (by omega)), _, hm M1 (hM.up q2 (by omega)), fun r2 M2 z => ?_⟩
      rw [if_pos e0, if_pos e1] at z
      obtain ⟨rfl, z1, z2⟩ := z
      refine ⟨rfl, kb, τ, _, δ, tc, tw, sz, nx, Dp, K, Bb, sb, _, u, P, W, G, N + 1, Bs, Bw, (wc_tx hC q1 q2).dn z2, z1, hA, hB, hc, hd, ⟨by omega, rfl, rfl, ?_⟩, hf, hg, hh⟩
      show upd (t 4) N a = upd (tx 0) N a
      rw [he.2.2.2]
    · rw [if_pos e0, if_neg e1] at q
      obtain ⟨rfl, rfl⟩ := q
      exact ⟨_, rfl, bot_no hI (hm M hM) (fun r2 M2 z => by rw [if_pos e0, if_neg e1] at z; exact z)⟩
  · rw [if_neg e0] at q
    obtain ⟨rfl, rfl⟩ := q
    exact ⟨_, rfl, bot_no hI (hm M hM) (fun r2 M2 z => by rw [if_neg e0] at z; exact z)⟩
set_option maxHeartbeats 4000000 in
set_option maxRecDepth 100000 in
theorem b_erase {M : Nat → xE} (hI : INV M) : BotI mX10_erase mX11_erase [] M := by
  obtain ⟨kb, τ, tx, δ, tc, tw, sz, nx, Dp, K, Bb, sb, t, u, P, W, G, N, Bs, Bw, hC, hM, hA, hB, hc, hd, he, hf, hg, hh⟩ := id hI
  obtain ⟨cx, ct, ctx, ⟨τd, cdr⟩, cd, cpa, cke, cpl, cma, cch, cco, cwo, cba⟩ := id hC
  have hP := rtP hA.1
  have hW := rtW hA.1
  have hG5 := rtG hA.1
  have hP0 := hA.2.1.1
  have hW0 := hA.2.1.2.1
  have hG0 := hA.2.1.2.2.1
  obtain ⟨ce, hce, hce0⟩ := hB.2.2.2.2.1
  have hl := at11 hM
  refine ⟨_, c_erase (n := 114) (by omega) cx ctx he.1 he.2.1, fun r1 M1 q => ?_⟩
  have hm := fun (M1 : Nat → xE) (hM1 : oX11 99 t u M1) => c_m_erase (n := 114) (by omega) he.1 hM1 he.2.2.1
  obtain ⟨rfl, q1, q2⟩ := q
  refine ⟨_, rfl, at11 (hM.up q2 (by omega)), _, hm M1 (hM.up q2 (by omega)), fun r2 M2 z => ?_⟩
  obtain ⟨rfl, z1, z2⟩ := z
  exact ⟨rfl, kb, τ, _, δ, tc, tw, sz, nx, Dp, K, Bb, sb, _, u, P, W, G, 0, Bs, Bw, (wc_tx hC q1 q2).dn z2, z1, hA, hB, hc, hd, ⟨by omega, rfl, rfl, he.2.2.2⟩, hf, hg, hh⟩
set_option maxHeartbeats 4000000 in
set_option maxRecDepth 100000 in
theorem b_fault {M : Nat → xE} (hI : INV M) : BotI mX10_fault mX11_fault [] M := by
  obtain ⟨kb, τ, tx, δ, tc, tw, sz, nx, Dp, K, Bb, sb, t, u, P, W, G, N, Bs, Bw, hC, hM, hA, hB, hc, hd, he, hf, hg, hh⟩ := id hI
  obtain ⟨cx, ct, ctx, ⟨τd, cdr⟩, cd, cpa, cke, cpl, cma, cch, cco, cwo, cba⟩ := id hC
  have hP := rtP hA.1
  have hW := rtW hA.1
  have hG5 := rtG hA.1
  have hP0 := hA.2.1.1
  have hW0 := hA.2.1.2.1
  have hG0 := hA.2.1.2.2.1
  obtain ⟨ce, hce, hce0⟩ := hB.2.2.2.2.1
  have hl := at11 hM
  refine ⟨_, c_fault (n := 114) (by omega) cx ctx he.1 he.2.1 cdr ct hP hW hG5 hP0 hW0 hG0, fun r1 M1 q => ?_⟩
  have hm := fun (M1 : Nat → xE) (hM1 : oX11 99 t u M1) => c_m_fault (n := 114) (by omega) he.1 hM1 he.2.2.1 hP hW hG5 (rtn hA.1) hA.1.1.2.2.2.2.1 hA.1.1.2.2.2.2.2.1
  obtain ⟨rfl, ⟨tx', q1, q2, q3⟩, q4, q5⟩ := q
  rw [he.2.2.2] at hm
  refine ⟨_, rfl, at11 (hM.up q5 (by omega)), _, hm M1 (hM.up q5 (by omega)), fun r2 M2 z => ?_⟩
  obtain ⟨rfl, ⟨t', z1, z2, z3, z4⟩, z5⟩ := z
  refine ⟨rfl, kb, τ, tx', δ, tc, tw, sz, nx, Dp, K, Bb, sb, t', u, P, W, G, N, Bs, Bw, (wc_txd hC q1 q4 q5).dn z5, z1, ⟨rt_cong hA.1 z2, hA.2⟩, ?_⟩
  rw [z4 1 (by omega), z4 2 (by omega), z4 3 (by omega), z4 4 (by omega), z4 18 (by omega), z4 19 (by omega), z4 20 (by omega), z4 21 (by omega), z4 22 (by omega), z4 23 (by omega), z4 27 (by omega), z4 28 (by omega)]
  exact ⟨hB, hc, hd, ⟨he.1, q3, z3, he.2.2.2.trans q2.symm⟩, hf, hg, hh⟩
theorem cpW_hi {w : Nat → Int32} {k : Nat} (hk : k < 61) : cpW w 61 (61 + k) = w k := by
  unfold cpW
  simp only [Nat.add_sub_cancel_left]
  rw [if_pos (by omega)]
theorem upd_00 {f : Nat → Int32} : ∀ j, j < 2 → upd (upd f 0 0) 1 0 j = bo (nI 0) (nI j)
  | 0, _ => show (0 : Int32) = bo (nI 0) (nI 0) by decide
  | 1, _ => show (0 : Int32) = bo (nI 0) (nI 1) by decide
set_option maxHeartbeats 4000000 in
set_option maxRecDepth 100000 in
theorem b_town {M : Nat → xE} (hI : INV M) : BotI mX10_town mX11_town [] M := by
  obtain ⟨kb, τ, tx, δ, tc, tw, sz, nx, Dp, K, Bb, sb, t, u, P, W, G, N, Bs, Bw, hC, hM, hA, hB, hc, hd, he, hf, hg, hh⟩ := id hI
  obtain ⟨cx, ct, ctx, ⟨τd, cdr⟩, cd, cpa, cke, cpl, cma, cch, cco, cwo, cba⟩ := id hC
  have hP := rtP hA.1
  have hW := rtW hA.1
  have hG5 := rtG hA.1
  have hP0 := hA.2.1.1
  have hW0 := hA.2.1.2.1
  have hG0 := hA.2.1.2.2.1
  obtain ⟨ce, hce, hce0⟩ := hB.2.2.2.2.1
  have hl := at11 hM
  obtain ⟨tb, hb1, hb2, hb3⟩ := cba
  obtain ⟨uc, hc1⟩ := cch
  refine ⟨_, c_town (n := 114) (by omega) cx ctx he.1 he.2.1 cdr ct hP hW hG5 hP0 hW0 hG0 cd cpa hc1 cwo hb1, fun r1 M1 q => ?_⟩
  have hm := fun (M1 : Nat → xE) (hM1 : oX11 99 t u M1) => c_m_town (n := 114) (by omega) he.1 hM1 he.2.2.1 hP hW hG5 (rtn hA.1) hA.1.1.2.2.2.2.1 hA.1.1.2.2.2.2.2.1
  rw [he.2.2.2] at hm
  have hac := @fnd_acts (tx 0) N 14 1 P W G 0
  revert q hm hac
  generalize fnd (tx 0) N 14 1 P W G 0 = res
  intro q hm hac
  match res, q, hm, hac with
  | .inl k, q, hm, hac =>
    obtain ⟨rfl, ⟨tx', q1, q2, q3⟩, q4, q5⟩ := q
    refine ⟨_, rfl, at11 (hM.up q5 (by omega)), _, hm M1 (hM.up q5 (by omega)), fun r2 M2 z => ?_⟩
    obtain ⟨⟨rfl, t', z1, z2, z3, z4⟩, z5⟩ := z
    refine ⟨rfl, kb, τ, tx', δ, tc, tw, sz, nx, Dp, K, Bb, sb, t', u, P, W, G, N, Bs, Bw, (wc_txd hC q1 q4 q5).dn z5, z1, ⟨rt_cong hA.1 z2, hA.2⟩, ?_⟩
    rw [z4 1 (by omega), z4 2 (by omega), z4 3 (by omega), z4 4 (by omega), z4 18 (by omega), z4 19 (by omega), z4 20 (by omega), z4 21 (by omega), z4 22 (by omega), z4 23 (by omega), z4 27 (by omega), z4 28 (by omega)]
    exact ⟨hB, hc, hd, ⟨he.1, q3, z3, he.2.2.2.trans q2.symm⟩, hf, hg, hh⟩
  | .inr y, q, hm, hac =>
    obtain ⟨rfl, ⟨tx', q1, q2, q3⟩, q4, q5, q6, q7, q8, q9, q10, q11, q12⟩ := q
    have hM1 : oX11 99 t u M1 := hM.keep (fun j c d => q12 j (by omega) (by omega) (by omega))
    refine ⟨_, rfl, at11 hM1, _, hm M1 hM1, fun r2 M2 z => ?_⟩
    obtain ⟨⟨rfl, t', z1, z2, z3, z4⟩, z5⟩ := z
    obtain ⟨P', W', G', hP', hW', hG', hr, htk⟩ := all_acts y.2 hP hW hG5 (show RTo τ P W G (cpW (t 0) 61) from rt_cong hA.1 (fun k hk => cpW_hi hk)) hA.2 (hac y rfl)
    have hr0 : RT (y.2.foldl doA τ) P' W' G' (t' 0) := rt_cong hr z2
    have h36 : t' 0 36 = y.2.foldl doA τ 12 0 := hr0.1.2.2.2.2.2.2
    have hC1 : WC 0 (y.2.foldl doA τ) tx' (dNew (y.2.foldl doA τ 12 0)) (fun i => if i = 0 then (fun _ => 0) else tc i) (fun i => if i = 0 then (fun _ => 0) else tw i) 0 nx Dp K 0 (tb 1) M1 := ⟨q8, q5, q1, q4, q6, q7, cke.keep (fun j c d => q12 j (by omega) (by omega) (by omega)), cpl.keep (fun j c d => q12 j (by omega) (by omega) (by omega)), cma.keep (fun j c d => q12 j (by omega) (by omega) (by omega)), q9, cco.keep (fun j c d => q12 j (by omega) (by omega) (by omega)), q10, ⟨_, q11, rfl, rfl⟩⟩
    refine ⟨rfl, 0, _, tx', _, _, _, 0, nx, Dp, K, 0, tb 1, _, u, P', W', G', 0, 0, 0, hC1.dn z5, z1, ⟨hr0, htk⟩, ⟨?_, dok_new hP' ⟨htk.1.2.2.2.1, htk.1.2.2.2.2⟩⟩, ⟨by omega, hc.2.1, rfl, fun i hi => by omega, fun i hi => by omega⟩, ⟨⟨0, by omega, rfl, ?_⟩, ?_⟩, ⟨by omega, q3, z3, ?_⟩, ⟨by omega, rfl, rfl, fun i hi => by omega⟩, ⟨by omega, rfl, rfl, fun i hi => by omega⟩, ⟨by omega, rfl, ?_, ⟨fun b hb => by omega, fun b hb => by omega, Or.inl rfl⟩⟩⟩
    · intro k hk
      show bgD (t' 1) (t' 0 36) 5 k = _
      rw [h36]
      exact bgD_dv _ _ k hk
    · intro j hj
      show upd (upd (t' 3) 0 0) 1 0 j = _
      exact upd_00 j hj
    · intro j hj h
      exact absurd ((upd_00 (f := t' 3) j hj).trans (by match j, hj with | 0, _ => decide | 1, _ => decide)) h
    · show t' 4 = tx' 0
      rw [z4 4 (by omega), q2, he.2.2.2]
    · show tb 1 = t' 28
      rw [z4 28 (by omega), hb3, hh.2.2.1]
