set_option maxHeartbeats 4000000 in
set_option maxRecDepth 100000 in
theorem b_sleep {M : Nat → xE} (hI : INV M) {z : Int32} : BotI mX10_sleep mX11_sleep [.int z] M := by
  obtain ⟨kb, τ, tx, δ, tc, tw, sz, nx, Dp, K, Bb, sb, t, u, P, W, G, N, Bs, Bw, hC, hM, hA, hB, hc, hd, he, hf, hg, hh⟩ := id hI
  obtain ⟨cx, ct, ctx, ⟨τd, cdr⟩, cd, cpa, cke, cpl, cma, cch, cco, cwo, cba⟩ := id hC
  have hP := rtP hA.1
  have hW := rtW hA.1
  have hG5 := rtG hA.1
  have hP0 := hA.2.1.1
  have hW0 := hA.2.1.2.1
  have hG0 := hA.2.1.2.2.1
  obtain ⟨ce, hce, hce0⟩ := hB.2.2.2.2.1
  have hl := at11 hM
  obtain ⟨wd, hwd, hwd0⟩ := vp_in_of hB.2.2.2.1 (by decide)
  refine ⟨_, c_sleep (n := 114) (by omega) cx ct cd hW hW0 hc.1 hc.2.1 cpa hB.2.2.2.1, fun r1 M1 q => ?_⟩
  have hm := fun (M1 : Nat → xE) (hM1 : oX11 99 t u M1) => c_m_sleep (n := 114) (by omega) hM1 hA.1 hB.1 hce hce0 hc.1 hc.2.2.1 hB.2.2.1 hwd hwd0 (z := z)
  by_cases e0 : inB z 10000 = true
  · by_cases e1 : δ 0 0 < 999
    · rw [if_pos e0, if_pos e1] at q
      obtain ⟨rfl, q1, q2, q3⟩ := q
      refine ⟨_, rfl, at11 (hM.up q3 (by omega)), _, hm M1 (hM.up q3 (by omega)), fun r2 M2 y => ?_⟩
      rw [if_pos e0, if_pos e1] at y
      obtain ⟨rfl, z1⟩ := y
      exact ⟨rfl, inv_deed hC hA hB hc hd he hf hg hh (dok_cent hA.2 hB.2 e1) q1 q2 q3 z1⟩
    · rw [if_pos e0, if_neg e1] at q
      obtain ⟨rfl, rfl⟩ := q
      exact ⟨_, rfl, bot_no hI (hm M hM) (fun r2 M2 y => by rw [if_pos e0, if_neg e1] at y; exact y)⟩
  · rw [if_neg e0] at q
    obtain ⟨rfl, rfl⟩ := q
    exact ⟨_, rfl, bot_no hI (hm M hM) (fun r2 M2 y => by rw [if_neg e0] at y; exact y)⟩
set_option maxHeartbeats 4000000 in
set_option maxRecDepth 100000 in
theorem b_undo {M : Nat → xE} (hI : INV M) : BotI mX10_undo mX11_undo [] M := by
  obtain ⟨kb, τ, tx, δ, tc, tw, sz, nx, Dp, K, Bb, sb, t, u, P, W, G, N, Bs, Bw, hC, hM, hA, hB, hc, hd, he, hf, hg, hh⟩ := id hI
  obtain ⟨cx, ct, ctx, ⟨τd, cdr⟩, cd, cpa, cke, cpl, cma, cch, cco, cwo, cba⟩ := id hC
  have hP := rtP hA.1
  have hW := rtW hA.1
  have hG5 := rtG hA.1
  have hP0 := hA.2.1.1
  have hW0 := hA.2.1.2.1
  have hG0 := hA.2.1.2.2.1
  obtain ⟨ce, hce, hce0⟩ := hB.2.2.2.2.1
  have hl := at11 hM
  refine ⟨_, c_undo (n := 114) (by omega) cx cd hc.1 hc.2.1 cpa, fun r1 M1 q => ?_⟩
  have hm := fun (M1 : Nat → xE) (hM1 : oX11 99 t u M1) => c_m_undo (n := 114) (by omega) hM1 hc.1 hc.2.2.1
  by_cases e0 : sz = 0
  · rw [if_pos e0] at q
    obtain ⟨rfl, rfl⟩ := q
    exact ⟨_, rfl, bot_no hI (hm M hM) (fun r2 M2 z => by rw [if_pos e0] at z; exact z)⟩
  · rw [if_neg e0] at q
    obtain ⟨rfl, q1, q2, q3⟩ := q
    refine ⟨_, rfl, at11 (hM.up q3 (by omega)), _, hm M1 (hM.up q3 (by omega)), fun r2 M2 z => ?_⟩
    rw [if_neg e0] at z
    obtain ⟨rfl, z1, z2⟩ := z
    obtain ⟨c1, c2, c3, c4, c5⟩ := hc
    refine ⟨rfl, kb, τ, tx, Dp ((nx + 7) % 8), tc, tw, sz - 1, (nx + 7) % 8, Dp, K, Bb, sb, _, u, P, W, G, N, Bs, Bw, (wc_day hC q1 q2 q3).dn z2, z1, hA, ⟨?_, ?_⟩, ⟨by omega, by omega, rfl, ?_, ?_⟩, ⟨hd.1, fun j hj hk => ?_⟩, he, hf, hg, hh⟩
    · intro k hk
      show cpD (t 1) (66 + 22 * (sz - 1)) 0 22 k = _
      rw [cpD_in ⟨Nat.zero_le _, by omega⟩, Nat.sub_zero, c4 (sz - 1) (by omega) k hk, show (nx + 8 - sz + (sz - 1)) % 8 = (nx + 7) % 8 by omega]
    · have h5 := c5 (sz - 1) (by omega)
      rw [show (nx + 8 - sz + (sz - 1)) % 8 = (nx + 7) % 8 by omega] at h5
      exact h5
    · intro i hi k hk
      show cpD (t 1) (66 + 22 * (sz - 1)) 0 22 (66 + 22 * i + k) = _
      rw [cpD_out (Or.inr (by omega)), c4 i (by omega) k hk, show (nx + 8 - sz + i) % 8 = ((nx + 7) % 8 + 8 - (sz - 1) + i) % 8 by omega]
    · intro i hi
      rw [show ((nx + 7) % 8 + 8 - (sz - 1) + i) % 8 = (nx + 8 - sz + i) % 8 by omega]
      exact c5 i (by omega)
    · obtain ⟨d1, d2⟩ := hd.2 j hj hk
      refine ⟨d1, fun i hi => ?_⟩
      show cpD (t 1) (66 + 22 * (sz - 1)) 0 22 (22 + 22 * j + i) = _
      rw [cpD_out (Or.inr (by omega))]
      exact d2 i hi
theorem kb_put {m p : Nat} (hm : m < 4) (hp : p < 2) : ∃ m', m' < 4 ∧ nI m ||| (1 <<< (nI p &&& 31)) = nI m' ∧ ∀ j, j < 2 → (if j = p then 1 else bo (nI m) (nI j)) = bo (nI m') (nI j) := by
  match m, hm, p, hp with
  | 0, _, 0, _ => exact ⟨1, by decide, by decide, fun j hj => match j, hj with | 0, _ => by decide | 1, _ => by decide⟩
  | 0, _, 1, _ => exact ⟨2, by decide, by decide, fun j hj => match j, hj with | 0, _ => by decide | 1, _ => by decide⟩
  | 1, _, 0, _ => exact ⟨1, by decide, by decide, fun j hj => match j, hj with | 0, _ => by decide | 1, _ => by decide⟩
  | 1, _, 1, _ => exact ⟨3, by decide, by decide, fun j hj => match j, hj with | 0, _ => by decide | 1, _ => by decide⟩
  | 2, _, 0, _ => exact ⟨3, by decide, by decide, fun j hj => match j, hj with | 0, _ => by decide | 1, _ => by decide⟩
  | 2, _, 1, _ => exact ⟨2, by decide, by decide, fun j hj => match j, hj with | 0, _ => by decide | 1, _ => by decide⟩
  | 3, _, 0, _ => exact ⟨3, by decide, by decide, fun j hj => match j, hj with | 0, _ => by decide | 1, _ => by decide⟩
  | 3, _, 1, _ => exact ⟨3, by decide, by decide, fun j hj => match j, hj with | 0, _ => by decide | 1, _ => by decide⟩
set_option maxHeartbeats 4000000 in
set_option maxRecDepth 100000 in
theorem b_keep {M : Nat → xE} (hI : INV M) {a : Int32} : BotI mX10_keep mX11_keep [.int a] M := by
  obtain ⟨kb, τ, tx, δ, tc, tw, sz, nx, Dp, K, Bb, sb, t, u, P, W, G, N, Bs, Bw, hC, hM, hA, hB, hc, hd, he, hf, hg, hh⟩ := id hI
  obtain ⟨cx, ct, ctx, ⟨τd, cdr⟩, cd, cpa, cke, cpl, cma, cch, cco, cwo, cba⟩ := id hC
  have hP := rtP hA.1
  have hW := rtW hA.1
  have hG5 := rtG hA.1
  have hP0 := hA.2.1.1
  have hW0 := hA.2.1.2.1
  have hG0 := hA.2.1.2.2.1
  obtain ⟨ce, hce, hce0⟩ := hB.2.2.2.2.1
  have hl := at11 hM
  refine ⟨_, c_keep (n := 114) (by omega) cx cd cke, fun r1 M1 q => ?_⟩
  have hm := fun (M1 : Nat → xE) (hM1 : oX11 99 t u M1) => c_m_keep (n := 114) (by omega) hM1 hB.1 (a := a)
  by_cases e0 : inB a 2 = true
  · rw [if_pos e0] at q
    obtain ⟨rfl, q1, q2, q3⟩ := q
    have hM1 : oX11 99 t u M1 := hM.keep (fun j c d => q3 j (by omega) (by omega))
    refine ⟨_, rfl, at11 hM1, _, hm M1 hM1, fun r2 M2 z => ?_⟩
    rw [if_pos e0] at z
    obtain ⟨rfl, z1, z2⟩ := z
    obtain ⟨c1, c2, c3, c4, c5⟩ := hc
    obtain ⟨⟨m, hm4, rfl, hk3⟩, hkd⟩ := hd
    obtain ⟨p, hp, rfl⟩ := vp_in_of (inB_t.mp e0) (by decide)
    obtain ⟨m2, hm2, em2, fm2⟩ := kb_put hm4 hp
    have hcp : (nI p).toNatClampNeg = p := nI_clamp (by omega)
    rw [hcp] at z1 q2
    refine ⟨rfl, _, τ, tx, δ, tc, tw, sz, nx, Dp, _, Bb, sb, _, u, P, W, G, N, Bs, Bw, (wc_keep hC q1 q2 q3).dn z2, z1, hA, ⟨?_, hB.2⟩, ⟨c1, c2, c3, ?_, c5⟩, ⟨⟨m2, hm2, em2, ?_⟩, fun j hj hk => ?_⟩, he, hf, hg, hh⟩
    · intro k hk
      show cpD (t 1) 0 (22 + 22 * p) 22 k = _
      rw [cpD_out (Or.inl (by omega))]
      exact hB.1 k hk
    · intro i hi k hk
      show cpD (t 1) 0 (22 + 22 * p) 22 (66 + 22 * i + k) = _
      rw [cpD_out (Or.inr (by omega))]
      exact c4 i hi k hk
    · intro j hj
      rw [← fm2 j hj]
      show upd (t 3) p 1 j = _
      unfold upd
      split
      · rfl
      · exact hk3 j hj
    · show DOK (if j = p then δ else K j) P ∧ ∀ i, i < 22 → cpD (t 1) 0 (22 + 22 * p) 22 (22 + 22 * j + i) = dv (if j = p then δ else K j) i
      by_cases ej : j = p
      · subst ej
        rw [if_pos rfl]
        refine ⟨hB.2, fun i hi => ?_⟩
        show cpD (t 1) 0 (22 + 22 * j) 22 (22 + 22 * j + i) = _
        rw [cpD_in ⟨by omega, by omega⟩, Nat.zero_add, Nat.add_sub_cancel_left]
        exact hB.1 i hi
      · rw [if_neg ej]
        have hk2 : ¬ t 3 j = 0 := fun h => hk (show upd (t 3) p 1 j = 0 by rw [upd_ne ej]; exact h)
        obtain ⟨d1, d2⟩ := hkd j hj hk2
        refine ⟨d1, fun i hi => ?_⟩
        show cpD (t 1) 0 (22 + 22 * p) 22 (22 + 22 * j + i) = _
        rw [cpD_out (by omega)]
        exact d2 i hi
  · rw [if_neg e0] at q
    obtain ⟨rfl, rfl⟩ := q
    exact ⟨_, rfl, bot_no hI (hm M hM) (fun r2 M2 z => by rw [if_neg e0] at z; exact z)⟩
set_option maxHeartbeats 4000000 in
set_option maxRecDepth 100000 in
theorem b_back {M : Nat → xE} (hI : INV M) {a : Int32} : BotI mX10_back mX11_back [.int a] M := by
  obtain ⟨kb, τ, tx, δ, tc, tw, sz, nx, Dp, K, Bb, sb, t, u, P, W, G, N, Bs, Bw, hC, hM, hA, hB, hc, hd, he, hf, hg, hh⟩ := id hI
  obtain ⟨cx, ct, ctx, ⟨τd, cdr⟩, cd, cpa, cke, cpl, cma, cch, cco, cwo, cba⟩ := id hC
  have hP := rtP hA.1
  have hW := rtW hA.1
  have hG5 := rtG hA.1
  have hP0 := hA.2.1.1
  have hW0 := hA.2.1.2.1
  have hG0 := hA.2.1.2.2.1
  obtain ⟨ce, hce, hce0⟩ := hB.2.2.2.2.1
  have hl := at11 hM
  refine ⟨_, c_back (n := 114) (by omega) cx cd cke hc.1 hc.2.1 cpa, fun r1 M1 q => ?_⟩
  have hm := fun (M1 : Nat → xE) (hM1 : oX11 99 t u M1) => c_m_back (n := 114) (by omega) hM1 (a := a)
  by_cases e0 : inB a 2 = true
  · obtain ⟨⟨m, hm4, rfl, hk3⟩, hkd⟩ := id hd
    obtain ⟨p, hp, rfl⟩ := vp_in_of (inB_t.mp e0) (by decide)
    have hcp : (nI p).toNatClampNeg = p := nI_clamp (by omega)
    rw [if_pos e0, hcp] at q
    rw [hcp] at hm
    by_cases e1 : bo (nI m) (nI p) = 0
    · rw [if_pos e1] at q
      obtain ⟨rfl, rfl⟩ := q
      exact ⟨_, rfl, bot_no hI (hm M hM) (fun r2 M2 z => by rw [if_pos e0, if_pos ((hk3 p hp).trans e1)] at z; exact z)⟩
    · rw [if_neg e1] at q
      obtain ⟨rfl, q1, q2, q3⟩ := q
      have e2 : ¬ t 3 p = 0 := fun h => e1 ((hk3 p hp).symm.trans h)
      obtain ⟨d1, d2⟩ := hkd p hp e2
      refine ⟨_, rfl, at11 (hM.up q3 (by omega)), _, hm M1 (hM.up q3 (by omega)), fun r2 M2 z => ?_⟩
      rw [if_pos e0, if_neg e2] at z
      obtain ⟨rfl, z1, z2⟩ := z
      refine ⟨?_, _, τ, tx, K p, tc, tw, 0, nx, Dp, K, Bb, sb, _, u, P, W, G, N, Bs, Bw, (wc_day hC q1 q2 q3).dn z2, z1, hA, ⟨?_, d1⟩, ⟨by omega, hc.2.1, rfl, fun i hi => by omega, fun i hi => by omega⟩, ⟨hd.1, fun j hj hk => ?_⟩, he, hf, hg, hh⟩
      · rw [d2 20 (by omega)]; rfl
      · intro k hk
        show cpD (t 1) (22 + 22 * p) 0 22 k = _
        rw [cpD_in ⟨Nat.zero_le _, by omega⟩, Nat.sub_zero]
        exact d2 k hk
      · obtain ⟨d3, d4⟩ := hkd j hj hk
        refine ⟨d3, fun i hi => ?_⟩
        show cpD (t 1) (22 + 22 * p) 0 22 (22 + 22 * j + i) = _
        rw [cpD_out (Or.inr (by omega))]
        exact d4 i hi
  · rw [if_neg e0] at q
    obtain ⟨rfl, rfl⟩ := q
    exact ⟨_, rfl, bot_no hI (hm M hM) (fun r2 M2 z => by rw [if_neg e0] at z; exact z)⟩
