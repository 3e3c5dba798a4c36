set_option maxHeartbeats 4000000 in
set_option maxRecDepth 100000 in
theorem b_plan {M : Nat → xE} (hI : INV M) : BotI mX10_plan mX11_plan [] M := by
  obtain ⟨kb, τ, tx, δ, tc, tw, sz, nx, Dp, K, Bb, sb, t, u, P, W, G, N, Bs, Bw, hC, hM, hA, hB, hc, hd, he, hf, hg, hh⟩ := id hI
  obtain ⟨cx, ct, ctx, ⟨τd, cdr⟩, cd, cpa, cke, cpl, cma, cch, cco, cwo, cba⟩ := id hC
  have hP := rtP hA.1
  have hW := rtW hA.1
  have hG5 := rtG hA.1
  have hP0 := hA.2.1.1
  have hW0 := hA.2.1.2.1
  have hG0 := hA.2.1.2.2.1
  obtain ⟨ce, hce, hce0⟩ := hB.2.2.2.2.1
  have hl := at11 hM
  refine ⟨_, c_plan (n := 114) (by omega) cx ct cd hP hP0 hW hW0 cpl (fun k hk => (hA.2.2.2.1 k hk).2.2.2), fun r1 M1 q => ?_⟩
  obtain ⟨⟨t', q0, rfl⟩, q1, q2⟩ := q
  have hM1 := hM.up q2 (by omega)
  refine ⟨_, rfl, at11 hM1, _, c_m_plan (n := 114) (by omega) hM1 hA.1 hB.1, fun r2 M2 z => ?_⟩
  obtain ⟨rfl, ⟨l', b', z1⟩, z2⟩ := z
  exact ⟨by rw [kPlan_eq hP hW hA.2 hB.2.1 q0], kb, τ, tx, δ, tc, tw, sz, nx, Dp, K, Bb, sb, _, u, P, W, G, N, Bs, Bw, (wc_pl hC q1 q2).dn z2, z1, hA, hB, hc, hd, he, hf, hg, hh⟩
set_option maxHeartbeats 4000000 in
set_option maxRecDepth 100000 in
theorem b_shortest {M : Nat → xE} (hI : INV M) : BotI mX10_shortest mX11_shortest [] M := by
  obtain ⟨kb, τ, tx, δ, tc, tw, sz, nx, Dp, K, Bb, sb, t, u, P, W, G, N, Bs, Bw, hC, hM, hA, hB, hc, hd, he, hf, hg, hh⟩ := id hI
  obtain ⟨cx, ct, ctx, ⟨τd, cdr⟩, cd, cpa, cke, cpl, cma, cch, cco, cwo, cba⟩ := id hC
  have hP := rtP hA.1
  have hW := rtW hA.1
  have hG5 := rtG hA.1
  have hP0 := hA.2.1.1
  have hW0 := hA.2.1.2.1
  have hG0 := hA.2.1.2.2.1
  obtain ⟨ce, hce, hce0⟩ := hB.2.2.2.2.1
  have hl := at11 hM
  refine ⟨_, c_shortest (n := 114) (by omega) cx ct cd hP hP0 hW hW0 cpl (fun k hk => (hA.2.2.2.1 k hk).2.2.2), fun r1 M1 q => ?_⟩
  obtain ⟨⟨t', q0, rfl⟩, q1, q2⟩ := q
  have hM1 := hM.up q2 (by omega)
  refine ⟨_, rfl, at11 hM1, _, c_m_shortest (n := 114) (by omega) hM1 hA.1 hB.1, fun r2 M2 z => ?_⟩
  obtain ⟨rfl, ⟨l', b', z1⟩, z2⟩ := z
  exact ⟨by rw [kShort_eq hP hW hA.2 hB.2.1 q0], kb, τ, tx, δ, tc, tw, sz, nx, Dp, K, Bb, sb, _, u, P, W, G, N, Bs, Bw, (wc_pl hC q1 q2).dn z2, z1, hA, hB, hc, hd, he, hf, hg, hh⟩
set_option maxHeartbeats 4000000 in
set_option maxRecDepth 100000 in
theorem b_planOf {M : Nat → xE} (hI : INV M) {a : Int32} : BotI mX10_planOf mX11_planOf [.int a] M := by
  obtain ⟨kb, τ, tx, δ, tc, tw, sz, nx, Dp, K, Bb, sb, t, u, P, W, G, N, Bs, Bw, hC, hM, hA, hB, hc, hd, he, hf, hg, hh⟩ := id hI
  obtain ⟨cx, ct, ctx, ⟨τd, cdr⟩, cd, cpa, cke, cpl, cma, cch, cco, cwo, cba⟩ := id hC
  have hP := rtP hA.1
  have hW := rtW hA.1
  have hG5 := rtG hA.1
  have hP0 := hA.2.1.1
  have hW0 := hA.2.1.2.1
  have hG0 := hA.2.1.2.2.1
  obtain ⟨ce, hce, hce0⟩ := hB.2.2.2.2.1
  have hl := at11 hM
  refine ⟨_, c_planOf (n := 114) (by omega) cx ct cd hP hP0 hW hW0 cpl (fun k hk => (hA.2.2.2.1 k hk).2.2.2), fun r1 M1 q => ?_⟩
  have hm := fun (M1 : Nat → xE) (hM1 : oX11 99 t u M1) => c_m_planOf (n := 114) (by omega) hM1 hA.1 hB.1 (a := a)
  by_cases e0 : inB a W = true
  · rw [if_pos e0] at q
    obtain ⟨⟨t', q0, rfl⟩, q1, q2⟩ := q
    have hM1 := hM.up q2 (by omega)
    refine ⟨_, rfl, at11 hM1, _, hm M1 hM1, fun r2 M2 z => ?_⟩
    rw [if_pos e0] at z
    obtain ⟨rfl, ⟨l', b', z1⟩, z2⟩ := z
    obtain ⟨p, hp, rfl⟩ := vp_in_of (inB_t.mp e0) (by omega)
    have hcp : (nI p).toNatClampNeg = p := nI_clamp (by omega)
    exact ⟨by rw [hcp, kPlanOf_eq hP hW hA.2 hB.2.1 q0 hp], kb, τ, tx, δ, tc, tw, sz, nx, Dp, K, Bb, sb, _, u, P, W, G, N, Bs, Bw, (wc_pl hC q1 q2).dn z2, z1, hA, hB, hc, hd, he, hf, hg, hh⟩
  · rw [if_neg e0] at q
    obtain ⟨rfl, rfl⟩ := q
    exact ⟨_, rfl, bot_no hI (hm M hM) (fun r2 M2 z => by rw [if_neg e0] at z; exact z)⟩
set_option maxHeartbeats 4000000 in
set_option maxRecDepth 100000 in
theorem b_sale {M : Nat → xE} (hI : INV M) {a b : Int32} : BotI mX10_sale mX11_sale [.int a, .int b] M := by
  obtain ⟨kb, τ, tx, δ, tc, tw, sz, nx, Dp, K, Bb, sb, t, u, P, W, G, N, Bs, Bw, hC, hM, hA, hB, hc, hd, he, hf, hg, hh⟩ := id hI
  obtain ⟨cx, ct, ctx, ⟨τd, cdr⟩, cd, cpa, cke, cpl, cma, cch, cco, cwo, cba⟩ := id hC
  have hP := rtP hA.1
  have hW := rtW hA.1
  have hG5 := rtG hA.1
  have hP0 := hA.2.1.1
  have hW0 := hA.2.1.2.1
  have hG0 := hA.2.1.2.2.1
  obtain ⟨ce, hce, hce0⟩ := hB.2.2.2.2.1
  have hl := at11 hM
  refine ⟨_, c_sale (n := 114) (by omega) cx ct cd hG5 hG0 (price_in hA.2 hG5 hB.2) cma, fun r1 M1 q => ?_⟩
  obtain ⟨rfl, q1, q2⟩ := q
  have hM1 := hM.up q2 (by omega)
  refine ⟨_, rfl, at11 hM1, _, c_m_sale (n := 114) (by omega) hM1 hA.1 hB.1 hA.2 hce hce0, fun r2 M2 z => ?_⟩
  obtain ⟨rfl, rfl⟩ := z
  exact ⟨by rw [kSale_eq hG5 (price_in hA.2 hG5 hB.2)], kb, τ, tx, δ, tc, tw, sz, nx, Dp, K, Bb, sb, t, u, P, W, G, N, Bs, Bw, wc_ma hC q1 q2, hM1, hA, hB, hc, hd, he, hf, hg, hh⟩
set_option maxHeartbeats 4000000 in
set_option maxRecDepth 100000 in
theorem b_pairs {M : Nat → xE} (hI : INV M) {a : Int32} : BotI mX10_pairs mX11_pairs [.int a] M := by
  obtain ⟨kb, τ, tx, δ, tc, tw, sz, nx, Dp, K, Bb, sb, t, u, P, W, G, N, Bs, Bw, hC, hM, hA, hB, hc, hd, he, hf, hg, hh⟩ := id hI
  obtain ⟨cx, ct, ctx, ⟨τd, cdr⟩, cd, cpa, cke, cpl, cma, cch, cco, cwo, cba⟩ := id hC
  have hP := rtP hA.1
  have hW := rtW hA.1
  have hG5 := rtG hA.1
  have hP0 := hA.2.1.1
  have hW0 := hA.2.1.2.1
  have hG0 := hA.2.1.2.2.1
  obtain ⟨ce, hce, hce0⟩ := hB.2.2.2.2.1
  have hl := at11 hM
  refine ⟨_, c_pairs (n := 114) (by omega) cx ct cd hP hP0 cco, fun r1 M1 q => ?_⟩
  obtain ⟨rfl, q1, q2⟩ := q
  have hM1 := hM.up q2 (by omega)
  refine ⟨_, rfl, at11 hM1, _, c_m_pairs (n := 114) (by omega) hM1 hA.1 hB.1, fun r2 M2 z => ?_⟩
  obtain ⟨rfl, ⟨t', z1, z3⟩, z2⟩ := z
  refine ⟨by rw [kPairs_eq hP], kb, τ, tx, δ, tc, tw, sz, nx, Dp, K, Bb, sb, t', u, P, W, G, N, Bs, Bw, (wc_co hC q1 q2).dn z2, z1, ?_⟩
  rw [z3 0 (by omega), z3 1 (by omega), z3 2 (by omega), z3 3 (by omega), z3 4 (by omega), z3 5 (by omega), z3 18 (by omega), z3 19 (by omega), z3 20 (by omega), z3 21 (by omega), z3 22 (by omega), z3 23 (by omega), z3 27 (by omega), z3 28 (by omega)]
  exact ⟨hA, hB, hc, hd, he, hf, hg, hh⟩
set_option maxHeartbeats 4000000 in
set_option maxRecDepth 100000 in
theorem b_odds {M : Nat → xE} (hI : INV M) {a b c : Int32} : BotL mX10_odds mX11_odds [.int a, .int b, .int c] M := by
  obtain ⟨kb, τ, tx, δ, tc, tw, sz, nx, Dp, K, Bb, sb, t, u, P, W, G, N, Bs, Bw, hC, hM, hA, hB, hc, hd, he, hf, hg, hh⟩ := id hI
  obtain ⟨cx, ct, ctx, ⟨τd, cdr⟩, cd, cpa, cke, cpl, cma, cch, cco, cwo, cba⟩ := id hC
  have hP := rtP hA.1
  have hW := rtW hA.1
  have hG5 := rtG hA.1
  have hP0 := hA.2.1.1
  have hW0 := hA.2.1.2.1
  have hG0 := hA.2.1.2.2.1
  obtain ⟨ce, hce, hce0⟩ := hB.2.2.2.2.1
  have hl := at11 hM
  obtain ⟨wd, hwd, hwd0⟩ := vp_in_of hB.2.2.2.1 (by decide)
  refine ⟨_, c_odds (n := 114) (by omega) cx ct cd (fun k hk => (hA.2.2.2.2.2 k hk).1) cch hB.2.2.2.1, fun r1 M1 q => ?_⟩
  obtain ⟨rfl, q1, q2⟩ := q
  have hM1 := hM.up q2 (by omega)
  refine ⟨_, rfl, at11 hM1, _, c_m_odds (n := 114) (by omega) hM1 hA.1 hB.1 hA.2 hwd hwd0, fun r2 M2 z => ?_⟩
  obtain ⟨rfl, ⟨u', z1⟩, z2⟩ := z
  exact ⟨by rw [kOdds_eq hA.2 hB.2.2.2.1], kb, τ, tx, δ, tc, tw, sz, nx, Dp, K, Bb, sb, t, u', P, W, G, N, Bs, Bw, (wc_ch hC q1 q2).dn z2, z1, hA, hB, hc, hd, he, hf, hg, hh⟩
set_option maxHeartbeats 4000000 in
set_option maxRecDepth 100000 in
theorem b_likely {M : Nat → xE} (hI : INV M) {a b c : Int32} : BotL mX10_likely mX11_likely [.int a, .int b, .int c] M := by
  obtain ⟨kb, τ, tx, δ, tc, tw, sz, nx, Dp, K, Bb, sb, t, u, P, W, G, N, Bs, Bw, hC, hM, hA, hB, hc, hd, he, hf, hg, hh⟩ := id hI
  obtain ⟨cx, ct, ctx, ⟨τd, cdr⟩, cd, cpa, cke, cpl, cma, cch, cco, cwo, cba⟩ := id hC
  have hP := rtP hA.1
  have hW := rtW hA.1
  have hG5 := rtG hA.1
  have hP0 := hA.2.1.1
  have hW0 := hA.2.1.2.1
  have hG0 := hA.2.1.2.2.1
  obtain ⟨ce, hce, hce0⟩ := hB.2.2.2.2.1
  have hl := at11 hM
  refine ⟨_, c_likely (n := 114) (by omega) cx ct (fun k hk => (hA.2.2.2.2.2 k hk).1) cch hf.1 hf.2.1, fun r1 M1 q => ?_⟩
  obtain ⟨rfl, q1, q2⟩ := q
  have hM1 := hM.up q2 (by omega)
  refine ⟨_, rfl, at11 hM1, _, c_m_likely (n := 114) (by omega) hM1 hA.1 hA.2 hf.1 hf.2.2.1, fun r2 M2 z => ?_⟩
  obtain ⟨rfl, ⟨u', z1⟩, z2⟩ := z
  exact ⟨by rw [kLikely_eq hA.2 (show SGN tc t Bs from hf.2.2.2)], kb, τ, tx, δ, tc, tw, sz, nx, Dp, K, Bb, sb, t, u', P, W, G, N, Bs, Bw, (wc_ch hC q1 q2).dn z2, z1, hA, hB, hc, hd, he, hf, hg, hh⟩
set_option maxHeartbeats 4000000 in
set_option maxRecDepth 100000 in
theorem b_sign {M : Nat → xE} (hI : INV M) {a b c : Int32} : BotI mX10_sign mX11_sign [.int a, .int b, .int c] M := by
  obtain ⟨kb, τ, tx, δ, tc, tw, sz, nx, Dp, K, Bb, sb, t, u, P, W, G, N, Bs, Bw, hC, hM, hA, hB, hc, hd, he, hf, hg, hh⟩ := id hI
  obtain ⟨cx, ct, ctx, ⟨τd, cdr⟩, cd, cpa, cke, cpl, cma, cch, cco, cwo, cba⟩ := id hC
  have hP := rtP hA.1
  have hW := rtW hA.1
  have hG5 := rtG hA.1
  have hP0 := hA.2.1.1
  have hW0 := hA.2.1.2.1
  have hG0 := hA.2.1.2.2.1
  obtain ⟨ce, hce, hce0⟩ := hB.2.2.2.2.1
  have hl := at11 hM
  refine ⟨_, c_sign (n := 114) (by omega) cx cch hf.1 hf.2.1, fun r1 M1 q => ?_⟩
  have hm := fun (M1 : Nat → xE) (hM1 : oX11 99 t u M1) => c_m_sign (n := 114) (by omega) hM1 hf.1 hf.2.2.1 (a := a) (b := b) (c := c)
  by_cases e0 : inB a 4 = true
  · by_cases e1 : inB b 10 = true
    · by_cases e2 : inB c 2 = true
      · by_cases e3 : Bs < 6
        · rw [if_pos e0, if_pos e1, if_pos e2, if_pos e3] at q
          obtain ⟨rfl, q1, q2⟩ := q
          refine ⟨_, rfl, at11 (hM.up q2 (by omega)), _, hm M1 (hM.up q2 (by omega)), fun r2 M2 z => ?_⟩
          rw [if_pos e0, if_pos e1, if_pos e2, if_pos e3] at z
          obtain ⟨rfl, z1, z2⟩ := z
          refine ⟨rfl, kb, τ, tx, δ, _, tw, sz, nx, Dp, K, Bb, sb, _, u, P, W, G, N, Bs + 1, Bw, (wc_ch hC q1 q2).dn z2, z1, hA, hB, hc, hd, he, ⟨by omega, rfl, rfl, fun i hi => ?_⟩, hg, hh⟩
          show upd (tc 1) Bs a i = upd (t 19) Bs a i ∧ upd (tc 2) Bs b i = upd (t 20) Bs b i ∧ upd (tc 3) Bs c i = upd (t 21) Bs c i ∧ vp_in (upd (t 21) Bs c i) 2
          unfold upd
          by_cases ei : i = Bs
          · simp only [if_pos ei]; exact ⟨trivial, trivial, trivial, inB_t.mp e2⟩
          · simp only [if_neg ei]; exact hf.2.2.2 i (by omega)
        · rw [if_pos e0, if_pos e1, if_pos e2, if_neg e3] at q
          obtain ⟨rfl, rfl⟩ := q
          exact ⟨_, rfl, bot_no hI (hm M hM) (fun r2 M2 z => by rw [if_pos e0, if_pos e1, if_pos e2, if_neg e3] at z; exact z)⟩
      · rw [if_pos e0, if_pos e1, if_neg e2] at q
        obtain ⟨rfl, rfl⟩ := q
        exact ⟨_, rfl, bot_no hI (hm M hM) (fun r2 M2 z => by rw [if_pos e0, if_pos e1, if_neg e2] at z; exact z)⟩
    · rw [if_pos e0, if_neg e1] at q
      obtain ⟨rfl, rfl⟩ := q
      exact ⟨_, rfl, bot_no hI (hm M hM) (fun r2 M2 z => by rw [if_pos e0, if_neg e1] at z; exact z)⟩
  · rw [if_neg e0] at q
    obtain ⟨rfl, rfl⟩ := q
    exact ⟨_, rfl, bot_no hI (hm M hM) (fun r2 M2 z => by rw [if_neg e0] at z; exact z)⟩
set_option maxHeartbeats 4000000 in
set_option maxRecDepth 100000 in
theorem b_forget {M : Nat → xE} (hI : INV M) : BotI mX10_forget mX11_forget [] M := by
  obtain ⟨kb, τ, tx, δ, tc, tw, sz, nx, Dp, K, Bb, sb, t, u, P, W, G, N, Bs, Bw, hC, hM, hA, hB, hc, hd, he, hf, hg, hh⟩ := id hI
  obtain ⟨cx, ct, ctx, ⟨τd, cdr⟩, cd, cpa, cke, cpl, cma, cch, cco, cwo, cba⟩ := id hC
  have hP := rtP hA.1
  have hW := rtW hA.1
  have hG5 := rtG hA.1
  have hP0 := hA.2.1.1
  have hW0 := hA.2.1.2.1
  have hG0 := hA.2.1.2.2.1
  obtain ⟨ce, hce, hce0⟩ := hB.2.2.2.2.1
  have hl := at11 hM
  refine ⟨_, c_forget (n := 114) (by omega) cx cch hf.1 hf.2.1, fun r1 M1 q => ?_⟩
  have hm := fun (M1 : Nat → xE) (hM1 : oX11 99 t u M1) => c_m_forget (n := 114) (by omega) hM1 hf.1 hf.2.2.1
  obtain ⟨rfl, q1, q2⟩ := q
  refine ⟨_, rfl, at11 (hM.up q2 (by omega)), _, hm M1 (hM.up q2 (by omega)), fun r2 M2 z => ?_⟩
  obtain ⟨rfl, z1, z2⟩ := z
  exact ⟨rfl, kb, τ, tx, δ, _, tw, sz, nx, Dp, K, Bb, sb, _, u, P, W, G, N, 0, Bw, (wc_ch hC q1 q2).dn z2, z1, hA, hB, hc, hd, he, ⟨by omega, rfl, rfl, fun i hi => by omega⟩, hg, hh⟩
set_option maxHeartbeats 4000000 in
set_option maxRecDepth 100000 in
theorem b_wording {M : Nat → xE} (hI : INV M) {a : Int32} : BotI mX10_wording mX11_wording [.int a] M := by
  obtain ⟨kb, τ, tx, δ, tc, tw, sz, nx, Dp, K, Bb, sb, t, u, P, W, G, N, Bs, Bw, hC, hM, hA, hB, hc, hd, he, hf, hg, hh⟩ := id hI
  obtain ⟨cx, ct, ctx, ⟨τd, cdr⟩, cd, cpa, cke, cpl, cma, cch, cco, cwo, cba⟩ := id hC
  have hP := rtP hA.1
  have hW := rtW hA.1
  have hG5 := rtG hA.1
  have hP0 := hA.2.1.1
  have hW0 := hA.2.1.2.1
  have hG0 := hA.2.1.2.2.1
  obtain ⟨ce, hce, hce0⟩ := hB.2.2.2.2.1
  have hl := at11 hM
  refine ⟨_, c_wording (n := 114) (by omega) cx cwo hg.1 hg.2.1, fun r1 M1 q => ?_⟩
  have hm := fun (M1 : Nat → xE) (hM1 : oX11 99 t u M1) => c_m_wording (n := 114) (by omega) hM1 hg.1 hg.2.2.1 (a := a)
  by_cases e0 : inB a 64 = true
  · have hw := word_eq hg.1 hg.2.2.2 e0
    by_cases e1 : wfd (t 23) a Bw = true
    · rw [if_pos e0, if_neg (fun h => hw.mp h e1)] at q
      obtain ⟨rfl, rfl⟩ := q
      exact ⟨_, rfl, bot_no hI (hm M hM) (fun r2 M2 z => by rw [if_pos e0, if_pos e1] at z; exact z)⟩
    · by_cases e2 : Bw < 6
      · rw [if_pos e0, if_pos (hw.mpr e1), if_pos e2] at q
        obtain ⟨rfl, q1, q2⟩ := q
        refine ⟨_, rfl, at11 (hM.up q2 (by omega)), _, hm M1 (hM.up q2 (by omega)), fun r2 M2 z => ?_⟩
        rw [if_pos e0, if_neg e1, if_pos e2] at z
        obtain ⟨rfl, z1, z2⟩ := z
        refine ⟨rfl, kb, τ, tx, δ, tc, _, sz, nx, Dp, K, Bb, sb, _, u, P, W, G, N, Bs, Bw + 1, (wc_wo hC q1 q2).dn z2, z1, hA, hB, hc, hd, he, hf, ⟨by omega, rfl, rfl, fun i hi => ?_⟩, hh⟩
        show upd (tw 1) Bw a i = upd (t 23) Bw a i ∧ vp_in (upd (t 23) Bw a i) 64
        unfold upd
        by_cases ei : i = Bw
        · simp only [if_pos ei]; exact ⟨trivial, inB_t.mp e0⟩
        · simp only [if_neg ei]; exact hg.2.2.2 i (by omega)
      · rw [if_pos e0, if_pos (hw.mpr e1), if_neg e2] at q
        obtain ⟨rfl, rfl⟩ := q
        exact ⟨_, rfl, bot_no hI (hm M hM) (fun r2 M2 z => by rw [if_pos e0, if_neg e1, if_neg e2] at z; exact z)⟩
  · rw [if_neg e0] at q
    obtain ⟨rfl, rfl⟩ := q
    exact ⟨_, rfl, bot_no hI (hm M hM) (fun r2 M2 z => by rw [if_neg e0] at z; exact z)⟩
set_option maxHeartbeats 4000000 in
set_option maxRecDepth 100000 in
theorem b_mayor {M : Nat → xE} (hI : INV M) {a : Int32} : BotI mX10_mayor mX11_mayor [.int a] M := by
  obtain ⟨kb, τ, tx, δ, tc, tw, sz, nx, Dp, K, Bb, sb, t, u, P, W, G, N, Bs, Bw, hC, hM, hA, hB, hc, hd, he, hf, hg, hh⟩ := id hI
  obtain ⟨cx, ct, ctx, ⟨τd, cdr⟩, cd, cpa, cke, cpl, cma, cch, cco, cwo, cba⟩ := id hC
  have hP := rtP hA.1
  have hW := rtW hA.1
  have hG5 := rtG hA.1
  have hP0 := hA.2.1.1
  have hW0 := hA.2.1.2.1
  have hG0 := hA.2.1.2.2.1
  obtain ⟨ce, hce, hce0⟩ := hB.2.2.2.2.1
  have hl := at11 hM
  obtain ⟨h1, h2, rfl, hO⟩ := hh
  have hv : ∀ b, b < Bb → ∀ j, j < P → vp_in (t 28 (5 * b + j)) 5 := fun b hb j hj => by
    have := vp_in_iff.mp (hO.2.1 b hb j hj)
    exact vp_in_iff.mpr ⟨this.1, by omega⟩
  refine ⟨_, c_mayor (n := 114) (by omega) cx ct hP hP0 h1 cba hv hO.2.2, fun r1 M1 q => ?_⟩
  obtain ⟨rfl, q1, q2⟩ := q
  have hM1 := hM.up q2 (by omega)
  refine ⟨_, rfl, at11 hM1, _, c_m_mayor (n := 114) (by omega) hM1 hA.1 h1 h2 hO, fun r2 M2 z => ?_⟩
  obtain ⟨rfl, rfl⟩ := z
  exact ⟨by rw [kMayor_eq h1 hP hO], kb, τ, tx, δ, tc, tw, sz, nx, Dp, K, Bb, _, t, u, P, W, G, N, Bs, Bw, wc_ba hC q1 q2, hM1, hA, hB, hc, hd, he, hf, hg, ⟨h1, h2, rfl, hO⟩⟩
set_option maxHeartbeats 4000000 in
set_option maxRecDepth 100000 in
theorem b_points {M : Nat → xE} (hI : INV M) {a : Int32} : BotI mX10_points mX11_points [.int a] M := by
  obtain ⟨kb, τ, tx, δ, tc, tw, sz, nx, Dp, K, Bb, sb, t, u, P, W, G, N, Bs, Bw, hC, hM, hA, hB, hc, hd, he, hf, hg, hh⟩ := id hI
  obtain ⟨cx, ct, ctx, ⟨τd, cdr⟩, cd, cpa, cke, cpl, cma, cch, cco, cwo, cba⟩ := id hC
  have hP := rtP hA.1
  have hW := rtW hA.1
  have hG5 := rtG hA.1
  have hP0 := hA.2.1.1
  have hW0 := hA.2.1.2.1
  have hG0 := hA.2.1.2.2.1
  obtain ⟨ce, hce, hce0⟩ := hB.2.2.2.2.1
  have hl := at11 hM
  obtain ⟨h1, h2, rfl, hO⟩ := hh
  have hv : ∀ b, b < Bb → ∀ j, j < P → vp_in (t 28 (5 * b + j)) 5 := fun b hb j hj => by
    have := vp_in_iff.mp (hO.2.1 b hb j hj)
    exact vp_in_iff.mpr ⟨this.1, by omega⟩
  refine ⟨_, c_points (n := 114) (by omega) cx ct hP hP0 h1 cba, fun r1 M1 q => ?_⟩
  obtain ⟨rfl, q1, q2⟩ := q
  have hM1 := hM.up q2 (by omega)
  refine ⟨_, rfl, at11 hM1, _, c_m_points (n := 114) (by omega) hM1 hA.1 h1 h2 hO, fun r2 M2 z => ?_⟩
  obtain ⟨rfl, rfl⟩ := z
  exact ⟨by rw [kPoints_eq hP hO], kb, τ, tx, δ, tc, tw, sz, nx, Dp, K, Bb, _, t, u, P, W, G, N, Bs, Bw, wc_ba hC q1 q2, hM1, hA, hB, hc, hd, he, hf, hg, ⟨h1, h2, rfl, hO⟩⟩
set_option maxHeartbeats 4000000 in
set_option maxRecDepth 100000 in
theorem b_swing {M : Nat → xE} (hI : INV M) : BotI mX10_swing mX11_swing [] M := by
  obtain ⟨kb, τ, tx, δ, tc, tw, sz, nx, Dp, K, Bb, sb, t, u, P, W, G, N, Bs, Bw, hC, hM, hA, hB, hc, hd, he, hf, hg, hh⟩ := id hI
  obtain ⟨cx, ct, ctx, ⟨τd, cdr⟩, cd, cpa, cke, cpl, cma, cch, cco, cwo, cba⟩ := id hC
  have hP := rtP hA.1
  have hW := rtW hA.1
  have hG5 := rtG hA.1
  have hP0 := hA.2.1.1
  have hW0 := hA.2.1.2.1
  have hG0 := hA.2.1.2.2.1
  obtain ⟨ce, hce, hce0⟩ := hB.2.2.2.2.1
  have hl := at11 hM
  obtain ⟨h1, h2, rfl, hO⟩ := hh
  have hv : ∀ b, b < Bb → ∀ j, j < P → vp_in (t 28 (5 * b + j)) 5 := fun b hb j hj => by
    have := vp_in_iff.mp (hO.2.1 b hb j hj)
    exact vp_in_iff.mpr ⟨this.1, by omega⟩
  refine ⟨_, c_swing (n := 114) (by omega) cx ct hP hP0 h1 cba hv hO.2.2, fun r1 M1 q => ?_⟩
  obtain ⟨rfl, q1, q2⟩ := q
  have hM1 := hM.up q2 (by omega)
  refine ⟨_, rfl, at11 hM1, _, c_m_swing (n := 114) (by omega) hM1 hA.1 h1 h2 hO, fun r2 M2 z => ?_⟩
  obtain ⟨rfl, rfl⟩ := z
  exact ⟨by rw [kSwing_eq h1 hP hO], kb, τ, tx, δ, tc, tw, sz, nx, Dp, K, Bb, _, t, u, P, W, G, N, Bs, Bw, wc_ba hC q1 q2, hM1, hA, hB, hc, hd, he, hf, hg, ⟨h1, h2, rfl, hO⟩⟩
set_option maxHeartbeats 4000000 in
set_option maxRecDepth 100000 in
theorem b_ballot {M : Nat → xE} (hI : INV M) {a : Int32} : BotI mX10_ballot mX11_ballot [.int a] M := by
  obtain ⟨kb, τ, tx, δ, tc, tw, sz, nx, Dp, K, Bb, sb, t, u, P, W, G, N, Bs, Bw, hC, hM, hA, hB, hc, hd, he, hf, hg, hh⟩ := id hI
  obtain ⟨cx, ct, ctx, ⟨τd, cdr⟩, cd, cpa, cke, cpl, cma, cch, cco, cwo, cba⟩ := id hC
  have hP := rtP hA.1
  have hW := rtW hA.1
  have hG5 := rtG hA.1
  have hP0 := hA.2.1.1
  have hW0 := hA.2.1.2.1
  have hG0 := hA.2.1.2.2.1
  obtain ⟨ce, hce, hce0⟩ := hB.2.2.2.2.1
  have hl := at11 hM
  obtain ⟨h1, h2, rfl, hO⟩ := hh
  have hv : ∀ b, b < Bb → ∀ j, j < P → vp_in (t 28 (5 * b + j)) 5 := fun b hb j hj => by
    have := vp_in_iff.mp (hO.2.1 b hb j hj)
    exact vp_in_iff.mpr ⟨this.1, by omega⟩
  refine ⟨_, c_ballot (n := 114) (by omega) cx ct hP hP0 h1 cba, fun r1 M1 q => ?_⟩
  have hm := fun (M1 : Nat → xE) (hM1 : oX11 99 t u M1) => c_m_ballot (n := 114) (by omega) hM1 hA.1 h1 h2 (a := a)
  have hng : ∀ m : Nat, m < 2 ^ 31 → ¬ nI m < 0 := fun m hm' h => by
    rw [fa_lt, nI_toInt hm'] at h
    exact absurd h (show ¬ (m : Int) < 0 by omega)
  rcases q with ⟨e0, rfl, rfl⟩ | ⟨m, hm1, rfl, q2, q⟩
  · refine ⟨_, rfl, bot_no hI (hm M hM) (fun r2 M2 z => ?_)⟩
    rcases z with ⟨-, z⟩ | ⟨m, hm1, rfl, z⟩
    · exact z
    · exact absurd e0 (hng m hm1)
  · have hM1 := hM.up q2 (by omega)
    have hk := kBallot_eq m P
    have hz : ∀ (r2 : Option Value) (M2 : Nat → xE) (R : Prop), ((nI m < 0 ∧ M1 = M2 ∧ some (.int (-3)) = r2) ∨ ∃ m' : Nat, m' < 2 ^ 31 ∧ nI m = nI m' ∧ (if mBallot m' P = true then (if P = 0 then (M1 = M2 ∧ some (.int (-4)) = r2) else (if Bb < 9 then (some (.int (nI (Bb + 1))) = r2 ∧ oX11 99 (fun z => if z = 27 then (fun _ => nI (Bb + 1)) else if z = 28 then baPut m' P Bb (t 28) else t z) u M2 ∧ xfr 99 114 M1 M2) else (M1 = M2 ∧ some (.int (-5)) = r2))) else (M1 = M2 ∧ some (.int (-3)) = r2))) → ((if mBallot m P = true then (if P = 0 then (M1 = M2 ∧ some (.int (-4)) = r2) else (if Bb < 9 then (some (.int (nI (Bb + 1))) = r2 ∧ oX11 99 (fun z => if z = 27 then (fun _ => nI (Bb + 1)) else if z = 28 then baPut m P Bb (t 28) else t z) u M2 ∧ xfr 99 114 M1 M2) else (M1 = M2 ∧ some (.int (-5)) = r2))) else (M1 = M2 ∧ some (.int (-3)) = r2)) → R) → R := by
      intro r2 M2 R z f
      rcases z with ⟨z, -⟩ | ⟨m', hm', em, z⟩
      · exact absurd z (hng m hm1)
      · obtain rfl := (nIne hm1 hm').mp em
        exact f z
    have hIs : oBa Bb (t 28) M1 → INV M1 := fun q1 => ⟨kb, τ, tx, δ, tc, tw, sz, nx, Dp, K, Bb, _, t, u, P, W, G, N, Bs, Bw, wc_ba hC q1 q2, hM1, hA, hB, hc, hd, he, hf, hg, ⟨h1, h2, rfl, hO⟩⟩
    by_cases e1 : kBallot m P = true
    · rw [if_pos e1] at q
      by_cases e2 : P = 0
      · rw [if_pos e2] at q
        obtain ⟨rfl, q1⟩ := q
        exact ⟨_, rfl, bot_no (hIs q1) (hm M1 hM1) (fun r2 M2 z => hz r2 M2 _ z (fun z => by rw [if_pos (hk ▸ e1), if_pos e2] at z; exact z))⟩
      · rw [if_neg e2] at q
        by_cases e3 : Bb < 9
        · rw [if_pos e3] at q
          obtain ⟨rfl, q1⟩ := q
          refine ⟨_, rfl, at11 hM1, _, hm M1 hM1, fun r2 M2 z => hz r2 M2 _ z (fun z => ?_)⟩
          rw [if_pos (hk ▸ e1), if_neg e2, if_pos e3] at z
          obtain ⟨rfl, z1, z2⟩ := z
          exact ⟨rfl, kb, τ, tx, δ, tc, tw, sz, nx, Dp, K, Bb + 1, _, _, u, P, W, G, N, Bs, Bw, (wc_ba hC q1 q2).dn z2, z1, hA, hB, hc, hd, he, hf, hg, ⟨by omega, rfl, rfl, BOK_put hP (by omega) hO e1⟩⟩
        · rw [if_neg e3] at q
          obtain ⟨rfl, q1⟩ := q
          exact ⟨_, rfl, bot_no (hIs q1) (hm M1 hM1) (fun r2 M2 z => hz r2 M2 _ z (fun z => by rw [if_pos (hk ▸ e1), if_neg e2, if_neg e3] at z; exact z))⟩
    · rw [if_neg e1] at q
      obtain ⟨rfl, q1⟩ := q
      exact ⟨_, rfl, bot_no (hIs q1) (hm M1 hM1) (fun r2 M2 z => hz r2 M2 _ z (fun z => by rw [if_neg (hk ▸ e1)] at z; exact z))⟩
