set_option maxHeartbeats 4000000 in
set_option maxRecDepth 100000 in
theorem b_one {M : Nat → xE} (hI : INV M) {a b : Int32} : BotI mX10_one mX11_one [.int a, .int b] M := by
  obtain ⟨kb, τ, tx, δ, tc, tw, sz, nx, Dp, K, Bb, sb, t, u, P, W, G, N, Bs, Bw, hC, hM, hA, hB, hc, hd, he, hf, hg, hh⟩ := id hI
  obtain ⟨cx, ct, ctx, ⟨τd, cdr⟩, cd, cpa, cke, cpl, cma, cch, cco, cwo, cba⟩ := id hC
  have hP := rtP hA.1
  have hW := rtW hA.1
  have hG5 := rtG hA.1
  have hP0 := hA.2.1.1
  have hW0 := hA.2.1.2.1
  have hG0 := hA.2.1.2.2.1
  obtain ⟨ce, hce, hce0⟩ := hB.2.2.2.2.1
  have hl := at11 hM
  exact bot_rd hI (c_one (n := 114) (by omega) cx ct cd hP hP0) (c_m_one (n := 114) (by omega) hM hA.1 hB.1) rfl
set_option maxHeartbeats 4000000 in
set_option maxRecDepth 100000 in
theorem b_work {M : Nat → xE} (hI : INV M) {a b : Int32} : BotI mX10_work mX11_work [.int a, .int b] M := by
  obtain ⟨kb, τ, tx, δ, tc, tw, sz, nx, Dp, K, Bb, sb, t, u, P, W, G, N, Bs, Bw, hC, hM, hA, hB, hc, hd, he, hf, hg, hh⟩ := id hI
  obtain ⟨cx, ct, ctx, ⟨τd, cdr⟩, cd, cpa, cke, cpl, cma, cch, cco, cwo, cba⟩ := id hC
  have hP := rtP hA.1
  have hW := rtW hA.1
  have hG5 := rtG hA.1
  have hP0 := hA.2.1.1
  have hW0 := hA.2.1.2.1
  have hG0 := hA.2.1.2.2.1
  obtain ⟨ce, hce, hce0⟩ := hB.2.2.2.2.1
  have hl := at11 hM
  exact bot_rd hI (c_work (n := 114) (by omega) cx ct cd hW hW0) (c_m_work (n := 114) (by omega) hM hA.1 hB.1) rfl
set_option maxHeartbeats 4000000 in
set_option maxRecDepth 100000 in
theorem b_good {M : Nat → xE} (hI : INV M) {a b : Int32} : BotI mX10_good mX11_good [.int a, .int b] M := by
  obtain ⟨kb, τ, tx, δ, tc, tw, sz, nx, Dp, K, Bb, sb, t, u, P, W, G, N, Bs, Bw, hC, hM, hA, hB, hc, hd, he, hf, hg, hh⟩ := id hI
  obtain ⟨cx, ct, ctx, ⟨τd, cdr⟩, cd, cpa, cke, cpl, cma, cch, cco, cwo, cba⟩ := id hC
  have hP := rtP hA.1
  have hW := rtW hA.1
  have hG5 := rtG hA.1
  have hP0 := hA.2.1.1
  have hW0 := hA.2.1.2.1
  have hG0 := hA.2.1.2.2.1
  obtain ⟨ce, hce, hce0⟩ := hB.2.2.2.2.1
  have hl := at11 hM
  exact bot_rd hI (c_good (n := 114) (by omega) cx ct cd hG5 hG0) (c_m_good (n := 114) (by omega) hM hA.1 hB.1 hA.2 hce hce0) rfl
set_option maxHeartbeats 4000000 in
set_option maxRecDepth 100000 in
theorem b_goodAs {M : Nat → xE} (hI : INV M) {a b : Int32} : BotI mX10_goodAs mX11_goodAs [.int a, .int b] M := by
  obtain ⟨kb, τ, tx, δ, tc, tw, sz, nx, Dp, K, Bb, sb, t, u, P, W, G, N, Bs, Bw, hC, hM, hA, hB, hc, hd, he, hf, hg, hh⟩ := id hI
  obtain ⟨cx, ct, ctx, ⟨τd, cdr⟩, cd, cpa, cke, cpl, cma, cch, cco, cwo, cba⟩ := id hC
  have hP := rtP hA.1
  have hW := rtW hA.1
  have hG5 := rtG hA.1
  have hP0 := hA.2.1.1
  have hW0 := hA.2.1.2.1
  have hG0 := hA.2.1.2.2.1
  obtain ⟨ce, hce, hce0⟩ := hB.2.2.2.2.1
  have hl := at11 hM
  exact bot_rd hI (c_goodAs (n := 114) (by omega) cx ct cd hG5 hG0) (c_m_goodAs (n := 114) (by omega) hM hA.1 hB.1 hA.2 hce hce0) rfl
set_option maxHeartbeats 4000000 in
set_option maxRecDepth 100000 in
theorem b_as {M : Nat → xE} (hI : INV M) {a b : Int32} : BotI mX10_as mX11_as [.int a, .int b] M := by
  obtain ⟨kb, τ, tx, δ, tc, tw, sz, nx, Dp, K, Bb, sb, t, u, P, W, G, N, Bs, Bw, hC, hM, hA, hB, hc, hd, he, hf, hg, hh⟩ := id hI
  obtain ⟨cx, ct, ctx, ⟨τd, cdr⟩, cd, cpa, cke, cpl, cma, cch, cco, cwo, cba⟩ := id hC
  have hP := rtP hA.1
  have hW := rtW hA.1
  have hG5 := rtG hA.1
  have hP0 := hA.2.1.1
  have hW0 := hA.2.1.2.1
  have hG0 := hA.2.1.2.2.1
  obtain ⟨ce, hce, hce0⟩ := hB.2.2.2.2.1
  have hl := at11 hM
  exact bot_rd hI (c_as (n := 114) (by omega) cx ct cd hP hP0 hW hW0 hA.2.2.1) (c_m_as (n := 114) (by omega) hM hA.1 hB.1 hA.2) rfl
set_option maxHeartbeats 4000000 in
set_option maxRecDepth 100000 in
theorem b_meant {M : Nat → xE} (hI : INV M) {a b : Int32} : BotI mX10_meant mX11_meant [.int a, .int b] M := by
  obtain ⟨kb, τ, tx, δ, tc, tw, sz, nx, Dp, K, Bb, sb, t, u, P, W, G, N, Bs, Bw, hC, hM, hA, hB, hc, hd, he, hf, hg, hh⟩ := id hI
  obtain ⟨cx, ct, ctx, ⟨τd, cdr⟩, cd, cpa, cke, cpl, cma, cch, cco, cwo, cba⟩ := id hC
  have hP := rtP hA.1
  have hW := rtW hA.1
  have hG5 := rtG hA.1
  have hP0 := hA.2.1.1
  have hW0 := hA.2.1.2.1
  have hG0 := hA.2.1.2.2.1
  obtain ⟨ce, hce, hce0⟩ := hB.2.2.2.2.1
  have hl := at11 hM
  exact bot_rd hI (c_meant (n := 114) (by omega) cx cwo hg.1 hg.2.1) (c_m_meant (n := 114) (by omega) hM hg.1 hg.2.2.1) (kMeant_eq hg.2.2.2 a b)
set_option maxHeartbeats 4000000 in
set_option maxRecDepth 100000 in
theorem b_bears {M : Nat → xE} (hI : INV M) : BotI mX10_bears mX11_bears [] M := by
  obtain ⟨kb, τ, tx, δ, tc, tw, sz, nx, Dp, K, Bb, sb, t, u, P, W, G, N, Bs, Bw, hC, hM, hA, hB, hc, hd, he, hf, hg, hh⟩ := id hI
  obtain ⟨cx, ct, ctx, ⟨τd, cdr⟩, cd, cpa, cke, cpl, cma, cch, cco, cwo, cba⟩ := id hC
  have hP := rtP hA.1
  have hW := rtW hA.1
  have hG5 := rtG hA.1
  have hP0 := hA.2.1.1
  have hW0 := hA.2.1.2.1
  have hG0 := hA.2.1.2.2.1
  obtain ⟨ce, hce, hce0⟩ := hB.2.2.2.2.1
  have hl := at11 hM
  exact bot_rd hI (c_bears (n := 114) (by omega) cx cwo hg.1 hg.2.1) (c_m_bears (n := 114) (by omega) hM hg.1 hg.2.2.1) (kBears_eq hg.2.2.2)
set_option maxHeartbeats 4000000 in
set_option maxRecDepth 100000 in
theorem b_count {M : Nat → xE} (hI : INV M) {b : Int32} : BotI mX10_count mX11_count [.int b] M := by
  obtain ⟨kb, τ, tx, δ, tc, tw, sz, nx, Dp, K, Bb, sb, t, u, P, W, G, N, Bs, Bw, hC, hM, hA, hB, hc, hd, he, hf, hg, hh⟩ := id hI
  obtain ⟨cx, ct, ctx, ⟨τd, cdr⟩, cd, cpa, cke, cpl, cma, cch, cco, cwo, cba⟩ := id hC
  have hP := rtP hA.1
  have hW := rtW hA.1
  have hG5 := rtG hA.1
  have hP0 := hA.2.1.1
  have hW0 := hA.2.1.2.1
  have hG0 := hA.2.1.2.2.1
  obtain ⟨ce, hce, hce0⟩ := hB.2.2.2.2.1
  have hl := at11 hM
  obtain ⟨tb, hb1, hb2, -⟩ := cba
  obtain ⟨uc, hc1⟩ := cch
  exact bot_rd hI (c_count (n := 114) (by omega) cx ct cd hW hW0 cpa cwo hg.2.1 hb1 hb2 hc1 hf.2.1 ctx he.2.1) (c_m_count (n := 114) (by omega) hM hA.1 hB.1 hA.2 hg.2.2.1 hh.2.1 hf.2.2.1 hc.2.2.1 he.2.2.1 hB.2.2.2.2.2) rfl
set_option maxHeartbeats 4000000 in
set_option maxRecDepth 100000 in
theorem b_does {M : Nat → xE} (hI : INV M) {a b : Int32} : BotI mX10_does mX11_does [.int a, .int b] M := by
  obtain ⟨kb, τ, tx, δ, tc, tw, sz, nx, Dp, K, Bb, sb, t, u, P, W, G, N, Bs, Bw, hC, hM, hA, hB, hc, hd, he, hf, hg, hh⟩ := id hI
  obtain ⟨cx, ct, ctx, ⟨τd, cdr⟩, cd, cpa, cke, cpl, cma, cch, cco, cwo, cba⟩ := id hC
  have hP := rtP hA.1
  have hW := rtW hA.1
  have hG5 := rtG hA.1
  have hP0 := hA.2.1.1
  have hW0 := hA.2.1.2.1
  have hG0 := hA.2.1.2.2.1
  obtain ⟨ce, hce, hce0⟩ := hB.2.2.2.2.1
  have hl := at11 hM
  refine ⟨_, c_does (n := 114) (by omega) cx ct cd hP hP0 hW hW0 hc.1 hc.2.1 cpa, fun r1 M1 q => ?_⟩
  have hm := fun (M1 : Nat → xE) (hM1 : oX11 99 t u M1) => c_m_does (n := 114) (by omega) hM1 hA.1 hB.1 hA.2 hc.1 hc.2.2.1 (a := a) (b := b)
  by_cases e0 : inB a P = true
  · by_cases e1 : inB b W = true
    · by_cases e2 : cDo τ δ a b = true
      · rw [if_pos e0, if_pos e1, if_pos e2] at q
        obtain ⟨rfl, q1, q2, q3⟩ := q
        refine ⟨_, rfl, at11 (hM.up q3 (by omega)), _, hm M1 (hM.up q3 (by omega)), fun r2 M2 z => ?_⟩
        rw [if_pos e0, if_pos e1, if_pos e2] at z
        obtain ⟨rfl, z1⟩ := z
        exact ⟨rfl, inv_deed hC hA hB hc hd he hf hg hh (dok_does hA.2 hP hW hB.2 e0 e1 e2) q1 q2 q3 z1⟩
      · rw [if_pos e0, if_pos e1, if_neg e2] at q
        obtain ⟨rfl, rfl⟩ := q
        exact ⟨_, rfl, bot_no hI (hm M hM) (fun r2 M2 z => by rw [if_pos e0, if_pos e1, if_neg e2] at z; exact z)⟩
    · rw [if_pos e0, if_neg e1] at q
      obtain ⟨rfl, rfl⟩ := q
      exact ⟨_, rfl, bot_no hI (hm M hM) (fun r2 M2 z => by rw [if_pos e0, if_neg e1] at z; exact z)⟩
  · rw [if_neg e0] at q
    obtain ⟨rfl, rfl⟩ := q
    exact ⟨_, rfl, bot_no hI (hm M hM) (fun r2 M2 z => by rw [if_neg e0] at z; exact z)⟩
set_option maxHeartbeats 4000000 in
set_option maxRecDepth 100000 in
theorem b_marry {M : Nat → xE} (hI : INV M) {a b : Int32} : BotI mX10_marry mX11_marry [.int a, .int b] M := by
  obtain ⟨kb, τ, tx, δ, tc, tw, sz, nx, Dp, K, Bb, sb, t, u, P, W, G, N, Bs, Bw, hC, hM, hA, hB, hc, hd, he, hf, hg, hh⟩ := id hI
  obtain ⟨cx, ct, ctx, ⟨τd, cdr⟩, cd, cpa, cke, cpl, cma, cch, cco, cwo, cba⟩ := id hC
  have hP := rtP hA.1
  have hW := rtW hA.1
  have hG5 := rtG hA.1
  have hP0 := hA.2.1.1
  have hW0 := hA.2.1.2.1
  have hG0 := hA.2.1.2.2.1
  obtain ⟨ce, hce, hce0⟩ := hB.2.2.2.2.1
  have hl := at11 hM
  refine ⟨_, c_marry (n := 114) (by omega) cx ct cd hP hP0 hc.1 hc.2.1 cpa, fun r1 M1 q => ?_⟩
  have hm := fun (M1 : Nat → xE) (hM1 : oX11 99 t u M1) => c_m_marry (n := 114) (by omega) hM1 hA.1 hB.1 hc.1 hc.2.2.1 hB.2.2.2.2.2 (a := a) (b := b)
  by_cases e0 : inB a P = true
  · by_cases e1 : inB b P = true
    · by_cases e2 : a = b
      · rw [if_pos e0, if_pos e1, if_pos e2] at q
        obtain ⟨rfl, rfl⟩ := q
        exact ⟨_, rfl, bot_no hI (hm M hM) (fun r2 M2 z => by rw [if_pos e0, if_pos e1, if_pos e2] at z; exact z)⟩
      · by_cases e3 : (tLikeB τ a b && (decide (δ 8 a.toNatClampNeg = -1) && decide (δ 8 b.toNatClampNeg = -1))) = true
        · rw [if_pos e0, if_pos e1, if_neg e2, if_pos e3] at q
          obtain ⟨rfl, q1, q2, q3⟩ := q
          refine ⟨_, rfl, at11 (hM.up q3 (by omega)), _, hm M1 (hM.up q3 (by omega)), fun r2 M2 z => ?_⟩
          rw [if_pos e0, if_pos e1, if_neg e2, if_pos e3] at z
          obtain ⟨rfl, z1⟩ := z
          exact ⟨rfl, inv_deed hC hA hB hc hd he hf hg hh (dok_marry hP hB.2 e0 e1 e2 e3) q1 q2 q3 z1⟩
        · rw [if_pos e0, if_pos e1, if_neg e2, if_neg e3] at q
          obtain ⟨rfl, rfl⟩ := q
          exact ⟨_, rfl, bot_no hI (hm M hM) (fun r2 M2 z => by rw [if_pos e0, if_pos e1, if_neg e2, if_neg e3] at z; exact z)⟩
    · rw [if_pos e0, if_neg e1] at q
      obtain ⟨rfl, rfl⟩ := q
      exact ⟨_, rfl, bot_no hI (hm M hM) (fun r2 M2 z => by rw [if_pos e0, if_neg e1] at z; exact z)⟩
  · rw [if_neg e0] at q
    obtain ⟨rfl, rfl⟩ := q
    exact ⟨_, rfl, bot_no hI (hm M hM) (fun r2 M2 z => by rw [if_neg e0] at z; exact z)⟩
set_option maxHeartbeats 4000000 in
set_option maxRecDepth 100000 in
theorem b_sell {M : Nat → xE} (hI : INV M) {a : Int32} : BotI mX10_sell mX11_sell [.int a] M := by
  obtain ⟨kb, τ, tx, δ, tc, tw, sz, nx, Dp, K, Bb, sb, t, u, P, W, G, N, Bs, Bw, hC, hM, hA, hB, hc, hd, he, hf, hg, hh⟩ := id hI
  obtain ⟨cx, ct, ctx, ⟨τd, cdr⟩, cd, cpa, cke, cpl, cma, cch, cco, cwo, cba⟩ := id hC
  have hP := rtP hA.1
  have hW := rtW hA.1
  have hG5 := rtG hA.1
  have hP0 := hA.2.1.1
  have hW0 := hA.2.1.2.1
  have hG0 := hA.2.1.2.2.1
  obtain ⟨ce, hce, hce0⟩ := hB.2.2.2.2.1
  have hl := at11 hM
  refine ⟨_, c_sell (n := 114) (by omega) cx ct cd hG5 hG0 hc.1 hc.2.1 cpa, fun r1 M1 q => ?_⟩
  have hm := fun (M1 : Nat → xE) (hM1 : oX11 99 t u M1) => c_m_sell (n := 114) (by omega) hM1 hA.1 hB.1 hA.2 hce hce0 hc.1 hc.2.2.1 (a := a)
  by_cases e0 : inB a G = true
  · by_cases e1 : bo (δ 6 0) a = 1
    · rw [if_pos e0, if_pos e1] at q
      obtain ⟨rfl, rfl⟩ := q
      exact ⟨_, rfl, bot_no hI (hm M hM) (fun r2 M2 z => by rw [if_pos e0, if_pos e1] at z; exact z)⟩
    · rw [if_pos e0, if_neg e1] at q
      obtain ⟨rfl, q1, q2, q3⟩ := q
      refine ⟨_, rfl, at11 (hM.up q3 (by omega)), _, hm M1 (hM.up q3 (by omega)), fun r2 M2 z => ?_⟩
      rw [if_pos e0, if_neg e1] at z
      obtain ⟨rfl, z1⟩ := z
      exact ⟨rfl, inv_deed hC hA hB hc hd he hf hg hh (dok_sell hB.2) q1 q2 q3 z1⟩
  · rw [if_neg e0] at q
    obtain ⟨rfl, rfl⟩ := q
    exact ⟨_, rfl, bot_no hI (hm M hM) (fun r2 M2 z => by rw [if_neg e0] at z; exact z)⟩
set_option maxHeartbeats 4000000 in
set_option maxRecDepth 100000 in
theorem b_oversleep {M : Nat → xE} (hI : INV M) {a b : Int32} : BotI mX10_oversleep mX11_oversleep [.int a, .int b] M := by
  obtain ⟨kb, τ, tx, δ, tc, tw, sz, nx, Dp, K, Bb, sb, t, u, P, W, G, N, Bs, Bw, hC, hM, hA, hB, hc, hd, he, hf, hg, hh⟩ := id hI
  obtain ⟨cx, ct, ctx, ⟨τd, cdr⟩, cd, cpa, cke, cpl, cma, cch, cco, cwo, cba⟩ := id hC
  have hP := rtP hA.1
  have hW := rtW hA.1
  have hG5 := rtG hA.1
  have hP0 := hA.2.1.1
  have hW0 := hA.2.1.2.1
  have hG0 := hA.2.1.2.2.1
  obtain ⟨ce, hce, hce0⟩ := hB.2.2.2.2.1
  have hl := at11 hM
  refine ⟨_, c_oversleep (n := 114) (by omega) cx ct cd hP hP0 hc.1 hc.2.1 cpa, fun r1 M1 q => ?_⟩
  have hm := fun (M1 : Nat → xE) (hM1 : oX11 99 t u M1) => c_m_oversleep (n := 114) (by omega) hM1 hA.1 hB.1 hc.1 hc.2.2.1 (a := a) (b := b)
  by_cases e0 : inB a P = true
  · by_cases e1 : inB b 2 = true
    · rw [if_pos e0, if_pos e1] at q
      obtain ⟨rfl, q1, q2, q3⟩ := q
      refine ⟨_, rfl, at11 (hM.up q3 (by omega)), _, hm M1 (hM.up q3 (by omega)), fun r2 M2 z => ?_⟩
      rw [if_pos e0, if_pos e1] at z
      obtain ⟨rfl, z1⟩ := z
      exact ⟨rfl, inv_deed hC hA hB hc hd he hf hg hh (dok_over hB.2) q1 q2 q3 z1⟩
    · rw [if_pos e0, if_neg e1] at q
      obtain ⟨rfl, rfl⟩ := q
      exact ⟨_, rfl, bot_no hI (hm M hM) (fun r2 M2 z => by rw [if_pos e0, if_neg e1] at z; exact z)⟩
  · rw [if_neg e0] at q
    obtain ⟨rfl, rfl⟩ := q
    exact ⟨_, rfl, bot_no hI (hm M hM) (fun r2 M2 z => by rw [if_neg e0] at z; exact z)⟩
