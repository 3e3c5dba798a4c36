abbrev mL_law : xM := (yL_law, cL_law, 4, (some .boolean), wsL_law, room_1)
theorem inv_x10 {M : Nat → xE} (h : INV M) : ∃ l, M 0 = .inr (10, l) := by
  obtain ⟨kb, τ, tx, δ, tc, tw, sz, nx, Dp, K, Bb, sb, t, u, P, W, G, N, Bs, Bw, hC, -⟩ := h
  exact ⟨_, hC.1⟩
abbrev lwL (i : Nat) : List (Nat × Value) := [(3, .int (nI i)), (2, .ref 99), (1, .ref 0), (0, .retAddr 26)]
theorem eL_law_13 : xEdge mL_law mX10_write 13 1 := ⟨⟨by decide +kernel, by decide +kernel, by decide +kernel⟩, ⟨by decide, by decide⟩, _, rfl⟩
theorem eL_law_17 : xEdge mL_law mX11_write 17 1 := ⟨⟨by decide +kernel, by decide +kernel, by decide +kernel⟩, ⟨by decide, by decide⟩, _, rfl⟩
theorem eL_law_18 : xEdge mL_law mX10_erase 18 0 := ⟨⟨by decide +kernel, by decide +kernel, by decide +kernel⟩, ⟨by decide, by decide⟩, _, rfl⟩
theorem eL_law_22 : xEdge mL_law mX11_erase 22 0 := ⟨⟨by decide +kernel, by decide +kernel, by decide +kernel⟩, ⟨by decide, by decide⟩, _, rfl⟩
theorem eL_law_23 : xEdge mL_law mX10_fault 23 0 := ⟨⟨by decide +kernel, by decide +kernel, by decide +kernel⟩, ⟨by decide, by decide⟩, _, rfl⟩
theorem eL_law_26 : xEdge mL_law mX11_fault 26 0 := ⟨⟨by decide +kernel, by decide +kernel, by decide +kernel⟩, ⟨by decide, by decide⟩, _, rfl⟩
theorem eL_law_27 : xEdge mL_law mX10_town 27 0 := ⟨⟨by decide +kernel, by decide +kernel, by decide +kernel⟩, ⟨by decide, by decide⟩, _, rfl⟩
theorem eL_law_30 : xEdge mL_law mX11_town 30 0 := ⟨⟨by decide +kernel, by decide +kernel, by decide +kernel⟩, ⟨by decide, by decide⟩, _, rfl⟩
theorem eL_law_31 : xEdge mL_law mX10_one 31 2 := ⟨⟨by decide +kernel, by decide +kernel, by decide +kernel⟩, ⟨by decide, by decide⟩, _, rfl⟩
theorem eL_law_35 : xEdge mL_law mX11_one 35 2 := ⟨⟨by decide +kernel, by decide +kernel, by decide +kernel⟩, ⟨by decide, by decide⟩, _, rfl⟩
theorem eL_law_36 : xEdge mL_law mX10_work 36 2 := ⟨⟨by decide +kernel, by decide +kernel, by decide +kernel⟩, ⟨by decide, by decide⟩, _, rfl⟩
theorem eL_law_39 : xEdge mL_law mX11_work 39 2 := ⟨⟨by decide +kernel, by decide +kernel, by decide +kernel⟩, ⟨by decide, by decide⟩, _, rfl⟩
theorem eL_law_40 : xEdge mL_law mX10_good 40 2 := ⟨⟨by decide +kernel, by decide +kernel, by decide +kernel⟩, ⟨by decide, by decide⟩, _, rfl⟩
theorem eL_law_43 : xEdge mL_law mX11_good 43 2 := ⟨⟨by decide +kernel, by decide +kernel, by decide +kernel⟩, ⟨by decide, by decide⟩, _, rfl⟩
theorem eL_law_44 : xEdge mL_law mX10_as 44 2 := ⟨⟨by decide +kernel, by decide +kernel, by decide +kernel⟩, ⟨by decide, by decide⟩, _, rfl⟩
theorem eL_law_47 : xEdge mL_law mX11_as 47 2 := ⟨⟨by decide +kernel, by decide +kernel, by decide +kernel⟩, ⟨by decide, by decide⟩, _, rfl⟩
theorem eL_law_48 : xEdge mL_law mX10_goodAs 48 2 := ⟨⟨by decide +kernel, by decide +kernel, by decide +kernel⟩, ⟨by decide, by decide⟩, _, rfl⟩
theorem eL_law_51 : xEdge mL_law mX11_goodAs 51 2 := ⟨⟨by decide +kernel, by decide +kernel, by decide +kernel⟩, ⟨by decide, by decide⟩, _, rfl⟩
theorem eL_law_52 : xEdge mL_law mX10_does 52 2 := ⟨⟨by decide +kernel, by decide +kernel, by decide +kernel⟩, ⟨by decide, by decide⟩, _, rfl⟩
theorem eL_law_55 : xEdge mL_law mX11_does 55 2 := ⟨⟨by decide +kernel, by decide +kernel, by decide +kernel⟩, ⟨by decide, by decide⟩, _, rfl⟩
theorem eL_law_56 : xEdge mL_law mX10_marry 56 2 := ⟨⟨by decide +kernel, by decide +kernel, by decide +kernel⟩, ⟨by decide, by decide⟩, _, rfl⟩
theorem eL_law_59 : xEdge mL_law mX11_marry 59 2 := ⟨⟨by decide +kernel, by decide +kernel, by decide +kernel⟩, ⟨by decide, by decide⟩, _, rfl⟩
theorem eL_law_60 : xEdge mL_law mX10_sell 60 1 := ⟨⟨by decide +kernel, by decide +kernel, by decide +kernel⟩, ⟨by decide, by decide⟩, _, rfl⟩
theorem eL_law_63 : xEdge mL_law mX11_sell 63 1 := ⟨⟨by decide +kernel, by decide +kernel, by decide +kernel⟩, ⟨by decide, by decide⟩, _, rfl⟩
theorem eL_law_64 : xEdge mL_law mX10_oversleep 64 2 := ⟨⟨by decide +kernel, by decide +kernel, by decide +kernel⟩, ⟨by decide, by decide⟩, _, rfl⟩
theorem eL_law_67 : xEdge mL_law mX11_oversleep 67 2 := ⟨⟨by decide +kernel, by decide +kernel, by decide +kernel⟩, ⟨by decide, by decide⟩, _, rfl⟩
theorem eL_law_68 : xEdge mL_law mX10_sleep 68 1 := ⟨⟨by decide +kernel, by decide +kernel, by decide +kernel⟩, ⟨by decide, by decide⟩, _, rfl⟩
theorem eL_law_71 : xEdge mL_law mX11_sleep 71 1 := ⟨⟨by decide +kernel, by decide +kernel, by decide +kernel⟩, ⟨by decide, by decide⟩, _, rfl⟩
theorem eL_law_72 : xEdge mL_law mX10_undo 72 0 := ⟨⟨by decide +kernel, by decide +kernel, by decide +kernel⟩, ⟨by decide, by decide⟩, _, rfl⟩
theorem eL_law_75 : xEdge mL_law mX11_undo 75 0 := ⟨⟨by decide +kernel, by decide +kernel, by decide +kernel⟩, ⟨by decide, by decide⟩, _, rfl⟩
theorem eL_law_76 : xEdge mL_law mX10_keep 76 1 := ⟨⟨by decide +kernel, by decide +kernel, by decide +kernel⟩, ⟨by decide, by decide⟩, _, rfl⟩
theorem eL_law_79 : xEdge mL_law mX11_keep 79 1 := ⟨⟨by decide +kernel, by decide +kernel, by decide +kernel⟩, ⟨by decide, by decide⟩, _, rfl⟩
theorem eL_law_80 : xEdge mL_law mX10_back 80 1 := ⟨⟨by decide +kernel, by decide +kernel, by decide +kernel⟩, ⟨by decide, by decide⟩, _, rfl⟩
theorem eL_law_83 : xEdge mL_law mX11_back 83 1 := ⟨⟨by decide +kernel, by decide +kernel, by decide +kernel⟩, ⟨by decide, by decide⟩, _, rfl⟩
theorem eL_law_84 : xEdge mL_law mX10_plan 84 0 := ⟨⟨by decide +kernel, by decide +kernel, by decide +kernel⟩, ⟨by decide, by decide⟩, _, rfl⟩
theorem eL_law_87 : xEdge mL_law mX11_plan 87 0 := ⟨⟨by decide +kernel, by decide +kernel, by decide +kernel⟩, ⟨by decide, by decide⟩, _, rfl⟩
theorem eL_law_88 : xEdge mL_law mX10_planOf 88 1 := ⟨⟨by decide +kernel, by decide +kernel, by decide +kernel⟩, ⟨by decide, by decide⟩, _, rfl⟩
theorem eL_law_91 : xEdge mL_law mX11_planOf 91 1 := ⟨⟨by decide +kernel, by decide +kernel, by decide +kernel⟩, ⟨by decide, by decide⟩, _, rfl⟩
theorem eL_law_92 : xEdge mL_law mX10_shortest 92 0 := ⟨⟨by decide +kernel, by decide +kernel, by decide +kernel⟩, ⟨by decide, by decide⟩, _, rfl⟩
theorem eL_law_95 : xEdge mL_law mX11_shortest 95 0 := ⟨⟨by decide +kernel, by decide +kernel, by decide +kernel⟩, ⟨by decide, by decide⟩, _, rfl⟩
theorem eL_law_96 : xEdge mL_law mX10_sale 96 2 := ⟨⟨by decide +kernel, by decide +kernel, by decide +kernel⟩, ⟨by decide, by decide⟩, _, rfl⟩
theorem eL_law_99 : xEdge mL_law mX11_sale 99 2 := ⟨⟨by decide +kernel, by decide +kernel, by decide +kernel⟩, ⟨by decide, by decide⟩, _, rfl⟩
theorem eL_law_100 : xEdge mL_law mX10_odds 100 3 := ⟨⟨by decide +kernel, by decide +kernel, by decide +kernel⟩, ⟨by decide, by decide⟩, _, rfl⟩
theorem eL_law_104 : xEdge mL_law mX11_odds 104 3 := ⟨⟨by decide +kernel, by decide +kernel, by decide +kernel⟩, ⟨by decide, by decide⟩, _, rfl⟩
theorem eL_law_105 : xEdge mL_law mX10_sign 105 3 := ⟨⟨by decide +kernel, by decide +kernel, by decide +kernel⟩, ⟨by decide, by decide⟩, _, rfl⟩
theorem eL_law_109 : xEdge mL_law mX11_sign 109 3 := ⟨⟨by decide +kernel, by decide +kernel, by decide +kernel⟩, ⟨by decide, by decide⟩, _, rfl⟩
theorem eL_law_110 : xEdge mL_law mX10_forget 110 0 := ⟨⟨by decide +kernel, by decide +kernel, by decide +kernel⟩, ⟨by decide, by decide⟩, _, rfl⟩
theorem eL_law_113 : xEdge mL_law mX11_forget 113 0 := ⟨⟨by decide +kernel, by decide +kernel, by decide +kernel⟩, ⟨by decide, by decide⟩, _, rfl⟩
theorem eL_law_114 : xEdge mL_law mX10_likely 114 3 := ⟨⟨by decide +kernel, by decide +kernel, by decide +kernel⟩, ⟨by decide, by decide⟩, _, rfl⟩
theorem eL_law_117 : xEdge mL_law mX11_likely 117 3 := ⟨⟨by decide +kernel, by decide +kernel, by decide +kernel⟩, ⟨by decide, by decide⟩, _, rfl⟩
theorem eL_law_118 : xEdge mL_law mX10_wording 118 1 := ⟨⟨by decide +kernel, by decide +kernel, by decide +kernel⟩, ⟨by decide, by decide⟩, _, rfl⟩
theorem eL_law_121 : xEdge mL_law mX11_wording 121 1 := ⟨⟨by decide +kernel, by decide +kernel, by decide +kernel⟩, ⟨by decide, by decide⟩, _, rfl⟩
theorem eL_law_122 : xEdge mL_law mX10_bears 122 0 := ⟨⟨by decide +kernel, by decide +kernel, by decide +kernel⟩, ⟨by decide, by decide⟩, _, rfl⟩
theorem eL_law_125 : xEdge mL_law mX11_bears 125 0 := ⟨⟨by decide +kernel, by decide +kernel, by decide +kernel⟩, ⟨by decide, by decide⟩, _, rfl⟩
theorem eL_law_126 : xEdge mL_law mX10_meant 126 2 := ⟨⟨by decide +kernel, by decide +kernel, by decide +kernel⟩, ⟨by decide, by decide⟩, _, rfl⟩
theorem eL_law_129 : xEdge mL_law mX11_meant 129 2 := ⟨⟨by decide +kernel, by decide +kernel, by decide +kernel⟩, ⟨by decide, by decide⟩, _, rfl⟩
theorem eL_law_130 : xEdge mL_law mX10_pairs 130 1 := ⟨⟨by decide +kernel, by decide +kernel, by decide +kernel⟩, ⟨by decide, by decide⟩, _, rfl⟩
theorem eL_law_133 : xEdge mL_law mX11_pairs 133 1 := ⟨⟨by decide +kernel, by decide +kernel, by decide +kernel⟩, ⟨by decide, by decide⟩, _, rfl⟩
theorem eL_law_134 : xEdge mL_law mX10_ballot 134 1 := ⟨⟨by decide +kernel, by decide +kernel, by decide +kernel⟩, ⟨by decide, by decide⟩, _, rfl⟩
theorem eL_law_137 : xEdge mL_law mX11_ballot 137 1 := ⟨⟨by decide +kernel, by decide +kernel, by decide +kernel⟩, ⟨by decide, by decide⟩, _, rfl⟩
theorem eL_law_138 : xEdge mL_law mX10_mayor 138 1 := ⟨⟨by decide +kernel, by decide +kernel, by decide +kernel⟩, ⟨by decide, by decide⟩, _, rfl⟩
theorem eL_law_141 : xEdge mL_law mX11_mayor 141 1 := ⟨⟨by decide +kernel, by decide +kernel, by decide +kernel⟩, ⟨by decide, by decide⟩, _, rfl⟩
theorem eL_law_142 : xEdge mL_law mX10_points 142 1 := ⟨⟨by decide +kernel, by decide +kernel, by decide +kernel⟩, ⟨by decide, by decide⟩, _, rfl⟩
theorem eL_law_145 : xEdge mL_law mX11_points 145 1 := ⟨⟨by decide +kernel, by decide +kernel, by decide +kernel⟩, ⟨by decide, by decide⟩, _, rfl⟩
theorem eL_law_146 : xEdge mL_law mX10_swing 146 0 := ⟨⟨by decide +kernel, by decide +kernel, by decide +kernel⟩, ⟨by decide, by decide⟩, _, rfl⟩
theorem eL_law_149 : xEdge mL_law mX11_swing 149 0 := ⟨⟨by decide +kernel, by decide +kernel, by decide +kernel⟩, ⟨by decide, by decide⟩, _, rfl⟩
theorem eL_law_150 : xEdge mL_law mX10_count 150 1 := ⟨⟨by decide +kernel, by decide +kernel, by decide +kernel⟩, ⟨by decide, by decide⟩, _, rfl⟩
theorem eL_law_153 : xEdge mL_law mX11_count 153 1 := ⟨⟨by decide +kernel, by decide +kernel, by decide +kernel⟩, ⟨by decide, by decide⟩, _, rfl⟩
theorem lg_cmp_self (x : Int64) : lg_cmp x x = 0 := by
  unfold lg_cmp
  simp
set_option maxHeartbeats 4000000 in
set_option maxRecDepth 100000 in
theorem l_case_0 {g : xG} {p : Program} {l : Launch} {e : Env} {s : State} {m : MethodId} {args : Array Value} {below : List Frame} {meth : Method} {c : Code} {Qz : State → Prop} {N : Nat} {xs : Nat → Int32} {i k0 s0 : Nat} {M : Nat → xE} (C : yCtx mL_law g p s m args c N xs) (hN : N ≤ 256) (hi : i + 3 < N) (hk0 : k0 ≤ 600000) (hs0 : s0 ≤ 7302250) (hI : INV M) (kk : ∀ M', INV M' → LW mL_law g p l e s m args below meth c Qz k0 s0 1038 (lwL i) [] 114 M') : LW mL_law g p l e s m args below meth c Qz k0 s0 184 (lwL i) [] 114 M := by
  obtain ⟨Q1, h1, h2⟩ := b_write hI (a := xs (i + 1))
  obtain ⟨l0, hx0⟩ := inv_x10 hI
  refine y_aload (k := 1) C dL_law_184 rfl rfl ?_
  refine y_arg (k := 1) C (by omega) hN rfl rfl rfl dL_law_185 dL_law_186 dL_law_187 dL_law_188 dL_law_189 rfl ?_
  refine y_callV (As := [.int (xs (i + 1))]) (rest := []) C h1 eL_law_13 gL_law_X10_write hx0 (by decide) rfl rfl rfl (Nat.le_of_ble_eq_true rfl) ⟨hk0, hs0⟩ dL_law_190 rfl rfl (fun r M1 q1 => ?_)
  obtain ⟨v, rfl, ⟨l99, hl99⟩, Q2, h3, h4⟩ := h2 r M1 q1
  refine y_aload (k := 2) C dL_law_193 rfl rfl ?_
  refine y_arg (k := 1) C (by omega) hN rfl rfl rfl dL_law_194 dL_law_195 dL_law_196 dL_law_197 dL_law_198 rfl ?_
  refine y_callV (As := [.int (xs (i + 1))]) (rest := [.int v]) C h3 eL_law_17 gL_law_X11_write hl99 (by decide) rfl rfl rfl (Nat.le_of_ble_eq_true rfl) ⟨hk0, hs0⟩ dL_law_199 rfl rfl (fun r2 M2 q2 => ?_)
  obtain ⟨rfl, hI2⟩ := h4 r2 M2 q2
  refine y_icmp_eq C dL_law_202 rfl ?_
  exact kk M2 hI2
set_option maxHeartbeats 4000000 in
set_option maxRecDepth 100000 in
theorem l_case_1 {g : xG} {p : Program} {l : Launch} {e : Env} {s : State} {m : MethodId} {args : Array Value} {below : List Frame} {meth : Method} {c : Code} {Qz : State → Prop} {N : Nat} {xs : Nat → Int32} {i k0 s0 : Nat} {M : Nat → xE} (C : yCtx mL_law g p s m args c N xs) (hN : N ≤ 256) (hi : i + 3 < N) (hk0 : k0 ≤ 600000) (hs0 : s0 ≤ 7302250) (hI : INV M) (kk : ∀ M', INV M' → LW mL_law g p l e s m args below meth c Qz k0 s0 1038 (lwL i) [] 114 M') : LW mL_law g p l e s m args below meth c Qz k0 s0 207 (lwL i) [] 114 M := by
  obtain ⟨Q1, h1, h2⟩ := b_erase hI
  obtain ⟨l0, hx0⟩ := inv_x10 hI
  refine y_aload (k := 1) C dL_law_207 rfl rfl ?_
  refine y_callV (As := []) (rest := []) C h1 eL_law_18 gL_law_X10_erase hx0 (by decide) rfl rfl rfl (Nat.le_of_ble_eq_true rfl) ⟨hk0, hs0⟩ dL_law_208 rfl rfl (fun r M1 q1 => ?_)
  obtain ⟨v, rfl, ⟨l99, hl99⟩, Q2, h3, h4⟩ := h2 r M1 q1
  refine y_aload (k := 2) C dL_law_211 rfl rfl ?_
  refine y_callV (As := []) (rest := [.int v]) C h3 eL_law_22 gL_law_X11_erase hl99 (by decide) rfl rfl rfl (Nat.le_of_ble_eq_true rfl) ⟨hk0, hs0⟩ dL_law_212 rfl rfl (fun r2 M2 q2 => ?_)
  obtain ⟨rfl, hI2⟩ := h4 r2 M2 q2
  refine y_icmp_eq C dL_law_215 rfl ?_
  exact kk M2 hI2
set_option maxHeartbeats 4000000 in
set_option maxRecDepth 100000 in
theorem l_case_2 {g : xG} {p : Program} {l : Launch} {e : Env} {s : State} {m : MethodId} {args : Array Value} {below : List Frame} {meth : Method} {c : Code} {Qz : State → Prop} {N : Nat} {xs : Nat → Int32} {i k0 s0 : Nat} {M : Nat → xE} (C : yCtx mL_law g p s m args c N xs) (hN : N ≤ 256) (hi : i + 3 < N) (hk0 : k0 ≤ 600000) (hs0 : s0 ≤ 7302250) (hI : INV M) (kk : ∀ M', INV M' → LW mL_law g p l e s m args below meth c Qz k0 s0 1038 (lwL i) [] 114 M') : LW mL_law g p l e s m args below meth c Qz k0 s0 220 (lwL i) [] 114 M := by
  obtain ⟨Q1, h1, h2⟩ := b_fault hI
  obtain ⟨l0, hx0⟩ := inv_x10 hI
  refine y_aload (k := 1) C dL_law_220 rfl rfl ?_
  refine y_callV (As := []) (rest := []) C h1 eL_law_23 gL_law_X10_fault hx0 (by decide) rfl rfl rfl (Nat.le_of_ble_eq_true rfl) ⟨hk0, hs0⟩ dL_law_221 rfl rfl (fun r M1 q1 => ?_)
  obtain ⟨v, rfl, ⟨l99, hl99⟩, Q2, h3, h4⟩ := h2 r M1 q1
  refine y_aload (k := 2) C dL_law_224 rfl rfl ?_
  refine y_callV (As := []) (rest := [.int v]) C h3 eL_law_26 gL_law_X11_fault hl99 (by decide) rfl rfl rfl (Nat.le_of_ble_eq_true rfl) ⟨hk0, hs0⟩ dL_law_225 rfl rfl (fun r2 M2 q2 => ?_)
  obtain ⟨rfl, hI2⟩ := h4 r2 M2 q2
  refine y_icmp_eq C dL_law_228 rfl ?_
  exact kk M2 hI2
set_option maxHeartbeats 4000000 in
set_option maxRecDepth 100000 in
theorem l_case_3 {g : xG} {p : Program} {l : Launch} {e : Env} {s : State} {m : MethodId} {args : Array Value} {below : List Frame} {meth : Method} {c : Code} {Qz : State → Prop} {N : Nat} {xs : Nat → Int32} {i k0 s0 : Nat} {M : Nat → xE} (C : yCtx mL_law g p s m args c N xs) (hN : N ≤ 256) (hi : i + 3 < N) (hk0 : k0 ≤ 600000) (hs0 : s0 ≤ 7302250) (hI : INV M) (kk : ∀ M', INV M' → LW mL_law g p l e s m args below meth c Qz k0 s0 1038 (lwL i) [] 114 M') : LW mL_law g p l e s m args below meth c Qz k0 s0 233 (lwL i) [] 114 M := by
  obtain ⟨Q1, h1, h2⟩ := b_town hI
  obtain ⟨l0, hx0⟩ := inv_x10 hI
  refine y_aload (k := 1) C dL_law_233 rfl rfl ?_
  refine y_callV (As := []) (rest := []) C h1 eL_law_27 gL_law_X10_town hx0 (by decide) rfl rfl rfl (Nat.le_of_ble_eq_true rfl) ⟨hk0, hs0⟩ dL_law_234 rfl rfl (fun r M1 q1 => ?_)
  obtain ⟨v, rfl, ⟨l99, hl99⟩, Q2, h3, h4⟩ := h2 r M1 q1
  refine y_aload (k := 2) C dL_law_237 rfl rfl ?_
  refine y_callV (As := []) (rest := [.int v]) C h3 eL_law_30 gL_law_X11_town hl99 (by decide) rfl rfl rfl (Nat.le_of_ble_eq_true rfl) ⟨hk0, hs0⟩ dL_law_238 rfl rfl (fun r2 M2 q2 => ?_)
  obtain ⟨rfl, hI2⟩ := h4 r2 M2 q2
  refine y_icmp_eq C dL_law_241 rfl ?_
  exact kk M2 hI2
set_option maxHeartbeats 4000000 in
set_option maxRecDepth 100000 in
theorem l_case_4 {g : xG} {p : Program} {l : Launch} {e : Env} {s : State} {m : MethodId} {args : Array Value} {below : List Frame} {meth : Method} {c : Code} {Qz : State → Prop} {N : Nat} {xs : Nat → Int32} {i k0 s0 : Nat} {M : Nat → xE} (C : yCtx mL_law g p s m args c N xs) (hN : N ≤ 256) (hi : i + 3 < N) (hk0 : k0 ≤ 600000) (hs0 : s0 ≤ 7302250) (hI : INV M) (kk : ∀ M', INV M' → LW mL_law g p l e s m args below meth c Qz k0 s0 1038 (lwL i) [] 114 M') : LW mL_law g p l e s m args below meth c Qz k0 s0 246 (lwL i) [] 114 M := by
  obtain ⟨Q1, h1, h2⟩ := b_one hI (a := xs (i + 1)) (b := xs (i + 2))
  obtain ⟨l0, hx0⟩ := inv_x10 hI
  refine y_aload (k := 1) C dL_law_246 rfl rfl ?_
  refine y_arg (k := 1) C (by omega) hN rfl rfl rfl dL_law_247 dL_law_248 dL_law_249 dL_law_250 dL_law_251 rfl ?_
  refine y_arg (k := 2) C (by omega) hN rfl rfl rfl dL_law_252 dL_law_253 dL_law_254 dL_law_255 dL_law_256 rfl ?_
  refine y_callV (As := [.int (xs (i + 1)), .int (xs (i + 2))]) (rest := []) C h1 eL_law_31 gL_law_X10_one hx0 (by decide) rfl rfl rfl (Nat.le_of_ble_eq_true rfl) ⟨hk0, hs0⟩ dL_law_257 rfl rfl (fun r M1 q1 => ?_)
  obtain ⟨v, rfl, ⟨l99, hl99⟩, Q2, h3, h4⟩ := h2 r M1 q1
  refine y_aload (k := 2) C dL_law_260 rfl rfl ?_
  refine y_arg (k := 1) C (by omega) hN rfl rfl rfl dL_law_261 dL_law_262 dL_law_263 dL_law_264 dL_law_265 rfl ?_
  refine y_arg (k := 2) C (by omega) hN rfl rfl rfl dL_law_266 dL_law_267 dL_law_268 dL_law_269 dL_law_270 rfl ?_
  refine y_callV (As := [.int (xs (i + 1)), .int (xs (i + 2))]) (rest := [.int v]) C h3 eL_law_35 gL_law_X11_one hl99 (by decide) rfl rfl rfl (Nat.le_of_ble_eq_true rfl) ⟨hk0, hs0⟩ dL_law_271 rfl rfl (fun r2 M2 q2 => ?_)
  obtain ⟨rfl, hI2⟩ := h4 r2 M2 q2
  refine y_icmp_eq C dL_law_274 rfl ?_
  exact kk M2 hI2
set_option maxHeartbeats 4000000 in
set_option maxRecDepth 100000 in
theorem l_case_5 {g : xG} {p : Program} {l : Launch} {e : Env} {s : State} {m : MethodId} {args : Array Value} {below : List Frame} {meth : Method} {c : Code} {Qz : State → Prop} {N : Nat} {xs : Nat → Int32} {i k0 s0 : Nat} {M : Nat → xE} (C : yCtx mL_law g p s m args c N xs) (hN : N ≤ 256) (hi : i + 3 < N) (hk0 : k0 ≤ 600000) (hs0 : s0 ≤ 7302250) (hI : INV M) (kk : ∀ M', INV M' → LW mL_law g p l e s m args below meth c Qz k0 s0 1038 (lwL i) [] 114 M') : LW mL_law g p l e s m args below meth c Qz k0 s0 279 (lwL i) [] 114 M := by
  obtain ⟨Q1, h1, h2⟩ := b_work hI (a := xs (i + 1)) (b := xs (i + 2))
  obtain ⟨l0, hx0⟩ := inv_x10 hI
  refine y_aload (k := 1) C dL_law_279 rfl rfl ?_
  refine y_arg (k := 1) C (by omega) hN rfl rfl rfl dL_law_280 dL_law_281 dL_law_282 dL_law_283 dL_law_284 rfl ?_
  refine y_arg (k := 2) C (by omega) hN rfl rfl rfl dL_law_285 dL_law_286 dL_law_287 dL_law_288 dL_law_289 rfl ?_
  refine y_callV (As := [.int (xs (i + 1)), .int (xs (i + 2))]) (rest := []) C h1 eL_law_36 gL_law_X10_work hx0 (by decide) rfl rfl rfl (Nat.le_of_ble_eq_true rfl) ⟨hk0, hs0⟩ dL_law_290 rfl rfl (fun r M1 q1 => ?_)
  obtain ⟨v, rfl, ⟨l99, hl99⟩, Q2, h3, h4⟩ := h2 r M1 q1
  refine y_aload (k := 2) C dL_law_293 rfl rfl ?_
  refine y_arg (k := 1) C (by omega) hN rfl rfl rfl dL_law_294 dL_law_295 dL_law_296 dL_law_297 dL_law_298 rfl ?_
  refine y_arg (k := 2) C (by omega) hN rfl rfl rfl dL_law_299 dL_law_300 dL_law_301 dL_law_302 dL_law_303 rfl ?_
  refine y_callV (As := [.int (xs (i + 1)), .int (xs (i + 2))]) (rest := [.int v]) C h3 eL_law_39 gL_law_X11_work hl99 (by decide) rfl rfl rfl (Nat.le_of_ble_eq_true rfl) ⟨hk0, hs0⟩ dL_law_304 rfl rfl (fun r2 M2 q2 => ?_)
  obtain ⟨rfl, hI2⟩ := h4 r2 M2 q2
  refine y_icmp_eq C dL_law_307 rfl ?_
  exact kk M2 hI2
set_option maxHeartbeats 4000000 in
set_option maxRecDepth 100000 in
theorem l_case_6 {g : xG} {p : Program} {l : Launch} {e : Env} {s : State} {m : MethodId} {args : Array Value} {below : List Frame} {meth : Method} {c : Code} {Qz : State → Prop} {N : Nat} {xs : Nat → Int32} {i k0 s0 : Nat} {M : Nat → xE} (C : yCtx mL_law g p s m args c N xs) (hN : N ≤ 256) (hi : i + 3 < N) (hk0 : k0 ≤ 600000) (hs0 : s0 ≤ 7302250) (hI : INV M) (kk : ∀ M', INV M' → LW mL_law g p l e s m args below meth c Qz k0 s0 1038 (lwL i) [] 114 M') : LW mL_law g p l e s m args below meth c Qz k0 s0 312 (lwL i) [] 114 M := by
  obtain ⟨Q1, h1, h2⟩ := b_good hI (a := xs (i + 1)) (b := xs (i + 2))
  obtain ⟨l0, hx0⟩ := inv_x10 hI
  refine y_aload (k := 1) C dL_law_312 rfl rfl ?_
  refine y_arg (k := 1) C (by omega) hN rfl rfl rfl dL_law_313 dL_law_314 dL_law_315 dL_law_316 dL_law_317 rfl ?_
  refine y_arg (k := 2) C (by omega) hN rfl rfl rfl dL_law_318 dL_law_319 dL_law_320 dL_law_321 dL_law_322 rfl ?_
  refine y_callV (As := [.int (xs (i + 1)), .int (xs (i + 2))]) (rest := []) C h1 eL_law_40 gL_law_X10_good hx0 (by decide) rfl rfl rfl (Nat.le_of_ble_eq_true rfl) ⟨hk0, hs0⟩ dL_law_323 rfl rfl (fun r M1 q1 => ?_)
  obtain ⟨v, rfl, ⟨l99, hl99⟩, Q2, h3, h4⟩ := h2 r M1 q1
  refine y_aload (k := 2) C dL_law_326 rfl rfl ?_
  refine y_arg (k := 1) C (by omega) hN rfl rfl rfl dL_law_327 dL_law_328 dL_law_329 dL_law_330 dL_law_331 rfl ?_
  refine y_arg (k := 2) C (by omega) hN rfl rfl rfl dL_law_332 dL_law_333 dL_law_334 dL_law_335 dL_law_336 rfl ?_
  refine y_callV (As := [.int (xs (i + 1)), .int (xs (i + 2))]) (rest := [.int v]) C h3 eL_law_43 gL_law_X11_good hl99 (by decide) rfl rfl rfl (Nat.le_of_ble_eq_true rfl) ⟨hk0, hs0⟩ dL_law_337 rfl rfl (fun r2 M2 q2 => ?_)
  obtain ⟨rfl, hI2⟩ := h4 r2 M2 q2
  refine y_icmp_eq C dL_law_340 rfl ?_
  exact kk M2 hI2
set_option maxHeartbeats 4000000 in
set_option maxRecDepth 100000 in
theorem l_case_7 {g : xG} {p : Program} {l : Launch} {e : Env} {s : State} {m : MethodId} {args : Array Value} {below : List Frame} {meth : Method} {c : Code} {Qz : State → Prop} {N : Nat} {xs : Nat → Int32} {i k0 s0 : Nat} {M : Nat → xE} (C : yCtx mL_law g p s m args c N xs) (hN : N ≤ 256) (hi : i + 3 < N) (hk0 : k0 ≤ 600000) (hs0 : s0 ≤ 7302250) (hI : INV M) (kk : ∀ M', INV M' → LW mL_law g p l e s m args below meth c Qz k0 s0 1038 (lwL i) [] 114 M') : LW mL_law g p l e s m args below meth c Qz k0 s0 345 (lwL i) [] 114 M := by
  obtain ⟨Q1, h1, h2⟩ := b_as hI (a := xs (i + 1)) (b := xs (i + 2))
  obtain ⟨l0, hx0⟩ := inv_x10 hI
  refine y_aload (k := 1) C dL_law_345 rfl rfl ?_
  refine y_arg (k := 1) C (by omega) hN rfl rfl rfl dL_law_346 dL_law_347 dL_law_348 dL_law_349 dL_law_350 rfl ?_
  refine y_arg (k := 2) C (by omega) hN rfl rfl rfl dL_law_351 dL_law_352 dL_law_353 dL_law_354 dL_law_355 rfl ?_
  refine y_callV (As := [.int (xs (i + 1)), .int (xs (i + 2))]) (rest := []) C h1 eL_law_44 gL_law_X10_as hx0 (by decide) rfl rfl rfl (Nat.le_of_ble_eq_true rfl) ⟨hk0, hs0⟩ dL_law_356 rfl rfl (fun r M1 q1 => ?_)
  obtain ⟨v, rfl, ⟨l99, hl99⟩, Q2, h3, h4⟩ := h2 r M1 q1
  refine y_aload (k := 2) C dL_law_359 rfl rfl ?_
  refine y_arg (k := 1) C (by omega) hN rfl rfl rfl dL_law_360 dL_law_361 dL_law_362 dL_law_363 dL_law_364 rfl ?_
  refine y_arg (k := 2) C (by omega) hN rfl rfl rfl dL_law_365 dL_law_366 dL_law_367 dL_law_368 dL_law_369 rfl ?_
  refine y_callV (As := [.int (xs (i + 1)), .int (xs (i + 2))]) (rest := [.int v]) C h3 eL_law_47 gL_law_X11_as hl99 (by decide) rfl rfl rfl (Nat.le_of_ble_eq_true rfl) ⟨hk0, hs0⟩ dL_law_370 rfl rfl (fun r2 M2 q2 => ?_)
  obtain ⟨rfl, hI2⟩ := h4 r2 M2 q2
  refine y_icmp_eq C dL_law_373 rfl ?_
  exact kk M2 hI2
set_option maxHeartbeats 4000000 in
set_option maxRecDepth 100000 in
theorem l_case_8 {g : xG} {p : Program} {l : Launch} {e : Env} {s : State} {m : MethodId} {args : Array Value} {below : List Frame} {meth : Method} {c : Code} {Qz : State → Prop} {N : Nat} {xs : Nat → Int32} {i k0 s0 : Nat} {M : Nat → xE} (C : yCtx mL_law g p s m args c N xs) (hN : N ≤ 256) (hi : i + 3 < N) (hk0 : k0 ≤ 600000) (hs0 : s0 ≤ 7302250) (hI : INV M) (kk : ∀ M', INV M' → LW mL_law g p l e s m args below meth c Qz k0 s0 1038 (lwL i) [] 114 M') : LW mL_law g p l e s m args below meth c Qz k0 s0 378 (lwL i) [] 114 M := by
  obtain ⟨Q1, h1, h2⟩ := b_goodAs hI (a := xs (i + 1)) (b := xs (i + 2))
  obtain ⟨l0, hx0⟩ := inv_x10 hI
  refine y_aload (k := 1) C dL_law_378 rfl rfl ?_
  refine y_arg (k := 1) C (by omega) hN rfl rfl rfl dL_law_379 dL_law_380 dL_law_381 dL_law_382 dL_law_383 rfl ?_
  refine y_arg (k := 2) C (by omega) hN rfl rfl rfl dL_law_384 dL_law_385 dL_law_386 dL_law_387 dL_law_388 rfl ?_
  refine y_callV (As := [.int (xs (i + 1)), .int (xs (i + 2))]) (rest := []) C h1 eL_law_48 gL_law_X10_goodAs hx0 (by decide) rfl rfl rfl (Nat.le_of_ble_eq_true rfl) ⟨hk0, hs0⟩ dL_law_389 rfl rfl (fun r M1 q1 => ?_)
  obtain ⟨v, rfl, ⟨l99, hl99⟩, Q2, h3, h4⟩ := h2 r M1 q1
  refine y_aload (k := 2) C dL_law_392 rfl rfl ?_
  refine y_arg (k := 1) C (by omega) hN rfl rfl rfl dL_law_393 dL_law_394 dL_law_395 dL_law_396 dL_law_397 rfl ?_
  refine y_arg (k := 2) C (by omega) hN rfl rfl rfl dL_law_398 dL_law_399 dL_law_400 dL_law_401 dL_law_402 rfl ?_
  refine y_callV (As := [.int (xs (i + 1)), .int (xs (i + 2))]) (rest := [.int v]) C h3 eL_law_51 gL_law_X11_goodAs hl99 (by decide) rfl rfl rfl (Nat.le_of_ble_eq_true rfl) ⟨hk0, hs0⟩ dL_law_403 rfl rfl (fun r2 M2 q2 => ?_)
  obtain ⟨rfl, hI2⟩ := h4 r2 M2 q2
  refine y_icmp_eq C dL_law_406 rfl ?_
  exact kk M2 hI2
set_option maxHeartbeats 4000000 in
set_option maxRecDepth 100000 in
theorem l_case_9 {g : xG} {p : Program} {l : Launch} {e : Env} {s : State} {m : MethodId} {args : Array Value} {below : List Frame} {meth : Method} {c : Code} {Qz : State → Prop} {N : Nat} {xs : Nat → Int32} {i k0 s0 : Nat} {M : Nat → xE} (C : yCtx mL_law g p s m args c N xs) (hN : N ≤ 256) (hi : i + 3 < N) (hk0 : k0 ≤ 600000) (hs0 : s0 ≤ 7302250) (hI : INV M) (kk : ∀ M', INV M' → LW mL_law g p l e s m args below meth c Qz k0 s0 1038 (lwL i) [] 114 M') : LW mL_law g p l e s m args below meth c Qz k0 s0 411 (lwL i) [] 114 M := by
  obtain ⟨Q1, h1, h2⟩ := b_does hI (a := xs (i + 1)) (b := xs (i + 2))
  obtain ⟨l0, hx0⟩ := inv_x10 hI
  refine y_aload (k := 1) C dL_law_411 rfl rfl ?_
  refine y_arg (k := 1) C (by omega) hN rfl rfl rfl dL_law_412 dL_law_413 dL_law_414 dL_law_415 dL_law_416 rfl ?_
  refine y_arg (k := 2) C (by omega) hN rfl rfl rfl dL_law_417 dL_law_418 dL_law_419 dL_law_420 dL_law_421 rfl ?_
  refine y_callV (As := [.int (xs (i + 1)), .int (xs (i + 2))]) (rest := []) C h1 eL_law_52 gL_law_X10_does hx0 (by decide) rfl rfl rfl (Nat.le_of_ble_eq_true rfl) ⟨hk0, hs0⟩ dL_law_422 rfl rfl (fun r M1 q1 => ?_)
  obtain ⟨v, rfl, ⟨l99, hl99⟩, Q2, h3, h4⟩ := h2 r M1 q1
  refine y_aload (k := 2) C dL_law_425 rfl rfl ?_
  refine y_arg (k := 1) C (by omega) hN rfl rfl rfl dL_law_426 dL_law_427 dL_law_428 dL_law_429 dL_law_430 rfl ?_
  refine y_arg (k := 2) C (by omega) hN rfl rfl rfl dL_law_431 dL_law_432 dL_law_433 dL_law_434 dL_law_435 rfl ?_
  refine y_callV (As := [.int (xs (i + 1)), .int (xs (i + 2))]) (rest := [.int v]) C h3 eL_law_55 gL_law_X11_does hl99 (by decide) rfl rfl rfl (Nat.le_of_ble_eq_true rfl) ⟨hk0, hs0⟩ dL_law_436 rfl rfl (fun r2 M2 q2 => ?_)
  obtain ⟨rfl, hI2⟩ := h4 r2 M2 q2
  refine y_icmp_eq C dL_law_439 rfl ?_
  exact kk M2 hI2
set_option maxHeartbeats 4000000 in
set_option maxRecDepth 100000 in
theorem l_case_10 {g : xG} {p : Program} {l : Launch} {e : Env} {s : State} {m : MethodId} {args : Array Value} {below : List Frame} {meth : Method} {c : Code} {Qz : State → Prop} {N : Nat} {xs : Nat → Int32} {i k0 s0 : Nat} {M : Nat → xE} (C : yCtx mL_law g p s m args c N xs) (hN : N ≤ 256) (hi : i + 3 < N) (hk0 : k0 ≤ 600000) (hs0 : s0 ≤ 7302250) (hI : INV M) (kk : ∀ M', INV M' → LW mL_law g p l e s m args below meth c Qz k0 s0 1038 (lwL i) [] 114 M') : LW mL_law g p l e s m args below meth c Qz k0 s0 444 (lwL i) [] 114 M := by
  obtain ⟨Q1, h1, h2⟩ := b_marry hI (a := xs (i + 1)) (b := xs (i + 2))
  obtain ⟨l0, hx0⟩ := inv_x10 hI
  refine y_aload (k := 1) C dL_law_444 rfl rfl ?_
  refine y_arg (k := 1) C (by omega) hN rfl rfl rfl dL_law_445 dL_law_446 dL_law_447 dL_law_448 dL_law_449 rfl ?_
  refine y_arg (k := 2) C (by omega) hN rfl rfl rfl dL_law_450 dL_law_451 dL_law_452 dL_law_453 dL_law_454 rfl ?_
  refine y_callV (As := [.int (xs (i + 1)), .int (xs (i + 2))]) (rest := []) C h1 eL_law_56 gL_law_X10_marry hx0 (by decide) rfl rfl rfl (Nat.le_of_ble_eq_true rfl) ⟨hk0, hs0⟩ dL_law_455 rfl rfl (fun r M1 q1 => ?_)
  obtain ⟨v, rfl, ⟨l99, hl99⟩, Q2, h3, h4⟩ := h2 r M1 q1
  refine y_aload (k := 2) C dL_law_458 rfl rfl ?_
  refine y_arg (k := 1) C (by omega) hN rfl rfl rfl dL_law_459 dL_law_460 dL_law_461 dL_law_462 dL_law_463 rfl ?_
  refine y_arg (k := 2) C (by omega) hN rfl rfl rfl dL_law_464 dL_law_465 dL_law_466 dL_law_467 dL_law_468 rfl ?_
  refine y_callV (As := [.int (xs (i + 1)), .int (xs (i + 2))]) (rest := [.int v]) C h3 eL_law_59 gL_law_X11_marry hl99 (by decide) rfl rfl rfl (Nat.le_of_ble_eq_true rfl) ⟨hk0, hs0⟩ dL_law_469 rfl rfl (fun r2 M2 q2 => ?_)
  obtain ⟨rfl, hI2⟩ := h4 r2 M2 q2
  refine y_icmp_eq C dL_law_472 rfl ?_
  exact kk M2 hI2
set_option maxHeartbeats 4000000 in
set_option maxRecDepth 100000 in
theorem l_case_11 {g : xG} {p : Program} {l : Launch} {e : Env} {s : State} {m : MethodId} {args : Array Value} {below : List Frame} {meth : Method} {c : Code} {Qz : State → Prop} {N : Nat} {xs : Nat → Int32} {i k0 s0 : Nat} {M : Nat → xE} (C : yCtx mL_law g p s m args c N xs) (hN : N ≤ 256) (hi : i + 3 < N) (hk0 : k0 ≤ 600000) (hs0 : s0 ≤ 7302250) (hI : INV M) (kk : ∀ M', INV M' → LW mL_law g p l e s m args below meth c Qz k0 s0 1038 (lwL i) [] 114 M') : LW mL_law g p l e s m args below meth c Qz k0 s0 477 (lwL i) [] 114 M := by
  obtain ⟨Q1, h1, h2⟩ := b_sell hI (a := xs (i + 1))
  obtain ⟨l0, hx0⟩ := inv_x10 hI
  refine y_aload (k := 1) C dL_law_477 rfl rfl ?_
  refine y_arg (k := 1) C (by omega) hN rfl rfl rfl dL_law_478 dL_law_479 dL_law_480 dL_law_481 dL_law_482 rfl ?_
  refine y_callV (As := [.int (xs (i + 1))]) (rest := []) C h1 eL_law_60 gL_law_X10_sell hx0 (by decide) rfl rfl rfl (Nat.le_of_ble_eq_true rfl) ⟨hk0, hs0⟩ dL_law_483 rfl rfl (fun r M1 q1 => ?_)
  obtain ⟨v, rfl, ⟨l99, hl99⟩, Q2, h3, h4⟩ := h2 r M1 q1
  refine y_aload (k := 2) C dL_law_486 rfl rfl ?_
  refine y_arg (k := 1) C (by omega) hN rfl rfl rfl dL_law_487 dL_law_488 dL_law_489 dL_law_490 dL_law_491 rfl ?_
  refine y_callV (As := [.int (xs (i + 1))]) (rest := [.int v]) C h3 eL_law_63 gL_law_X11_sell hl99 (by decide) rfl rfl rfl (Nat.le_of_ble_eq_true rfl) ⟨hk0, hs0⟩ dL_law_492 rfl rfl (fun r2 M2 q2 => ?_)
  obtain ⟨rfl, hI2⟩ := h4 r2 M2 q2
  refine y_icmp_eq C dL_law_495 rfl ?_
  exact kk M2 hI2
set_option maxHeartbeats 4000000 in
set_option maxRecDepth 100000 in
theorem l_case_12 {g : xG} {p : Program} {l : Launch} {e : Env} {s : State} {m : MethodId} {args : Array Value} {below : List Frame} {meth : Method} {c : Code} {Qz : State → Prop} {N : Nat} {xs : Nat → Int32} {i k0 s0 : Nat} {M : Nat → xE} (C : yCtx mL_law g p s m args c N xs) (hN : N ≤ 256) (hi : i + 3 < N) (hk0 : k0 ≤ 600000) (hs0 : s0 ≤ 7302250) (hI : INV M) (kk : ∀ M', INV M' → LW mL_law g p l e s m args below meth c Qz k0 s0 1038 (lwL i) [] 114 M') : LW mL_law g p l e s m args below meth c Qz k0 s0 500 (lwL i) [] 114 M := by
  obtain ⟨Q1, h1, h2⟩ := b_oversleep hI (a := xs (i + 1)) (b := xs (i + 2))
  obtain ⟨l0, hx0⟩ := inv_x10 hI
  refine y_aload (k := 1) C dL_law_500 rfl rfl ?_
  refine y_arg (k := 1) C (by omega) hN rfl rfl rfl dL_law_501 dL_law_502 dL_law_503 dL_law_504 dL_law_505 rfl ?_
  refine y_arg (k := 2) C (by omega) hN rfl rfl rfl dL_law_506 dL_law_507 dL_law_508 dL_law_509 dL_law_510 rfl ?_
  refine y_callV (As := [.int (xs (i + 1)), .int (xs (i + 2))]) (rest := []) C h1 eL_law_64 gL_law_X10_oversleep hx0 (by decide) rfl rfl rfl (Nat.le_of_ble_eq_true rfl) ⟨hk0, hs0⟩ dL_law_511 rfl rfl (fun r M1 q1 => ?_)
  obtain ⟨v, rfl, ⟨l99, hl99⟩, Q2, h3, h4⟩ := h2 r M1 q1
  refine y_aload (k := 2) C dL_law_514 rfl rfl ?_
  refine y_arg (k := 1) C (by omega) hN rfl rfl rfl dL_law_515 dL_law_516 dL_law_517 dL_law_518 dL_law_519 rfl ?_
  refine y_arg (k := 2) C (by omega) hN rfl rfl rfl dL_law_520 dL_law_521 dL_law_522 dL_law_523 dL_law_524 rfl ?_
  refine y_callV (As := [.int (xs (i + 1)), .int (xs (i + 2))]) (rest := [.int v]) C h3 eL_law_67 gL_law_X11_oversleep hl99 (by decide) rfl rfl rfl (Nat.le_of_ble_eq_true rfl) ⟨hk0, hs0⟩ dL_law_525 rfl rfl (fun r2 M2 q2 => ?_)
  obtain ⟨rfl, hI2⟩ := h4 r2 M2 q2
  refine y_icmp_eq C dL_law_528 rfl ?_
  exact kk M2 hI2
set_option maxHeartbeats 4000000 in
set_option maxRecDepth 100000 in
theorem l_case_13 {g : xG} {p : Program} {l : Launch} {e : Env} {s : State} {m : MethodId} {args : Array Value} {below : List Frame} {meth : Method} {c : Code} {Qz : State → Prop} {N : Nat} {xs : Nat → Int32} {i k0 s0 : Nat} {M : Nat → xE} (C : yCtx mL_law g p s m args c N xs) (hN : N ≤ 256) (hi : i + 3 < N) (hk0 : k0 ≤ 600000) (hs0 : s0 ≤ 7302250) (hI : INV M) (kk : ∀ M', INV M' → LW mL_law g p l e s m args below meth c Qz k0 s0 1038 (lwL i) [] 114 M') : LW mL_law g p l e s m args below meth c Qz k0 s0 533 (lwL i) [] 114 M := by
  obtain ⟨Q1, h1, h2⟩ := b_sleep hI (z := xs (i + 1))
  obtain ⟨l0, hx0⟩ := inv_x10 hI
  refine y_aload (k := 1) C dL_law_533 rfl rfl ?_
  refine y_arg (k := 1) C (by omega) hN rfl rfl rfl dL_law_534 dL_law_535 dL_law_536 dL_law_537 dL_law_538 rfl ?_
  refine y_callV (As := [.int (xs (i + 1))]) (rest := []) C h1 eL_law_68 gL_law_X10_sleep hx0 (by decide) rfl rfl rfl (Nat.le_of_ble_eq_true rfl) ⟨hk0, hs0⟩ dL_law_539 rfl rfl (fun r M1 q1 => ?_)
  obtain ⟨v, rfl, ⟨l99, hl99⟩, Q2, h3, h4⟩ := h2 r M1 q1
  refine y_aload (k := 2) C dL_law_542 rfl rfl ?_
  refine y_arg (k := 1) C (by omega) hN rfl rfl rfl dL_law_543 dL_law_544 dL_law_545 dL_law_546 dL_law_547 rfl ?_
  refine y_callV (As := [.int (xs (i + 1))]) (rest := [.int v]) C h3 eL_law_71 gL_law_X11_sleep hl99 (by decide) rfl rfl rfl (Nat.le_of_ble_eq_true rfl) ⟨hk0, hs0⟩ dL_law_548 rfl rfl (fun r2 M2 q2 => ?_)
  obtain ⟨rfl, hI2⟩ := h4 r2 M2 q2
  refine y_icmp_eq C dL_law_551 rfl ?_
  exact kk M2 hI2
set_option maxHeartbeats 4000000 in
set_option maxRecDepth 100000 in
theorem l_case_14 {g : xG} {p : Program} {l : Launch} {e : Env} {s : State} {m : MethodId} {args : Array Value} {below : List Frame} {meth : Method} {c : Code} {Qz : State → Prop} {N : Nat} {xs : Nat → Int32} {i k0 s0 : Nat} {M : Nat → xE} (C : yCtx mL_law g p s m args c N xs) (hN : N ≤ 256) (hi : i + 3 < N) (hk0 : k0 ≤ 600000) (hs0 : s0 ≤ 7302250) (hI : INV M) (kk : ∀ M', INV M' → LW mL_law g p l e s m args below meth c Qz k0 s0 1038 (lwL i) [] 114 M') : LW mL_law g p l e s m args below meth c Qz k0 s0 556 (lwL i) [] 114 M := by
  obtain ⟨Q1, h1, h2⟩ := b_undo hI
  obtain ⟨l0, hx0⟩ := inv_x10 hI
  refine y_aload (k := 1) C dL_law_556 rfl rfl ?_
  refine y_callV (As := []) (rest := []) C h1 eL_law_72 gL_law_X10_undo hx0 (by decide) rfl rfl rfl (Nat.le_of_ble_eq_true rfl) ⟨hk0, hs0⟩ dL_law_557 rfl rfl (fun r M1 q1 => ?_)
  obtain ⟨v, rfl, ⟨l99, hl99⟩, Q2, h3, h4⟩ := h2 r M1 q1
  refine y_aload (k := 2) C dL_law_560 rfl rfl ?_
  refine y_callV (As := []) (rest := [.int v]) C h3 eL_law_75 gL_law_X11_undo hl99 (by decide) rfl rfl rfl (Nat.le_of_ble_eq_true rfl) ⟨hk0, hs0⟩ dL_law_561 rfl rfl (fun r2 M2 q2 => ?_)
  obtain ⟨rfl, hI2⟩ := h4 r2 M2 q2
  refine y_icmp_eq C dL_law_564 rfl ?_
  exact kk M2 hI2
set_option maxHeartbeats 4000000 in
set_option maxRecDepth 100000 in
theorem l_case_15 {g : xG} {p : Program} {l : Launch} {e : Env} {s : State} {m : MethodId} {args : Array Value} {below : List Frame} {meth : Method} {c : Code} {Qz : State → Prop} {N : Nat} {xs : Nat → Int32} {i k0 s0 : Nat} {M : Nat → xE} (C : yCtx mL_law g p s m args c N xs) (hN : N ≤ 256) (hi : i + 3 < N) (hk0 : k0 ≤ 600000) (hs0 : s0 ≤ 7302250) (hI : INV M) (kk : ∀ M', INV M' → LW mL_law g p l e s m args below meth c Qz k0 s0 1038 (lwL i) [] 114 M') : LW mL_law g p l e s m args below meth c Qz k0 s0 569 (lwL i) [] 114 M := by
  obtain ⟨Q1, h1, h2⟩ := b_keep hI (a := xs (i + 1))
  obtain ⟨l0, hx0⟩ := inv_x10 hI
  refine y_aload (k := 1) C dL_law_569 rfl rfl ?_
  refine y_arg (k := 1) C (by omega) hN rfl rfl rfl dL_law_570 dL_law_571 dL_law_572 dL_law_573 dL_law_574 rfl ?_
  refine y_callV (As := [.int (xs (i + 1))]) (rest := []) C h1 eL_law_76 gL_law_X10_keep hx0 (by decide) rfl rfl rfl (Nat.le_of_ble_eq_true rfl) ⟨hk0, hs0⟩ dL_law_575 rfl rfl (fun r M1 q1 => ?_)
  obtain ⟨v, rfl, ⟨l99, hl99⟩, Q2, h3, h4⟩ := h2 r M1 q1
  refine y_aload (k := 2) C dL_law_578 rfl rfl ?_
  refine y_arg (k := 1) C (by omega) hN rfl rfl rfl dL_law_579 dL_law_580 dL_law_581 dL_law_582 dL_law_583 rfl ?_
  refine y_callV (As := [.int (xs (i + 1))]) (rest := [.int v]) C h3 eL_law_79 gL_law_X11_keep hl99 (by decide) rfl rfl rfl (Nat.le_of_ble_eq_true rfl) ⟨hk0, hs0⟩ dL_law_584 rfl rfl (fun r2 M2 q2 => ?_)
  obtain ⟨rfl, hI2⟩ := h4 r2 M2 q2
  refine y_icmp_eq C dL_law_587 rfl ?_
  exact kk M2 hI2
set_option maxHeartbeats 4000000 in
set_option maxRecDepth 100000 in
theorem l_case_16 {g : xG} {p : Program} {l : Launch} {e : Env} {s : State} {m : MethodId} {args : Array Value} {below : List Frame} {meth : Method} {c : Code} {Qz : State → Prop} {N : Nat} {xs : Nat → Int32} {i k0 s0 : Nat} {M : Nat → xE} (C : yCtx mL_law g p s m args c N xs) (hN : N ≤ 256) (hi : i + 3 < N) (hk0 : k0 ≤ 600000) (hs0 : s0 ≤ 7302250) (hI : INV M) (kk : ∀ M', INV M' → LW mL_law g p l e s m args below meth c Qz k0 s0 1038 (lwL i) [] 114 M') : LW mL_law g p l e s m args below meth c Qz k0 s0 592 (lwL i) [] 114 M := by
  obtain ⟨Q1, h1, h2⟩ := b_back hI (a := xs (i + 1))
  obtain ⟨l0, hx0⟩ := inv_x10 hI
  refine y_aload (k := 1) C dL_law_592 rfl rfl ?_
  refine y_arg (k := 1) C (by omega) hN rfl rfl rfl dL_law_593 dL_law_594 dL_law_595 dL_law_596 dL_law_597 rfl ?_
  refine y_callV (As := [.int (xs (i + 1))]) (rest := []) C h1 eL_law_80 gL_law_X10_back hx0 (by decide) rfl rfl rfl (Nat.le_of_ble_eq_true rfl) ⟨hk0, hs0⟩ dL_law_598 rfl rfl (fun r M1 q1 => ?_)
  obtain ⟨v, rfl, ⟨l99, hl99⟩, Q2, h3, h4⟩ := h2 r M1 q1
  refine y_aload (k := 2) C dL_law_601 rfl rfl ?_
  refine y_arg (k := 1) C (by omega) hN rfl rfl rfl dL_law_602 dL_law_603 dL_law_604 dL_law_605 dL_law_606 rfl ?_
  refine y_callV (As := [.int (xs (i + 1))]) (rest := [.int v]) C h3 eL_law_83 gL_law_X11_back hl99 (by decide) rfl rfl rfl (Nat.le_of_ble_eq_true rfl) ⟨hk0, hs0⟩ dL_law_607 rfl rfl (fun r2 M2 q2 => ?_)
  obtain ⟨rfl, hI2⟩ := h4 r2 M2 q2
  refine y_icmp_eq C dL_law_610 rfl ?_
  exact kk M2 hI2
set_option maxHeartbeats 4000000 in
set_option maxRecDepth 100000 in
theorem l_case_17 {g : xG} {p : Program} {l : Launch} {e : Env} {s : State} {m : MethodId} {args : Array Value} {below : List Frame} {meth : Method} {c : Code} {Qz : State → Prop} {N : Nat} {xs : Nat → Int32} {i k0 s0 : Nat} {M : Nat → xE} (C : yCtx mL_law g p s m args c N xs) (hN : N ≤ 256) (hi : i + 3 < N) (hk0 : k0 ≤ 600000) (hs0 : s0 ≤ 7302250) (hI : INV M) (kk : ∀ M', INV M' → LW mL_law g p l e s m args below meth c Qz k0 s0 1038 (lwL i) [] 114 M') : LW mL_law g p l e s m args below meth c Qz k0 s0 615 (lwL i) [] 114 M := by
  obtain ⟨Q1, h1, h2⟩ := b_plan hI
  obtain ⟨l0, hx0⟩ := inv_x10 hI
  refine y_aload (k := 1) C dL_law_615 rfl rfl ?_
  refine y_callV (As := []) (rest := []) C h1 eL_law_84 gL_law_X10_plan hx0 (by decide) rfl rfl rfl (Nat.le_of_ble_eq_true rfl) ⟨hk0, hs0⟩ dL_law_616 rfl rfl (fun r M1 q1 => ?_)
  obtain ⟨v, rfl, ⟨l99, hl99⟩, Q2, h3, h4⟩ := h2 r M1 q1
  refine y_aload (k := 2) C dL_law_619 rfl rfl ?_
  refine y_callV (As := []) (rest := [.int v]) C h3 eL_law_87 gL_law_X11_plan hl99 (by decide) rfl rfl rfl (Nat.le_of_ble_eq_true rfl) ⟨hk0, hs0⟩ dL_law_620 rfl rfl (fun r2 M2 q2 => ?_)
  obtain ⟨rfl, hI2⟩ := h4 r2 M2 q2
  refine y_icmp_eq C dL_law_623 rfl ?_
  exact kk M2 hI2
set_option maxHeartbeats 4000000 in
set_option maxRecDepth 100000 in
theorem l_case_18 {g : xG} {p : Program} {l : Launch} {e : Env} {s : State} {m : MethodId} {args : Array Value} {below : List Frame} {meth : Method} {c : Code} {Qz : State → Prop} {N : Nat} {xs : Nat → Int32} {i k0 s0 : Nat} {M : Nat → xE} (C : yCtx mL_law g p s m args c N xs) (hN : N ≤ 256) (hi : i + 3 < N) (hk0 : k0 ≤ 600000) (hs0 : s0 ≤ 7302250) (hI : INV M) (kk : ∀ M', INV M' → LW mL_law g p l e s m args below meth c Qz k0 s0 1038 (lwL i) [] 114 M') : LW mL_law g p l e s m args below meth c Qz k0 s0 628 (lwL i) [] 114 M := by
  obtain ⟨Q1, h1, h2⟩ := b_planOf hI (a := xs (i + 1))
  obtain ⟨l0, hx0⟩ := inv_x10 hI
  refine y_aload (k := 1) C dL_law_628 rfl rfl ?_
  refine y_arg (k := 1) C (by omega) hN rfl rfl rfl dL_law_629 dL_law_630 dL_law_631 dL_law_632 dL_law_633 rfl ?_
  refine y_callV (As := [.int (xs (i + 1))]) (rest := []) C h1 eL_law_88 gL_law_X10_planOf hx0 (by decide) rfl rfl rfl (Nat.le_of_ble_eq_true rfl) ⟨hk0, hs0⟩ dL_law_634 rfl rfl (fun r M1 q1 => ?_)
  obtain ⟨v, rfl, ⟨l99, hl99⟩, Q2, h3, h4⟩ := h2 r M1 q1
  refine y_aload (k := 2) C dL_law_637 rfl rfl ?_
  refine y_arg (k := 1) C (by omega) hN rfl rfl rfl dL_law_638 dL_law_639 dL_law_640 dL_law_641 dL_law_642 rfl ?_
  refine y_callV (As := [.int (xs (i + 1))]) (rest := [.int v]) C h3 eL_law_91 gL_law_X11_planOf hl99 (by decide) rfl rfl rfl (Nat.le_of_ble_eq_true rfl) ⟨hk0, hs0⟩ dL_law_643 rfl rfl (fun r2 M2 q2 => ?_)
  obtain ⟨rfl, hI2⟩ := h4 r2 M2 q2
  refine y_icmp_eq C dL_law_646 rfl ?_
  exact kk M2 hI2
set_option maxHeartbeats 4000000 in
set_option maxRecDepth 100000 in
theorem l_case_19 {g : xG} {p : Program} {l : Launch} {e : Env} {s : State} {m : MethodId} {args : Array Value} {below : List Frame} {meth : Method} {c : Code} {Qz : State → Prop} {N : Nat} {xs : Nat → Int32} {i k0 s0 : Nat} {M : Nat → xE} (C : yCtx mL_law g p s m args c N xs) (hN : N ≤ 256) (hi : i + 3 < N) (hk0 : k0 ≤ 600000) (hs0 : s0 ≤ 7302250) (hI : INV M) (kk : ∀ M', INV M' → LW mL_law g p l e s m args below meth c Qz k0 s0 1038 (lwL i) [] 114 M') : LW mL_law g p l e s m args below meth c Qz k0 s0 651 (lwL i) [] 114 M := by
  obtain ⟨Q1, h1, h2⟩ := b_shortest hI
  obtain ⟨l0, hx0⟩ := inv_x10 hI
  refine y_aload (k := 1) C dL_law_651 rfl rfl ?_
  refine y_callV (As := []) (rest := []) C h1 eL_law_92 gL_law_X10_shortest hx0 (by decide) rfl rfl rfl (Nat.le_of_ble_eq_true rfl) ⟨hk0, hs0⟩ dL_law_652 rfl rfl (fun r M1 q1 => ?_)
  obtain ⟨v, rfl, ⟨l99, hl99⟩, Q2, h3, h4⟩ := h2 r M1 q1
  refine y_aload (k := 2) C dL_law_655 rfl rfl ?_
  refine y_callV (As := []) (rest := [.int v]) C h3 eL_law_95 gL_law_X11_shortest hl99 (by decide) rfl rfl rfl (Nat.le_of_ble_eq_true rfl) ⟨hk0, hs0⟩ dL_law_656 rfl rfl (fun r2 M2 q2 => ?_)
  obtain ⟨rfl, hI2⟩ := h4 r2 M2 q2
  refine y_icmp_eq C dL_law_659 rfl ?_
  exact kk M2 hI2
set_option maxHeartbeats 4000000 in
set_option maxRecDepth 100000 in
theorem l_case_20 {g : xG} {p : Program} {l : Launch} {e : Env} {s : State} {m : MethodId} {args : Array Value} {below : List Frame} {meth : Method} {c : Code} {Qz : State → Prop} {N : Nat} {xs : Nat → Int32} {i k0 s0 : Nat} {M : Nat → xE} (C : yCtx mL_law g p s m args c N xs) (hN : N ≤ 256) (hi : i + 3 < N) (hk0 : k0 ≤ 600000) (hs0 : s0 ≤ 7302250) (hI : INV M) (kk : ∀ M', INV M' → LW mL_law g p l e s m args below meth c Qz k0 s0 1038 (lwL i) [] 114 M') : LW mL_law g p l e s m args below meth c Qz k0 s0 664 (lwL i) [] 114 M := by
  obtain ⟨Q1, h1, h2⟩ := b_sale hI (a := xs (i + 1)) (b := xs (i + 2))
  obtain ⟨l0, hx0⟩ := inv_x10 hI
  refine y_aload (k := 1) C dL_law_664 rfl rfl ?_
  refine y_arg (k := 1) C (by omega) hN rfl rfl rfl dL_law_665 dL_law_666 dL_law_667 dL_law_668 dL_law_669 rfl ?_
  refine y_arg (k := 2) C (by omega) hN rfl rfl rfl dL_law_670 dL_law_671 dL_law_672 dL_law_673 dL_law_674 rfl ?_
  refine y_callV (As := [.int (xs (i + 1)), .int (xs (i + 2))]) (rest := []) C h1 eL_law_96 gL_law_X10_sale hx0 (by decide) rfl rfl rfl (Nat.le_of_ble_eq_true rfl) ⟨hk0, hs0⟩ dL_law_675 rfl rfl (fun r M1 q1 => ?_)
  obtain ⟨v, rfl, ⟨l99, hl99⟩, Q2, h3, h4⟩ := h2 r M1 q1
  refine y_aload (k := 2) C dL_law_678 rfl rfl ?_
  refine y_arg (k := 1) C (by omega) hN rfl rfl rfl dL_law_679 dL_law_680 dL_law_681 dL_law_682 dL_law_683 rfl ?_
  refine y_arg (k := 2) C (by omega) hN rfl rfl rfl dL_law_684 dL_law_685 dL_law_686 dL_law_687 dL_law_688 rfl ?_
  refine y_callV (As := [.int (xs (i + 1)), .int (xs (i + 2))]) (rest := [.int v]) C h3 eL_law_99 gL_law_X11_sale hl99 (by decide) rfl rfl rfl (Nat.le_of_ble_eq_true rfl) ⟨hk0, hs0⟩ dL_law_689 rfl rfl (fun r2 M2 q2 => ?_)
  obtain ⟨rfl, hI2⟩ := h4 r2 M2 q2
  refine y_icmp_eq C dL_law_692 rfl ?_
  exact kk M2 hI2
set_option maxHeartbeats 4000000 in
set_option maxRecDepth 100000 in
theorem l_case_21 {g : xG} {p : Program} {l : Launch} {e : Env} {s : State} {m : MethodId} {args : Array Value} {below : List Frame} {meth : Method} {c : Code} {Qz : State → Prop} {N : Nat} {xs : Nat → Int32} {i k0 s0 : Nat} {M : Nat → xE} (C : yCtx mL_law g p s m args c N xs) (hN : N ≤ 256) (hi : i + 3 < N) (hk0 : k0 ≤ 600000) (hs0 : s0 ≤ 7302250) (hI : INV M) (kk : ∀ M', INV M' → LW mL_law g p l e s m args below meth c Qz k0 s0 1038 (lwL i) [] 114 M') : LW mL_law g p l e s m args below meth c Qz k0 s0 697 (lwL i) [] 114 M := by
  obtain ⟨Q1, h1, h2⟩ := b_odds hI (a := xs (i + 1)) (b := xs (i + 2)) (c := xs (i + 3))
  obtain ⟨l0, hx0⟩ := inv_x10 hI
  refine y_aload (k := 1) C dL_law_697 rfl rfl ?_
  refine y_arg (k := 1) C (by omega) hN rfl rfl rfl dL_law_698 dL_law_699 dL_law_700 dL_law_701 dL_law_702 rfl ?_
  refine y_arg (k := 2) C (by omega) hN rfl rfl rfl dL_law_703 dL_law_704 dL_law_705 dL_law_706 dL_law_707 rfl ?_
  refine y_arg (k := 3) C (by omega) hN rfl rfl rfl dL_law_708 dL_law_709 dL_law_710 dL_law_711 dL_law_712 rfl ?_
  refine y_callV (As := [.int (xs (i + 1)), .int (xs (i + 2)), .int (xs (i + 3))]) (rest := []) C h1 eL_law_100 gL_law_X10_odds hx0 (by decide) rfl rfl rfl (Nat.le_of_ble_eq_true rfl) ⟨hk0, hs0⟩ dL_law_713 rfl rfl (fun r M1 q1 => ?_)
  obtain ⟨v, rfl, ⟨l99, hl99⟩, Q2, h3, h4⟩ := h2 r M1 q1
  refine y_aload (k := 2) C dL_law_716 rfl rfl ?_
  refine y_arg (k := 1) C (by omega) hN rfl rfl rfl dL_law_717 dL_law_718 dL_law_719 dL_law_720 dL_law_721 rfl ?_
  refine y_arg (k := 2) C (by omega) hN rfl rfl rfl dL_law_722 dL_law_723 dL_law_724 dL_law_725 dL_law_726 rfl ?_
  refine y_arg (k := 3) C (by omega) hN rfl rfl rfl dL_law_727 dL_law_728 dL_law_729 dL_law_730 dL_law_731 rfl ?_
  refine y_callV (As := [.int (xs (i + 1)), .int (xs (i + 2)), .int (xs (i + 3))]) (rest := [.long v]) C h3 eL_law_104 gL_law_X11_odds hl99 (by decide) rfl rfl rfl (Nat.le_of_ble_eq_true rfl) ⟨hk0, hs0⟩ dL_law_732 rfl rfl (fun r2 M2 q2 => ?_)
  obtain ⟨rfl, hI2⟩ := h4 r2 M2 q2
  refine y_lcmp C dL_law_735 rfl ?_
  rw [lg_cmp_self]
  refine y_if_eq C dL_law_736 rfl ?_
  exact kk M2 hI2
set_option maxHeartbeats 4000000 in
set_option maxRecDepth 100000 in
theorem l_case_22 {g : xG} {p : Program} {l : Launch} {e : Env} {s : State} {m : MethodId} {args : Array Value} {below : List Frame} {meth : Method} {c : Code} {Qz : State → Prop} {N : Nat} {xs : Nat → Int32} {i k0 s0 : Nat} {M : Nat → xE} (C : yCtx mL_law g p s m args c N xs) (hN : N ≤ 256) (hi : i + 3 < N) (hk0 : k0 ≤ 600000) (hs0 : s0 ≤ 7302250) (hI : INV M) (kk : ∀ M', INV M' → LW mL_law g p l e s m args below meth c Qz k0 s0 1038 (lwL i) [] 114 M') : LW mL_law g p l e s m args below meth c Qz k0 s0 741 (lwL i) [] 114 M := by
  obtain ⟨Q1, h1, h2⟩ := b_sign hI (a := xs (i + 1)) (b := xs (i + 2)) (c := xs (i + 3))
  obtain ⟨l0, hx0⟩ := inv_x10 hI
  refine y_aload (k := 1) C dL_law_741 rfl rfl ?_
  refine y_arg (k := 1) C (by omega) hN rfl rfl rfl dL_law_742 dL_law_743 dL_law_744 dL_law_745 dL_law_746 rfl ?_
  refine y_arg (k := 2) C (by omega) hN rfl rfl rfl dL_law_747 dL_law_748 dL_law_749 dL_law_750 dL_law_751 rfl ?_
  refine y_arg (k := 3) C (by omega) hN rfl rfl rfl dL_law_752 dL_law_753 dL_law_754 dL_law_755 dL_law_756 rfl ?_
  refine y_callV (As := [.int (xs (i + 1)), .int (xs (i + 2)), .int (xs (i + 3))]) (rest := []) C h1 eL_law_105 gL_law_X10_sign hx0 (by decide) rfl rfl rfl (Nat.le_of_ble_eq_true rfl) ⟨hk0, hs0⟩ dL_law_757 rfl rfl (fun r M1 q1 => ?_)
  obtain ⟨v, rfl, ⟨l99, hl99⟩, Q2, h3, h4⟩ := h2 r M1 q1
  refine y_aload (k := 2) C dL_law_760 rfl rfl ?_
  refine y_arg (k := 1) C (by omega) hN rfl rfl rfl dL_law_761 dL_law_762 dL_law_763 dL_law_764 dL_law_765 rfl ?_
  refine y_arg (k := 2) C (by omega) hN rfl rfl rfl dL_law_766 dL_law_767 dL_law_768 dL_law_769 dL_law_770 rfl ?_
  refine y_arg (k := 3) C (by omega) hN rfl rfl rfl dL_law_771 dL_law_772 dL_law_773 dL_law_774 dL_law_775 rfl ?_
  refine y_callV (As := [.int (xs (i + 1)), .int (xs (i + 2)), .int (xs (i + 3))]) (rest := [.int v]) C h3 eL_law_109 gL_law_X11_sign hl99 (by decide) rfl rfl rfl (Nat.le_of_ble_eq_true rfl) ⟨hk0, hs0⟩ dL_law_776 rfl rfl (fun r2 M2 q2 => ?_)
  obtain ⟨rfl, hI2⟩ := h4 r2 M2 q2
  refine y_icmp_eq C dL_law_779 rfl ?_
  exact kk M2 hI2
set_option maxHeartbeats 4000000 in
set_option maxRecDepth 100000 in
theorem l_case_23 {g : xG} {p : Program} {l : Launch} {e : Env} {s : State} {m : MethodId} {args : Array Value} {below : List Frame} {meth : Method} {c : Code} {Qz : State → Prop} {N : Nat} {xs : Nat → Int32} {i k0 s0 : Nat} {M : Nat → xE} (C : yCtx mL_law g p s m args c N xs) (hN : N ≤ 256) (hi : i + 3 < N) (hk0 : k0 ≤ 600000) (hs0 : s0 ≤ 7302250) (hI : INV M) (kk : ∀ M', INV M' → LW mL_law g p l e s m args below meth c Qz k0 s0 1038 (lwL i) [] 114 M') : LW mL_law g p l e s m args below meth c Qz k0 s0 784 (lwL i) [] 114 M := by
  obtain ⟨Q1, h1, h2⟩ := b_forget hI
  obtain ⟨l0, hx0⟩ := inv_x10 hI
  refine y_aload (k := 1) C dL_law_784 rfl rfl ?_
  refine y_callV (As := []) (rest := []) C h1 eL_law_110 gL_law_X10_forget hx0 (by decide) rfl rfl rfl (Nat.le_of_ble_eq_true rfl) ⟨hk0, hs0⟩ dL_law_785 rfl rfl (fun r M1 q1 => ?_)
  obtain ⟨v, rfl, ⟨l99, hl99⟩, Q2, h3, h4⟩ := h2 r M1 q1
  refine y_aload (k := 2) C dL_law_788 rfl rfl ?_
  refine y_callV (As := []) (rest := [.int v]) C h3 eL_law_113 gL_law_X11_forget hl99 (by decide) rfl rfl rfl (Nat.le_of_ble_eq_true rfl) ⟨hk0, hs0⟩ dL_law_789 rfl rfl (fun r2 M2 q2 => ?_)
  obtain ⟨rfl, hI2⟩ := h4 r2 M2 q2
  refine y_icmp_eq C dL_law_792 rfl ?_
  exact kk M2 hI2
set_option maxHeartbeats 4000000 in
set_option maxRecDepth 100000 in
theorem l_case_24 {g : xG} {p : Program} {l : Launch} {e : Env} {s : State} {m : MethodId} {args : Array Value} {below : List Frame} {meth : Method} {c : Code} {Qz : State → Prop} {N : Nat} {xs : Nat → Int32} {i k0 s0 : Nat} {M : Nat → xE} (C : yCtx mL_law g p s m args c N xs) (hN : N ≤ 256) (hi : i + 3 < N) (hk0 : k0 ≤ 600000) (hs0 : s0 ≤ 7302250) (hI : INV M) (kk : ∀ M', INV M' → LW mL_law g p l e s m args below meth c Qz k0 s0 1038 (lwL i) [] 114 M') : LW mL_law g p l e s m args below meth c Qz k0 s0 797 (lwL i) [] 114 M := by
  obtain ⟨Q1, h1, h2⟩ := b_likely hI (a := xs (i + 1)) (b := xs (i + 2)) (c := xs (i + 3))
  obtain ⟨l0, hx0⟩ := inv_x10 hI
  refine y_aload (k := 1) C dL_law_797 rfl rfl ?_
  refine y_arg (k := 1) C (by omega) hN rfl rfl rfl dL_law_798 dL_law_799 dL_law_800 dL_law_801 dL_law_802 rfl ?_
  refine y_arg (k := 2) C (by omega) hN rfl rfl rfl dL_law_803 dL_law_804 dL_law_805 dL_law_806 dL_law_807 rfl ?_
  refine y_arg (k := 3) C (by omega) hN rfl rfl rfl dL_law_808 dL_law_809 dL_law_810 dL_law_811 dL_law_812 rfl ?_
  refine y_callV (As := [.int (xs (i + 1)), .int (xs (i + 2)), .int (xs (i + 3))]) (rest := []) C h1 eL_law_114 gL_law_X10_likely hx0 (by decide) rfl rfl rfl (Nat.le_of_ble_eq_true rfl) ⟨hk0, hs0⟩ dL_law_813 rfl rfl (fun r M1 q1 => ?_)
  obtain ⟨v, rfl, ⟨l99, hl99⟩, Q2, h3, h4⟩ := h2 r M1 q1
  refine y_aload (k := 2) C dL_law_816 rfl rfl ?_
  refine y_arg (k := 1) C (by omega) hN rfl rfl rfl dL_law_817 dL_law_818 dL_law_819 dL_law_820 dL_law_821 rfl ?_
  refine y_arg (k := 2) C (by omega) hN rfl rfl rfl dL_law_822 dL_law_823 dL_law_824 dL_law_825 dL_law_826 rfl ?_
  refine y_arg (k := 3) C (by omega) hN rfl rfl rfl dL_law_827 dL_law_828 dL_law_829 dL_law_830 dL_law_831 rfl ?_
  refine y_callV (As := [.int (xs (i + 1)), .int (xs (i + 2)), .int (xs (i + 3))]) (rest := [.long v]) C h3 eL_law_117 gL_law_X11_likely hl99 (by decide) rfl rfl rfl (Nat.le_of_ble_eq_true rfl) ⟨hk0, hs0⟩ dL_law_832 rfl rfl (fun r2 M2 q2 => ?_)
  obtain ⟨rfl, hI2⟩ := h4 r2 M2 q2
  refine y_lcmp C dL_law_835 rfl ?_
  rw [lg_cmp_self]
  refine y_if_eq C dL_law_836 rfl ?_
  exact kk M2 hI2
set_option maxHeartbeats 4000000 in
set_option maxRecDepth 100000 in
theorem l_case_25 {g : xG} {p : Program} {l : Launch} {e : Env} {s : State} {m : MethodId} {args : Array Value} {below : List Frame} {meth : Method} {c : Code} {Qz : State → Prop} {N : Nat} {xs : Nat → Int32} {i k0 s0 : Nat} {M : Nat → xE} (C : yCtx mL_law g p s m args c N xs) (hN : N ≤ 256) (hi : i + 3 < N) (hk0 : k0 ≤ 600000) (hs0 : s0 ≤ 7302250) (hI : INV M) (kk : ∀ M', INV M' → LW mL_law g p l e s m args below meth c Qz k0 s0 1038 (lwL i) [] 114 M') : LW mL_law g p l e s m args below meth c Qz k0 s0 841 (lwL i) [] 114 M := by
  obtain ⟨Q1, h1, h2⟩ := b_wording hI (a := xs (i + 1))
  obtain ⟨l0, hx0⟩ := inv_x10 hI
  refine y_aload (k := 1) C dL_law_841 rfl rfl ?_
  refine y_arg (k := 1) C (by omega) hN rfl rfl rfl dL_law_842 dL_law_843 dL_law_844 dL_law_845 dL_law_846 rfl ?_
  refine y_callV (As := [.int (xs (i + 1))]) (rest := []) C h1 eL_law_118 gL_law_X10_wording hx0 (by decide) rfl rfl rfl (Nat.le_of_ble_eq_true rfl) ⟨hk0, hs0⟩ dL_law_847 rfl rfl (fun r M1 q1 => ?_)
  obtain ⟨v, rfl, ⟨l99, hl99⟩, Q2, h3, h4⟩ := h2 r M1 q1
  refine y_aload (k := 2) C dL_law_850 rfl rfl ?_
  refine y_arg (k := 1) C (by omega) hN rfl rfl rfl dL_law_851 dL_law_852 dL_law_853 dL_law_854 dL_law_855 rfl ?_
  refine y_callV (As := [.int (xs (i + 1))]) (rest := [.int v]) C h3 eL_law_121 gL_law_X11_wording hl99 (by decide) rfl rfl rfl (Nat.le_of_ble_eq_true rfl) ⟨hk0, hs0⟩ dL_law_856 rfl rfl (fun r2 M2 q2 => ?_)
  obtain ⟨rfl, hI2⟩ := h4 r2 M2 q2
  refine y_icmp_eq C dL_law_859 rfl ?_
  exact kk M2 hI2
set_option maxHeartbeats 4000000 in
set_option maxRecDepth 100000 in
theorem l_case_26 {g : xG} {p : Program} {l : Launch} {e : Env} {s : State} {m : MethodId} {args : Array Value} {below : List Frame} {meth : Method} {c : Code} {Qz : State → Prop} {N : Nat} {xs : Nat → Int32} {i k0 s0 : Nat} {M : Nat → xE} (C : yCtx mL_law g p s m args c N xs) (hN : N ≤ 256) (hi : i + 3 < N) (hk0 : k0 ≤ 600000) (hs0 : s0 ≤ 7302250) (hI : INV M) (kk : ∀ M', INV M' → LW mL_law g p l e s m args below meth c Qz k0 s0 1038 (lwL i) [] 114 M') : LW mL_law g p l e s m args below meth c Qz k0 s0 864 (lwL i) [] 114 M := by
  obtain ⟨Q1, h1, h2⟩ := b_bears hI
  obtain ⟨l0, hx0⟩ := inv_x10 hI
  refine y_aload (k := 1) C dL_law_864 rfl rfl ?_
  refine y_callV (As := []) (rest := []) C h1 eL_law_122 gL_law_X10_bears hx0 (by decide) rfl rfl rfl (Nat.le_of_ble_eq_true rfl) ⟨hk0, hs0⟩ dL_law_865 rfl rfl (fun r M1 q1 => ?_)
  obtain ⟨v, rfl, ⟨l99, hl99⟩, Q2, h3, h4⟩ := h2 r M1 q1
  refine y_aload (k := 2) C dL_law_868 rfl rfl ?_
  refine y_callV (As := []) (rest := [.int v]) C h3 eL_law_125 gL_law_X11_bears hl99 (by decide) rfl rfl rfl (Nat.le_of_ble_eq_true rfl) ⟨hk0, hs0⟩ dL_law_869 rfl rfl (fun r2 M2 q2 => ?_)
  obtain ⟨rfl, hI2⟩ := h4 r2 M2 q2
  refine y_icmp_eq C dL_law_872 rfl ?_
  exact kk M2 hI2
set_option maxHeartbeats 4000000 in
set_option maxRecDepth 100000 in
theorem l_case_27 {g : xG} {p : Program} {l : Launch} {e : Env} {s : State} {m : MethodId} {args : Array Value} {below : List Frame} {meth : Method} {c : Code} {Qz : State → Prop} {N : Nat} {xs : Nat → Int32} {i k0 s0 : Nat} {M : Nat → xE} (C : yCtx mL_law g p s m args c N xs) (hN : N ≤ 256) (hi : i + 3 < N) (hk0 : k0 ≤ 600000) (hs0 : s0 ≤ 7302250) (hI : INV M) (kk : ∀ M', INV M' → LW mL_law g p l e s m args below meth c Qz k0 s0 1038 (lwL i) [] 114 M') : LW mL_law g p l e s m args below meth c Qz k0 s0 877 (lwL i) [] 114 M := by
  obtain ⟨Q1, h1, h2⟩ := b_meant hI (a := xs (i + 1)) (b := xs (i + 2))
  obtain ⟨l0, hx0⟩ := inv_x10 hI
  refine y_aload (k := 1) C dL_law_877 rfl rfl ?_
  refine y_arg (k := 1) C (by omega) hN rfl rfl rfl dL_law_878 dL_law_879 dL_law_880 dL_law_881 dL_law_882 rfl ?_
  refine y_arg (k := 2) C (by omega) hN rfl rfl rfl dL_law_883 dL_law_884 dL_law_885 dL_law_886 dL_law_887 rfl ?_
  refine y_callV (As := [.int (xs (i + 1)), .int (xs (i + 2))]) (rest := []) C h1 eL_law_126 gL_law_X10_meant hx0 (by decide) rfl rfl rfl (Nat.le_of_ble_eq_true rfl) ⟨hk0, hs0⟩ dL_law_888 rfl rfl (fun r M1 q1 => ?_)
  obtain ⟨v, rfl, ⟨l99, hl99⟩, Q2, h3, h4⟩ := h2 r M1 q1
  refine y_aload (k := 2) C dL_law_891 rfl rfl ?_
  refine y_arg (k := 1) C (by omega) hN rfl rfl rfl dL_law_892 dL_law_893 dL_law_894 dL_law_895 dL_law_896 rfl ?_
  refine y_arg (k := 2) C (by omega) hN rfl rfl rfl dL_law_897 dL_law_898 dL_law_899 dL_law_900 dL_law_901 rfl ?_
  refine y_callV (As := [.int (xs (i + 1)), .int (xs (i + 2))]) (rest := [.int v]) C h3 eL_law_129 gL_law_X11_meant hl99 (by decide) rfl rfl rfl (Nat.le_of_ble_eq_true rfl) ⟨hk0, hs0⟩ dL_law_902 rfl rfl (fun r2 M2 q2 => ?_)
  obtain ⟨rfl, hI2⟩ := h4 r2 M2 q2
  refine y_icmp_eq C dL_law_905 rfl ?_
  exact kk M2 hI2
set_option maxHeartbeats 4000000 in
set_option maxRecDepth 100000 in
theorem l_case_28 {g : xG} {p : Program} {l : Launch} {e : Env} {s : State} {m : MethodId} {args : Array Value} {below : List Frame} {meth : Method} {c : Code} {Qz : State → Prop} {N : Nat} {xs : Nat → Int32} {i k0 s0 : Nat} {M : Nat → xE} (C : yCtx mL_law g p s m args c N xs) (hN : N ≤ 256) (hi : i + 3 < N) (hk0 : k0 ≤ 600000) (hs0 : s0 ≤ 7302250) (hI : INV M) (kk : ∀ M', INV M' → LW mL_law g p l e s m args below meth c Qz k0 s0 1038 (lwL i) [] 114 M') : LW mL_law g p l e s m args below meth c Qz k0 s0 910 (lwL i) [] 114 M := by
  obtain ⟨Q1, h1, h2⟩ := b_pairs hI (a := xs (i + 1))
  obtain ⟨l0, hx0⟩ := inv_x10 hI
  refine y_aload (k := 1) C dL_law_910 rfl rfl ?_
  refine y_arg (k := 1) C (by omega) hN rfl rfl rfl dL_law_911 dL_law_912 dL_law_913 dL_law_914 dL_law_915 rfl ?_
  refine y_callV (As := [.int (xs (i + 1))]) (rest := []) C h1 eL_law_130 gL_law_X10_pairs hx0 (by decide) rfl rfl rfl (Nat.le_of_ble_eq_true rfl) ⟨hk0, hs0⟩ dL_law_916 rfl rfl (fun r M1 q1 => ?_)
  obtain ⟨v, rfl, ⟨l99, hl99⟩, Q2, h3, h4⟩ := h2 r M1 q1
  refine y_aload (k := 2) C dL_law_919 rfl rfl ?_
  refine y_arg (k := 1) C (by omega) hN rfl rfl rfl dL_law_920 dL_law_921 dL_law_922 dL_law_923 dL_law_924 rfl ?_
  refine y_callV (As := [.int (xs (i + 1))]) (rest := [.int v]) C h3 eL_law_133 gL_law_X11_pairs hl99 (by decide) rfl rfl rfl (Nat.le_of_ble_eq_true rfl) ⟨hk0, hs0⟩ dL_law_925 rfl rfl (fun r2 M2 q2 => ?_)
  obtain ⟨rfl, hI2⟩ := h4 r2 M2 q2
  refine y_icmp_eq C dL_law_928 rfl ?_
  exact kk M2 hI2
set_option maxHeartbeats 4000000 in
set_option maxRecDepth 100000 in
theorem l_case_29 {g : xG} {p : Program} {l : Launch} {e : Env} {s : State} {m : MethodId} {args : Array Value} {below : List Frame} {meth : Method} {c : Code} {Qz : State → Prop} {N : Nat} {xs : Nat → Int32} {i k0 s0 : Nat} {M : Nat → xE} (C : yCtx mL_law g p s m args c N xs) (hN : N ≤ 256) (hi : i + 3 < N) (hk0 : k0 ≤ 600000) (hs0 : s0 ≤ 7302250) (hI : INV M) (kk : ∀ M', INV M' → LW mL_law g p l e s m args below meth c Qz k0 s0 1038 (lwL i) [] 114 M') : LW mL_law g p l e s m args below meth c Qz k0 s0 933 (lwL i) [] 114 M := by
  obtain ⟨Q1, h1, h2⟩ := b_ballot hI (a := xs (i + 1))
  obtain ⟨l0, hx0⟩ := inv_x10 hI
  refine y_aload (k := 1) C dL_law_933 rfl rfl ?_
  refine y_arg (k := 1) C (by omega) hN rfl rfl rfl dL_law_934 dL_law_935 dL_law_936 dL_law_937 dL_law_938 rfl ?_
  refine y_callV (As := [.int (xs (i + 1))]) (rest := []) C h1 eL_law_134 gL_law_X10_ballot hx0 (by decide) rfl rfl rfl (Nat.le_of_ble_eq_true rfl) ⟨hk0, hs0⟩ dL_law_939 rfl rfl (fun r M1 q1 => ?_)
  obtain ⟨v, rfl, ⟨l99, hl99⟩, Q2, h3, h4⟩ := h2 r M1 q1
  refine y_aload (k := 2) C dL_law_942 rfl rfl ?_
  refine y_arg (k := 1) C (by omega) hN rfl rfl rfl dL_law_943 dL_law_944 dL_law_945 dL_law_946 dL_law_947 rfl ?_
  refine y_callV (As := [.int (xs (i + 1))]) (rest := [.int v]) C h3 eL_law_137 gL_law_X11_ballot hl99 (by decide) rfl rfl rfl (Nat.le_of_ble_eq_true rfl) ⟨hk0, hs0⟩ dL_law_948 rfl rfl (fun r2 M2 q2 => ?_)
  obtain ⟨rfl, hI2⟩ := h4 r2 M2 q2
  refine y_icmp_eq C dL_law_951 rfl ?_
  exact kk M2 hI2
set_option maxHeartbeats 4000000 in
set_option maxRecDepth 100000 in
theorem l_case_30 {g : xG} {p : Program} {l : Launch} {e : Env} {s : State} {m : MethodId} {args : Array Value} {below : List Frame} {meth : Method} {c : Code} {Qz : State → Prop} {N : Nat} {xs : Nat → Int32} {i k0 s0 : Nat} {M : Nat → xE} (C : yCtx mL_law g p s m args c N xs) (hN : N ≤ 256) (hi : i + 3 < N) (hk0 : k0 ≤ 600000) (hs0 : s0 ≤ 7302250) (hI : INV M) (kk : ∀ M', INV M' → LW mL_law g p l e s m args below meth c Qz k0 s0 1038 (lwL i) [] 114 M') : LW mL_law g p l e s m args below meth c Qz k0 s0 956 (lwL i) [] 114 M := by
  obtain ⟨Q1, h1, h2⟩ := b_mayor hI (a := xs (i + 1))
  obtain ⟨l0, hx0⟩ := inv_x10 hI
  refine y_aload (k := 1) C dL_law_956 rfl rfl ?_
  refine y_arg (k := 1) C (by omega) hN rfl rfl rfl dL_law_957 dL_law_958 dL_law_959 dL_law_960 dL_law_961 rfl ?_
  refine y_callV (As := [.int (xs (i + 1))]) (rest := []) C h1 eL_law_138 gL_law_X10_mayor hx0 (by decide) rfl rfl rfl (Nat.le_of_ble_eq_true rfl) ⟨hk0, hs0⟩ dL_law_962 rfl rfl (fun r M1 q1 => ?_)
  obtain ⟨v, rfl, ⟨l99, hl99⟩, Q2, h3, h4⟩ := h2 r M1 q1
  refine y_aload (k := 2) C dL_law_965 rfl rfl ?_
  refine y_arg (k := 1) C (by omega) hN rfl rfl rfl dL_law_966 dL_law_967 dL_law_968 dL_law_969 dL_law_970 rfl ?_
  refine y_callV (As := [.int (xs (i + 1))]) (rest := [.int v]) C h3 eL_law_141 gL_law_X11_mayor hl99 (by decide) rfl rfl rfl (Nat.le_of_ble_eq_true rfl) ⟨hk0, hs0⟩ dL_law_971 rfl rfl (fun r2 M2 q2 => ?_)
  obtain ⟨rfl, hI2⟩ := h4 r2 M2 q2
  refine y_icmp_eq C dL_law_974 rfl ?_
  exact kk M2 hI2
set_option maxHeartbeats 4000000 in
set_option maxRecDepth 100000 in
theorem l_case_31 {g : xG} {p : Program} {l : Launch} {e : Env} {s : State} {m : MethodId} {args : Array Value} {below : List Frame} {meth : Method} {c : Code} {Qz : State → Prop} {N : Nat} {xs : Nat → Int32} {i k0 s0 : Nat} {M : Nat → xE} (C : yCtx mL_law g p s m args c N xs) (hN : N ≤ 256) (hi : i + 3 < N) (hk0 : k0 ≤ 600000) (hs0 : s0 ≤ 7302250) (hI : INV M) (kk : ∀ M', INV M' → LW mL_law g p l e s m args below meth c Qz k0 s0 1038 (lwL i) [] 114 M') : LW mL_law g p l e s m args below meth c Qz k0 s0 979 (lwL i) [] 114 M := by
  obtain ⟨Q1, h1, h2⟩ := b_points hI (a := xs (i + 1))
  obtain ⟨l0, hx0⟩ := inv_x10 hI
  refine y_aload (k := 1) C dL_law_979 rfl rfl ?_
  refine y_arg (k := 1) C (by omega) hN rfl rfl rfl dL_law_980 dL_law_981 dL_law_982 dL_law_983 dL_law_984 rfl ?_
  refine y_callV (As := [.int (xs (i + 1))]) (rest := []) C h1 eL_law_142 gL_law_X10_points hx0 (by decide) rfl rfl rfl (Nat.le_of_ble_eq_true rfl) ⟨hk0, hs0⟩ dL_law_985 rfl rfl (fun r M1 q1 => ?_)
  obtain ⟨v, rfl, ⟨l99, hl99⟩, Q2, h3, h4⟩ := h2 r M1 q1
  refine y_aload (k := 2) C dL_law_988 rfl rfl ?_
  refine y_arg (k := 1) C (by omega) hN rfl rfl rfl dL_law_989 dL_law_990 dL_law_991 dL_law_992 dL_law_993 rfl ?_
  refine y_callV (As := [.int (xs (i + 1))]) (rest := [.int v]) C h3 eL_law_145 gL_law_X11_points hl99 (by decide) rfl rfl rfl (Nat.le_of_ble_eq_true rfl) ⟨hk0, hs0⟩ dL_law_994 rfl rfl (fun r2 M2 q2 => ?_)
  obtain ⟨rfl, hI2⟩ := h4 r2 M2 q2
  refine y_icmp_eq C dL_law_997 rfl ?_
  exact kk M2 hI2
set_option maxHeartbeats 4000000 in
set_option maxRecDepth 100000 in
theorem l_case_32 {g : xG} {p : Program} {l : Launch} {e : Env} {s : State} {m : MethodId} {args : Array Value} {below : List Frame} {meth : Method} {c : Code} {Qz : State → Prop} {N : Nat} {xs : Nat → Int32} {i k0 s0 : Nat} {M : Nat → xE} (C : yCtx mL_law g p s m args c N xs) (hN : N ≤ 256) (hi : i + 3 < N) (hk0 : k0 ≤ 600000) (hs0 : s0 ≤ 7302250) (hI : INV M) (kk : ∀ M', INV M' → LW mL_law g p l e s m args below meth c Qz k0 s0 1038 (lwL i) [] 114 M') : LW mL_law g p l e s m args below meth c Qz k0 s0 1002 (lwL i) [] 114 M := by
  obtain ⟨Q1, h1, h2⟩ := b_swing hI
  obtain ⟨l0, hx0⟩ := inv_x10 hI
  refine y_aload (k := 1) C dL_law_1002 rfl rfl ?_
  refine y_callV (As := []) (rest := []) C h1 eL_law_146 gL_law_X10_swing hx0 (by decide) rfl rfl rfl (Nat.le_of_ble_eq_true rfl) ⟨hk0, hs0⟩ dL_law_1003 rfl rfl (fun r M1 q1 => ?_)
  obtain ⟨v, rfl, ⟨l99, hl99⟩, Q2, h3, h4⟩ := h2 r M1 q1
  refine y_aload (k := 2) C dL_law_1006 rfl rfl ?_
  refine y_callV (As := []) (rest := [.int v]) C h3 eL_law_149 gL_law_X11_swing hl99 (by decide) rfl rfl rfl (Nat.le_of_ble_eq_true rfl) ⟨hk0, hs0⟩ dL_law_1007 rfl rfl (fun r2 M2 q2 => ?_)
  obtain ⟨rfl, hI2⟩ := h4 r2 M2 q2
  refine y_icmp_eq C dL_law_1010 rfl ?_
  exact kk M2 hI2
set_option maxHeartbeats 4000000 in
set_option maxRecDepth 100000 in
theorem l_case_33 {g : xG} {p : Program} {l : Launch} {e : Env} {s : State} {m : MethodId} {args : Array Value} {below : List Frame} {meth : Method} {c : Code} {Qz : State → Prop} {N : Nat} {xs : Nat → Int32} {i k0 s0 : Nat} {M : Nat → xE} (C : yCtx mL_law g p s m args c N xs) (hN : N ≤ 256) (hi : i + 3 < N) (hk0 : k0 ≤ 600000) (hs0 : s0 ≤ 7302250) (hI : INV M) (kk : ∀ M', INV M' → LW mL_law g p l e s m args below meth c Qz k0 s0 1038 (lwL i) [] 114 M') : LW mL_law g p l e s m args below meth c Qz k0 s0 1015 (lwL i) [] 114 M := by
  obtain ⟨Q1, h1, h2⟩ := b_count hI (b := xs (i + 1))
  obtain ⟨l0, hx0⟩ := inv_x10 hI
  refine y_aload (k := 1) C dL_law_1015 rfl rfl ?_
  refine y_arg (k := 1) C (by omega) hN rfl rfl rfl dL_law_1016 dL_law_1017 dL_law_1018 dL_law_1019 dL_law_1020 rfl ?_
  refine y_callV (As := [.int (xs (i + 1))]) (rest := []) C h1 eL_law_150 gL_law_X10_count hx0 (by decide) rfl rfl rfl (Nat.le_of_ble_eq_true rfl) ⟨hk0, hs0⟩ dL_law_1021 rfl rfl (fun r M1 q1 => ?_)
  obtain ⟨v, rfl, ⟨l99, hl99⟩, Q2, h3, h4⟩ := h2 r M1 q1
  refine y_aload (k := 2) C dL_law_1024 rfl rfl ?_
  refine y_arg (k := 1) C (by omega) hN rfl rfl rfl dL_law_1025 dL_law_1026 dL_law_1027 dL_law_1028 dL_law_1029 rfl ?_
  refine y_callV (As := [.int (xs (i + 1))]) (rest := [.int v]) C h3 eL_law_153 gL_law_X11_count hl99 (by decide) rfl rfl rfl (Nat.le_of_ble_eq_true rfl) ⟨hk0, hs0⟩ dL_law_1030 rfl rfl (fun r2 M2 q2 => ?_)
  obtain ⟨rfl, hI2⟩ := h4 r2 M2 q2
  refine y_icmp_eq C dL_law_1033 rfl ?_
  exact kk M2 hI2
set_option maxHeartbeats 4000000 in
set_option maxRecDepth 100000 in
theorem l_switch {g : xG} {p : Program} {l : Launch} {e : Env} {s : State} {m : MethodId} {args : Array Value} {below : List Frame} {meth : Method} {c : Code} {Qz : State → Prop} {N : Nat} {xs : Nat → Int32} {i k0 s0 : Nat} {M : Nat → xE} (C : yCtx mL_law g p s m args c N xs) (hN : N ≤ 256) (hi : i + 3 < N) (hk0 : k0 ≤ 600000) (hs0 : s0 ≤ 7302250) (hI : INV M) (kk : ∀ M', INV M' → LW mL_law g p l e s m args below meth c Qz k0 s0 1038 (lwL i) [] 114 M') (k : Nat) (hk : k < 64) : LW mL_law g p l e s m args below meth c Qz k0 s0 32 (lwL i) [.int (nI k)] 114 M := by
  by_cases h : k < 34
  · have h34 : k = 0 ∨ k = 1 ∨ k = 2 ∨ k = 3 ∨ k = 4 ∨ k = 5 ∨ k = 6 ∨ k = 7 ∨ k = 8 ∨ k = 9 ∨ k = 10 ∨ k = 11 ∨ k = 12 ∨ k = 13 ∨ k = 14 ∨ k = 15 ∨ k = 16 ∨ k = 17 ∨ k = 18 ∨ k = 19 ∨ k = 20 ∨ k = 21 ∨ k = 22 ∨ k = 23 ∨ k = 24 ∨ k = 25 ∨ k = 26 ∨ k = 27 ∨ k = 28 ∨ k = 29 ∨ k = 30 ∨ k = 31 ∨ k = 32 ∨ k = 33 := by omega
    rcases h34 with rfl | rfl | rfl | rfl | rfl | rfl | rfl | rfl | rfl | rfl | rfl | rfl | rfl | rfl | rfl | rfl | rfl | rfl | rfl | rfl | rfl | rfl | rfl | rfl | rfl | rfl | rfl | rfl | rfl | rfl | rfl | rfl | rfl | rfl
    · exact y_tableIn (x := nI 0) (off := 152) (t := 184) C dL_law_32 (by decide) (by decide) (by decide) (by decide) (l_case_0 C hN hi hk0 hs0 hI kk)
    · exact y_tableIn (x := nI 1) (off := 175) (t := 207) C dL_law_32 (by decide) (by decide) (by decide) (by decide) (l_case_1 C hN hi hk0 hs0 hI kk)
    · exact y_tableIn (x := nI 2) (off := 188) (t := 220) C dL_law_32 (by decide) (by decide) (by decide) (by decide) (l_case_2 C hN hi hk0 hs0 hI kk)
    · exact y_tableIn (x := nI 3) (off := 201) (t := 233) C dL_law_32 (by decide) (by decide) (by decide) (by decide) (l_case_3 C hN hi hk0 hs0 hI kk)
    · exact y_tableIn (x := nI 4) (off := 214) (t := 246) C dL_law_32 (by decide) (by decide) (by decide) (by decide) (l_case_4 C hN hi hk0 hs0 hI kk)
    · exact y_tableIn (x := nI 5) (off := 247) (t := 279) C dL_law_32 (by decide) (by decide) (by decide) (by decide) (l_case_5 C hN hi hk0 hs0 hI kk)
    · exact y_tableIn (x := nI 6) (off := 280) (t := 312) C dL_law_32 (by decide) (by decide) (by decide) (by decide) (l_case_6 C hN hi hk0 hs0 hI kk)
    · exact y_tableIn (x := nI 7) (off := 313) (t := 345) C dL_law_32 (by decide) (by decide) (by decide) (by decide) (l_case_7 C hN hi hk0 hs0 hI kk)
    · exact y_tableIn (x := nI 8) (off := 346) (t := 378) C dL_law_32 (by decide) (by decide) (by decide) (by decide) (l_case_8 C hN hi hk0 hs0 hI kk)
    · exact y_tableIn (x := nI 9) (off := 379) (t := 411) C dL_law_32 (by decide) (by decide) (by decide) (by decide) (l_case_9 C hN hi hk0 hs0 hI kk)
    · exact y_tableIn (x := nI 10) (off := 412) (t := 444) C dL_law_32 (by decide) (by decide) (by decide) (by decide) (l_case_10 C hN hi hk0 hs0 hI kk)
    · exact y_tableIn (x := nI 11) (off := 445) (t := 477) C dL_law_32 (by decide) (by decide) (by decide) (by decide) (l_case_11 C hN hi hk0 hs0 hI kk)
    · exact y_tableIn (x := nI 12) (off := 468) (t := 500) C dL_law_32 (by decide) (by decide) (by decide) (by decide) (l_case_12 C hN hi hk0 hs0 hI kk)
    · exact y_tableIn (x := nI 13) (off := 501) (t := 533) C dL_law_32 (by decide) (by decide) (by decide) (by decide) (l_case_13 C hN hi hk0 hs0 hI kk)
    · exact y_tableIn (x := nI 14) (off := 524) (t := 556) C dL_law_32 (by decide) (by decide) (by decide) (by decide) (l_case_14 C hN hi hk0 hs0 hI kk)
    · exact y_tableIn (x := nI 15) (off := 537) (t := 569) C dL_law_32 (by decide) (by decide) (by decide) (by decide) (l_case_15 C hN hi hk0 hs0 hI kk)
    · exact y_tableIn (x := nI 16) (off := 560) (t := 592) C dL_law_32 (by decide) (by decide) (by decide) (by decide) (l_case_16 C hN hi hk0 hs0 hI kk)
    · exact y_tableIn (x := nI 17) (off := 583) (t := 615) C dL_law_32 (by decide) (by decide) (by decide) (by decide) (l_case_17 C hN hi hk0 hs0 hI kk)
    · exact y_tableIn (x := nI 18) (off := 596) (t := 628) C dL_law_32 (by decide) (by decide) (by decide) (by decide) (l_case_18 C hN hi hk0 hs0 hI kk)
    · exact y_tableIn (x := nI 19) (off := 619) (t := 651) C dL_law_32 (by decide) (by decide) (by decide) (by decide) (l_case_19 C hN hi hk0 hs0 hI kk)
    · exact y_tableIn (x := nI 20) (off := 632) (t := 664) C dL_law_32 (by decide) (by decide) (by decide) (by decide) (l_case_20 C hN hi hk0 hs0 hI kk)
    · exact y_tableIn (x := nI 21) (off := 665) (t := 697) C dL_law_32 (by decide) (by decide) (by decide) (by decide) (l_case_21 C hN hi hk0 hs0 hI kk)
    · exact y_tableIn (x := nI 22) (off := 709) (t := 741) C dL_law_32 (by decide) (by decide) (by decide) (by decide) (l_case_22 C hN hi hk0 hs0 hI kk)
    · exact y_tableIn (x := nI 23) (off := 752) (t := 784) C dL_law_32 (by decide) (by decide) (by decide) (by decide) (l_case_23 C hN hi hk0 hs0 hI kk)
    · exact y_tableIn (x := nI 24) (off := 765) (t := 797) C dL_law_32 (by decide) (by decide) (by decide) (by decide) (l_case_24 C hN hi hk0 hs0 hI kk)
    · exact y_tableIn (x := nI 25) (off := 809) (t := 841) C dL_law_32 (by decide) (by decide) (by decide) (by decide) (l_case_25 C hN hi hk0 hs0 hI kk)
    · exact y_tableIn (x := nI 26) (off := 832) (t := 864) C dL_law_32 (by decide) (by decide) (by decide) (by decide) (l_case_26 C hN hi hk0 hs0 hI kk)
    · exact y_tableIn (x := nI 27) (off := 845) (t := 877) C dL_law_32 (by decide) (by decide) (by decide) (by decide) (l_case_27 C hN hi hk0 hs0 hI kk)
    · exact y_tableIn (x := nI 28) (off := 878) (t := 910) C dL_law_32 (by decide) (by decide) (by decide) (by decide) (l_case_28 C hN hi hk0 hs0 hI kk)
    · exact y_tableIn (x := nI 29) (off := 901) (t := 933) C dL_law_32 (by decide) (by decide) (by decide) (by decide) (l_case_29 C hN hi hk0 hs0 hI kk)
    · exact y_tableIn (x := nI 30) (off := 924) (t := 956) C dL_law_32 (by decide) (by decide) (by decide) (by decide) (l_case_30 C hN hi hk0 hs0 hI kk)
    · exact y_tableIn (x := nI 31) (off := 947) (t := 979) C dL_law_32 (by decide) (by decide) (by decide) (by decide) (l_case_31 C hN hi hk0 hs0 hI kk)
    · exact y_tableIn (x := nI 32) (off := 970) (t := 1002) C dL_law_32 (by decide) (by decide) (by decide) (by decide) (l_case_32 C hN hi hk0 hs0 hI kk)
    · exact y_tableIn (x := nI 33) (off := 983) (t := 1015) C dL_law_32 (by decide) (by decide) (by decide) (by decide) (l_case_33 C hN hi hk0 hs0 hI kk)
  · refine y_tableOut C dL_law_32 (Or.inr ?_) (t := 1038) (by decide) (kk M hI)
    rw [nI_toInt (by omega)]
    omega
theorem and63 (x : Int32) : ∃ k : Nat, k < 64 ∧ x &&& 63 = nI k := by
  have hx : x = nI x.toBitVec.toNat := by
    apply Int32.toBitVec_inj.mp
    show x.toBitVec = (Int32.ofNat x.toBitVec.toNat).toBitVec
    rw [Int32.toBitVec_ofNat']
    simp
  refine ⟨x.toBitVec.toNat % 2 ^ 6, Nat.mod_lt _ (by decide), ?_⟩
  rw [← fa_mask, ← hx]
  rfl
set_option maxHeartbeats 4000000 in
set_option maxRecDepth 100000 in
theorem l_step {g : xG} {p : Program} {l : Launch} {e : Env} {s : State} {m : MethodId} {args : Array Value} {below : List Frame} {meth : Method} {c : Code} {Qz : State → Prop} {N : Nat} {xs : Nat → Int32} {i k0 s0 : Nat} {M : Nat → xE} (C : yCtx mL_law g p s m args c N xs) (hN : N ≤ 256) (hi0 : i ≤ 1000) (hk0 : k0 ≤ 600000) (hs0 : s0 ≤ 7302250) (hI : INV M) (kend : LW mL_law g p l e s m args below meth c Qz k0 s0 1044 (lwL i) [] 114 M) (kn : ∀ M', INV M' → i + 3 < N → LW mL_law g p l e s m args below meth c Qz k0 s0 18 (lwL (i + 4)) [] 114 M') : LW mL_law g p l e s m args below meth c Qz k0 s0 18 (lwL i) [] 114 M := by
  refine y_iload (k := 3) C dL_law_18 rfl rfl ?_
  refine y_aloade (k := 0) C dL_law_19 rfl rfl ?_
  refine y_len C dL_law_20 rfl ?_
  refine y_iconst (v := 4) C dL_law_21 rfl rfl ?_
  refine y_isub C dL_law_22 rfl ?_
  refine y_icmp_gt (t := 1044) C dL_law_23 (by decide) rfl (fun _ => kend) (fun h => ?_)
  have hi : i + 3 < N := by
    have e1 : (Int32.ofNat N - 4).toInt = (N : Int) - 4 := by
      rw [Int32.toInt_sub, show (Int32.ofNat N).toInt = (N : Int) from nI_toInt (by omega), show (4 : Int32).toInt = 4 from rfl, Int.bmod_eq_of_le] <;> omega
    rw [fa_lt, nI_toInt (by omega), e1] at h
    omega
  refine y_aloade (k := 0) C dL_law_26 rfl rfl ?_
  refine y_iload (k := 3) C dL_law_27 rfl rfl ?_
  refine y_sld (vp_in_nI (show i < N by omega) (by omega)) C dL_law_28 rfl ?_
  rw [nI_clamp (show i < 2 ^ 31 by omega)]
  refine y_bipush (v := 63) C dL_law_29 rfl rfl ?_
  refine y_iand C dL_law_31 rfl ?_
  obtain ⟨k, hk, ek⟩ := and63 (xs i)
  rw [ek]
  refine l_switch C hN hi hk0 hs0 hI (fun M' hI' => ?_) k hk
  refine y_iinc (i := 3) (k := 4) (L' := lwL (i + 4)) C dL_law_1038 rfl rfl (by decide) (by rw [show nI i + Int32.ofInt 4 = nI (i + 4) from nI_add i 4]; rfl) ?_
  refine y_goto (q := 18) C dL_law_1041 (by decide) ?_
  exact kn M' hI' hi
set_option maxHeartbeats 4000000 in
theorem l_loop {g : xG} {p : Program} {l : Launch} {e : Env} {s : State} {m : MethodId} {args : Array Value} {below : List Frame} {meth : Method} {c : Code} {Qz : State → Prop} {N : Nat} {xs : Nat → Int32} {k0 s0 : Nat} (C : yCtx mL_law g p s m args c N xs) (hN : N ≤ 256) (hk0 : k0 ≤ 600000) (hs0 : s0 ≤ 7302250) (kend : ∀ i M, LW mL_law g p l e s m args below meth c Qz k0 s0 1044 (lwL i) [] 114 M) : ∀ (d i : Nat) (M : Nat → xE), N < i + d → i ≤ 1000 → INV M → LW mL_law g p l e s m args below meth c Qz k0 s0 18 (lwL i) [] 114 M := by
  intro d
  induction d with
  | zero => exact fun i M h1 h2 hI => l_step C hN h2 hk0 hs0 hI (kend i M) (fun M' _ h3 => absurd h3 (by omega))
  | succ d ih => exact fun i M h1 h2 hI => l_step C hN h2 hk0 hs0 hI (kend i M) (fun M' hI' h3 => ih (i + 4) M' (by omega) (by omega) hI')
