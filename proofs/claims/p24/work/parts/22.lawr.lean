set_option maxHeartbeats 4000000 in
set_option maxRecDepth 100000 in
theorem c_V_wish_0 {l : Launch} (hl : l.stackTraces = false) (G : hG) (f : hM) (xo ez eo bu nw0 na0 nq0 nr0 nw1 na1 nq1 nr1 bs bp bh bf bl bg : Nat) (S0 : ES) (S1 : ES) (gw0 : Nat → Int32) (ga0 : Nat → Int32) (gw1 : Nat → Int32) (ga1 : Nat → Int32) (n : Nat) (a : Nat) (cg : Nat) (x : Nat) (sa : Nat → Nat) (pk : Nat → Nat) (fl : Nat → Nat) (gv : Nat → Nat) (gh : Nat → Int32) (gl : Nat → Int32) (hC : CXW G f xo ez eo bu nw0 na0 nq0 nr0 nw1 na1 nq1 nr1 bs bp bh bf bl bg S0 S1 gw0 ga0 gw1 ga1 n a cg x sa pk fl gv gh gl) (hL0 : S0.2.2.2.2.2.2.2.2.length < 3000) (hL1 : S1.2.2.2.2.2.2.2.2.length < 3000) (j : Nat) (hj : j < 6) (xv : Int32) (hv : -1 ≤ xv.toInt ∧ xv.toInt ≤ 9) : CT l yL_wish (.codeWith yL_wish cL_wish 6 (some .int) [(0, 9, 12, 14), (0, 9, 17, 16)]) 8 127 2 12 G [.ref xo, .int 0, .int (nI j), .int xv] f (fun v f1 => v = some (.int (gw0 j)) ∧ CXW G f1 xo ez eo bu nw0 na0 nq0 nr0 nw1 na1 nq1 nr1 bs bp bh bf bl bg S0 S1 (upd gw0 j xv) ga0 gw1 ga1 n a cg x sa pk fl gv gh gl ∧ hKn [xo, ez, eo, bu, nw0, na0, nq0, nr0, nw1, na1, nq1, nr1, bs, bp, bh, bf, bl, bg] f f1) (fun E f1 => False) := by
  refine hp_startH hl (own := RL) (by decide) rfl (Nat.le_of_ble_eq_true rfl) ?_
  intro p e s m args below meth c B0 hr htab hw hS ls hl9
  have hx := B0.1
  have hb := B0.2.1
  have hl9 : lv_has ls 6 [(0, .ref xo), (1, .int 0), (2, .int (nI j)), (3, .int xv)] := hl9
  have k_xo : f xo = some (.inr (4, [.ref ez, .ref eo, .ref bu])) := by obtain ⟨_, _, h9⟩ := hC; exact h9.1
  refine lv_aload_n hx hb dL_wish_0 rfl (lv_at hl9 0 rfl) ?_
  refine lv_iload_n hx hb dL_wish_1 rfl (lv_at hl9 1 rfl) ?_
  refine lv_iload_n hx hb dL_wish_2 rfl (lv_at hl9 2 rfl) ?_
  refine lv_iload_n hx hb dL_wish_3 rfl (lv_at hl9 3 rfl) ?_
  refine hp_V (ci := 4) (As := [.int 0, .int (nI j), .int xv]) (rest := []) B0 hw hS (c_P_wish_0 hl G f xo ez eo bu nw0 na0 nq0 nr0 nw1 na1 nq1 nr1 bs bp bh bf bl bg S0 S1 gw0 ga0 gw1 ga1 n a cg x sa pk fl gv gh gl hC hL0 hL1 j hj xv hv) mV_X4_wish qM_L_8 rfl k_xo rfl rfl hl9.1 (Nat.le_of_ble_eq_true rfl) ⟨⟨Nat.le_of_ble_eq_true rfl, Nat.le_of_ble_eq_true rfl⟩, Nat.le_of_ble_eq_true rfl, Nat.le_of_ble_eq_true rfl⟩ dL_wish_4 (fun E ce q9 f1 H locs hPX hw hS hce hcv hcl => ?_) (fun v f1 H locs hP hw hS => ?_)
  · exact hPX.elim
  · obtain ⟨ev9, hC8, hk8⟩ := hP
    subst ev9
    refine W.eq (g2 := F0 m 7 ls [.int (gw0 j)]) rfl ?_
    refine lv_istore (lv' := [(4, .int (gw0 j)), (0, .ref xo), (1, .int 0), (2, .int (nI j)), (3, .int xv)]) hx hb dL_wish_7 hl9 (by decide) rfl (fun ls hl9 => ?_)
    refine lv_goto (tgt := 22) hx hb dL_wish_9 (by decide) ?_
    refine lv_iload hx hb dL_wish_22 (lv_at hl9 0 rfl) ?_
    exact hp_iret (v := (gw0 j)) B0 hw hS hr ⟨Nat.le_of_ble_eq_true rfl, Nat.le_of_ble_eq_true rfl⟩ dL_wish_24 (⟨rfl, hC8, hk8⟩)

set_option maxHeartbeats 4000000 in
set_option maxRecDepth 100000 in
theorem c_V_wish_O0 {l : Launch} (hl : l.stackTraces = false) (G : hG) (f : hM) (xo ez eo bu nw0 na0 nq0 nr0 nw1 na1 nq1 nr1 bs bp bh bf bl bg : Nat) (S0 : ES) (S1 : ES) (gw0 : Nat → Int32) (ga0 : Nat → Int32) (gw1 : Nat → Int32) (ga1 : Nat → Int32) (n : Nat) (a : Nat) (cg : Nat) (x : Nat) (sa : Nat → Nat) (pk : Nat → Nat) (fl : Nat → Nat) (gv : Nat → Nat) (gh : Nat → Int32) (gl : Nat → Int32) (hC : CXW G f xo ez eo bu nw0 na0 nq0 nr0 nw1 na1 nq1 nr1 bs bp bh bf bl bg S0 S1 gw0 ga0 gw1 ga1 n a cg x sa pk fl gv gh gl) (hL0 : S0.2.2.2.2.2.2.2.2.length < 3000) (hL1 : S1.2.2.2.2.2.2.2.2.length < 3000) (o xv : Int32) (ho : ¬ sO o) : CT l yL_wish (.codeWith yL_wish cL_wish 6 (some .int) [(0, 9, 12, 14), (0, 9, 17, 16)]) 8 127 2 12 G [.ref xo, .int 0, .int o, .int xv] f (fun v f1 => v = some (.int (-71)) ∧ CXW G f1 xo ez eo bu nw0 na0 nq0 nr0 nw1 na1 nq1 nr1 bs bp bh bf bl bg S0 S1 gw0 ga0 gw1 ga1 n a cg x sa pk fl gv gh gl ∧ hKn [xo, ez, eo, bu, nw0, na0, nq0, nr0, nw1, na1, nq1, nr1, bs, bp, bh, bf, bl, bg] f f1) (fun E f1 => False) := by
  refine hp_startH hl (own := RL) (by decide) rfl (Nat.le_of_ble_eq_true rfl) ?_
  intro p e s m args below meth c B0 hr htab hw hS ls hl9
  have hx := B0.1
  have hb := B0.2.1
  have hl9 : lv_has ls 6 [(0, .ref xo), (1, .int 0), (2, .int o), (3, .int xv)] := hl9
  have k_xo : f xo = some (.inr (4, [.ref ez, .ref eo, .ref bu])) := by obtain ⟨_, _, h9⟩ := hC; exact h9.1
  refine lv_aload_n hx hb dL_wish_0 rfl (lv_at hl9 0 rfl) ?_
  refine lv_iload_n hx hb dL_wish_1 rfl (lv_at hl9 1 rfl) ?_
  refine lv_iload_n hx hb dL_wish_2 rfl (lv_at hl9 2 rfl) ?_
  refine lv_iload_n hx hb dL_wish_3 rfl (lv_at hl9 3 rfl) ?_
  refine hp_V (ci := 4) (As := [.int 0, .int o, .int xv]) (rest := []) B0 hw hS (c_P_wish_O0 hl G f xo ez eo bu nw0 na0 nq0 nr0 nw1 na1 nq1 nr1 bs bp bh bf bl bg S0 S1 gw0 ga0 gw1 ga1 n a cg x sa pk fl gv gh gl hC hL0 hL1 o xv ho) mV_X4_wish qM_L_8 rfl k_xo rfl rfl hl9.1 (Nat.le_of_ble_eq_true rfl) ⟨⟨Nat.le_of_ble_eq_true rfl, Nat.le_of_ble_eq_true rfl⟩, Nat.le_of_ble_eq_true rfl, Nat.le_of_ble_eq_true rfl⟩ dL_wish_4 (fun E ce q9 f1 H locs hPX hw hS hce hcv hcl => ?_) (fun v f1 H locs hP hw hS => ?_)
  · obtain ⟨eE9, hC8, hk8⟩ := hPX
    subst eE9
    refine hp_catch (name := eI) B0 [] _ _ (htab.trans rfl) (fun z hz => nomatch hz) rfl (by decide) qC_L_14 oC_eI hce hcv hcl ?_
    refine W.eq (g2 := F0 m 12 ls [.ref q9]) rfl ?_
    refine lv_astore (lv' := [(5, .ref q9), (0, .ref xo), (1, .int 0), (2, .int o), (3, .int xv)]) hx hb dL_wish_12 hl9 (by decide) rfl (fun ls hl9 => ?_)
    refine lv_bipush (v := (-71)) hx hb dL_wish_14 (by decide) ?_
    exact hp_iret (v := (-71)) B0 hw hS hr ⟨Nat.le_of_ble_eq_true rfl, Nat.le_of_ble_eq_true rfl⟩ dL_wish_16 (⟨rfl, hC8, hk8⟩)
  · exact hP.elim

set_option maxHeartbeats 4000000 in
set_option maxRecDepth 100000 in
theorem c_V_wish_V0 {l : Launch} (hl : l.stackTraces = false) (G : hG) (f : hM) (xo ez eo bu nw0 na0 nq0 nr0 nw1 na1 nq1 nr1 bs bp bh bf bl bg : Nat) (S0 : ES) (S1 : ES) (gw0 : Nat → Int32) (ga0 : Nat → Int32) (gw1 : Nat → Int32) (ga1 : Nat → Int32) (n : Nat) (a : Nat) (cg : Nat) (x : Nat) (sa : Nat → Nat) (pk : Nat → Nat) (fl : Nat → Nat) (gv : Nat → Nat) (gh : Nat → Int32) (gl : Nat → Int32) (hC : CXW G f xo ez eo bu nw0 na0 nq0 nr0 nw1 na1 nq1 nr1 bs bp bh bf bl bg S0 S1 gw0 ga0 gw1 ga1 n a cg x sa pk fl gv gh gl) (hL0 : S0.2.2.2.2.2.2.2.2.length < 3000) (hL1 : S1.2.2.2.2.2.2.2.2.length < 3000) (j : Nat) (hj : j < 6) (xv : Int32) (hv : ¬ (-1 ≤ xv.toInt ∧ xv.toInt ≤ 9)) : CT l yL_wish (.codeWith yL_wish cL_wish 6 (some .int) [(0, 9, 12, 14), (0, 9, 17, 16)]) 8 127 3 18 G [.ref xo, .int 0, .int (nI j), .int xv] f (fun v f1 => v = some (.int (-72)) ∧ CXW G f1 xo ez eo bu nw0 na0 nq0 nr0 nw1 na1 nq1 nr1 bs bp bh bf bl bg S0 S1 gw0 ga0 gw1 ga1 n a cg x sa pk fl gv gh gl ∧ hKn [xo, ez, eo, bu, nw0, na0, nq0, nr0, nw1, na1, nq1, nr1, bs, bp, bh, bf, bl, bg] f f1) (fun E f1 => False) := by
  refine hp_startH hl (own := RL) (by decide) rfl (Nat.le_of_ble_eq_true rfl) ?_
  intro p e s m args below meth c B0 hr htab hw hS ls hl9
  have hx := B0.1
  have hb := B0.2.1
  have hl9 : lv_has ls 6 [(0, .ref xo), (1, .int 0), (2, .int (nI j)), (3, .int xv)] := hl9
  have k_xo : f xo = some (.inr (4, [.ref ez, .ref eo, .ref bu])) := by obtain ⟨_, _, h9⟩ := hC; exact h9.1
  refine lv_aload_n hx hb dL_wish_0 rfl (lv_at hl9 0 rfl) ?_
  refine lv_iload_n hx hb dL_wish_1 rfl (lv_at hl9 1 rfl) ?_
  refine lv_iload_n hx hb dL_wish_2 rfl (lv_at hl9 2 rfl) ?_
  refine lv_iload_n hx hb dL_wish_3 rfl (lv_at hl9 3 rfl) ?_
  refine hp_V (ci := 4) (As := [.int 0, .int (nI j), .int xv]) (rest := []) B0 hw hS (c_P_wish_V0 hl G f xo ez eo bu nw0 na0 nq0 nr0 nw1 na1 nq1 nr1 bs bp bh bf bl bg S0 S1 gw0 ga0 gw1 ga1 n a cg x sa pk fl gv gh gl hC hL0 hL1 j hj xv hv) mV_X4_wish qM_L_8 rfl k_xo rfl rfl hl9.1 (Nat.le_of_ble_eq_true rfl) ⟨⟨Nat.le_of_ble_eq_true rfl, Nat.le_of_ble_eq_true rfl⟩, Nat.le_of_ble_eq_true rfl, Nat.le_of_ble_eq_true rfl⟩ dL_wish_4 (fun E ce q9 f1 H locs hPX hw hS hce hcv hcl => ?_) (fun v f1 H locs hP hw hS => ?_)
  · obtain ⟨eE9, hC8, hk8⟩ := hPX
    subst eE9
    refine hp_catch (name := eA) B0 [_] _ _ (htab.trans rfl) (fun z hz => Or.inr (by rcases List.mem_singleton.mp hz with rfl; exact ⟨by decide, eI, qC_L_14, List.mem_of_getElem? (i := 2) rfl⟩)) rfl (by decide) qC_L_16 oC_eA hce hcv hcl ?_
    refine W.eq (g2 := F0 m 17 ls [.ref q9]) rfl ?_
    refine lv_astore (lv' := [(5, .ref q9), (0, .ref xo), (1, .int 0), (2, .int (nI j)), (3, .int xv)]) hx hb dL_wish_17 hl9 (by decide) rfl (fun ls hl9 => ?_)
    refine lv_bipush (v := (-72)) hx hb dL_wish_19 (by decide) ?_
    exact hp_iret (v := (-72)) B0 hw hS hr ⟨Nat.le_of_ble_eq_true rfl, Nat.le_of_ble_eq_true rfl⟩ dL_wish_21 (⟨rfl, hC8, hk8⟩)
  · exact hP.elim

set_option maxHeartbeats 4000000 in
set_option maxRecDepth 100000 in
theorem c_V_wish_1 {l : Launch} (hl : l.stackTraces = false) (G : hG) (f : hM) (xo ez eo bu nw0 na0 nq0 nr0 nw1 na1 nq1 nr1 bs bp bh bf bl bg : Nat) (S0 : ES) (S1 : ES) (gw0 : Nat → Int32) (ga0 : Nat → Int32) (gw1 : Nat → Int32) (ga1 : Nat → Int32) (n : Nat) (a : Nat) (cg : Nat) (x : Nat) (sa : Nat → Nat) (pk : Nat → Nat) (fl : Nat → Nat) (gv : Nat → Nat) (gh : Nat → Int32) (gl : Nat → Int32) (hC : CXW G f xo ez eo bu nw0 na0 nq0 nr0 nw1 na1 nq1 nr1 bs bp bh bf bl bg S0 S1 gw0 ga0 gw1 ga1 n a cg x sa pk fl gv gh gl) (hL0 : S0.2.2.2.2.2.2.2.2.length < 3000) (hL1 : S1.2.2.2.2.2.2.2.2.length < 3000) (j : Nat) (hj : j < 6) (xv : Int32) (hv : -1 ≤ xv.toInt ∧ xv.toInt ≤ 9) : CT l yL_wish (.codeWith yL_wish cL_wish 6 (some .int) [(0, 9, 12, 14), (0, 9, 17, 16)]) 8 127 2 12 G [.ref xo, .int 1, .int (nI j), .int xv] f (fun v f1 => v = some (.int (gw1 j)) ∧ CXW G f1 xo ez eo bu nw0 na0 nq0 nr0 nw1 na1 nq1 nr1 bs bp bh bf bl bg S0 S1 gw0 ga0 (upd gw1 j xv) ga1 n a cg x sa pk fl gv gh gl ∧ hKn [xo, ez, eo, bu, nw0, na0, nq0, nr0, nw1, na1, nq1, nr1, bs, bp, bh, bf, bl, bg] f f1) (fun E f1 => False) := by
  refine hp_startH hl (own := RL) (by decide) rfl (Nat.le_of_ble_eq_true rfl) ?_
  intro p e s m args below meth c B0 hr htab hw hS ls hl9
  have hx := B0.1
  have hb := B0.2.1
  have hl9 : lv_has ls 6 [(0, .ref xo), (1, .int 1), (2, .int (nI j)), (3, .int xv)] := hl9
  have k_xo : f xo = some (.inr (4, [.ref ez, .ref eo, .ref bu])) := by obtain ⟨_, _, h9⟩ := hC; exact h9.1
  refine lv_aload_n hx hb dL_wish_0 rfl (lv_at hl9 0 rfl) ?_
  refine lv_iload_n hx hb dL_wish_1 rfl (lv_at hl9 1 rfl) ?_
  refine lv_iload_n hx hb dL_wish_2 rfl (lv_at hl9 2 rfl) ?_
  refine lv_iload_n hx hb dL_wish_3 rfl (lv_at hl9 3 rfl) ?_
  refine hp_V (ci := 4) (As := [.int 1, .int (nI j), .int xv]) (rest := []) B0 hw hS (c_P_wish_1 hl G f xo ez eo bu nw0 na0 nq0 nr0 nw1 na1 nq1 nr1 bs bp bh bf bl bg S0 S1 gw0 ga0 gw1 ga1 n a cg x sa pk fl gv gh gl hC hL0 hL1 j hj xv hv) mV_X4_wish qM_L_8 rfl k_xo rfl rfl hl9.1 (Nat.le_of_ble_eq_true rfl) ⟨⟨Nat.le_of_ble_eq_true rfl, Nat.le_of_ble_eq_true rfl⟩, Nat.le_of_ble_eq_true rfl, Nat.le_of_ble_eq_true rfl⟩ dL_wish_4 (fun E ce q9 f1 H locs hPX hw hS hce hcv hcl => ?_) (fun v f1 H locs hP hw hS => ?_)
  · exact hPX.elim
  · obtain ⟨ev9, hC8, hk8⟩ := hP
    subst ev9
    refine W.eq (g2 := F0 m 7 ls [.int (gw1 j)]) rfl ?_
    refine lv_istore (lv' := [(4, .int (gw1 j)), (0, .ref xo), (1, .int 1), (2, .int (nI j)), (3, .int xv)]) hx hb dL_wish_7 hl9 (by decide) rfl (fun ls hl9 => ?_)
    refine lv_goto (tgt := 22) hx hb dL_wish_9 (by decide) ?_
    refine lv_iload hx hb dL_wish_22 (lv_at hl9 0 rfl) ?_
    exact hp_iret (v := (gw1 j)) B0 hw hS hr ⟨Nat.le_of_ble_eq_true rfl, Nat.le_of_ble_eq_true rfl⟩ dL_wish_24 (⟨rfl, hC8, hk8⟩)

set_option maxHeartbeats 4000000 in
set_option maxRecDepth 100000 in
theorem c_V_wish_O1 {l : Launch} (hl : l.stackTraces = false) (G : hG) (f : hM) (xo ez eo bu nw0 na0 nq0 nr0 nw1 na1 nq1 nr1 bs bp bh bf bl bg : Nat) (S0 : ES) (S1 : ES) (gw0 : Nat → Int32) (ga0 : Nat → Int32) (gw1 : Nat → Int32) (ga1 : Nat → Int32) (n : Nat) (a : Nat) (cg : Nat) (x : Nat) (sa : Nat → Nat) (pk : Nat → Nat) (fl : Nat → Nat) (gv : Nat → Nat) (gh : Nat → Int32) (gl : Nat → Int32) (hC : CXW G f xo ez eo bu nw0 na0 nq0 nr0 nw1 na1 nq1 nr1 bs bp bh bf bl bg S0 S1 gw0 ga0 gw1 ga1 n a cg x sa pk fl gv gh gl) (hL0 : S0.2.2.2.2.2.2.2.2.length < 3000) (hL1 : S1.2.2.2.2.2.2.2.2.length < 3000) (o xv : Int32) (ho : ¬ sO o) : CT l yL_wish (.codeWith yL_wish cL_wish 6 (some .int) [(0, 9, 12, 14), (0, 9, 17, 16)]) 8 127 2 12 G [.ref xo, .int 1, .int o, .int xv] f (fun v f1 => v = some (.int (-71)) ∧ CXW G f1 xo ez eo bu nw0 na0 nq0 nr0 nw1 na1 nq1 nr1 bs bp bh bf bl bg S0 S1 gw0 ga0 gw1 ga1 n a cg x sa pk fl gv gh gl ∧ hKn [xo, ez, eo, bu, nw0, na0, nq0, nr0, nw1, na1, nq1, nr1, bs, bp, bh, bf, bl, bg] f f1) (fun E f1 => False) := by
  refine hp_startH hl (own := RL) (by decide) rfl (Nat.le_of_ble_eq_true rfl) ?_
  intro p e s m args below meth c B0 hr htab hw hS ls hl9
  have hx := B0.1
  have hb := B0.2.1
  have hl9 : lv_has ls 6 [(0, .ref xo), (1, .int 1), (2, .int o), (3, .int xv)] := hl9
  have k_xo : f xo = some (.inr (4, [.ref ez, .ref eo, .ref bu])) := by obtain ⟨_, _, h9⟩ := hC; exact h9.1
  refine lv_aload_n hx hb dL_wish_0 rfl (lv_at hl9 0 rfl) ?_
  refine lv_iload_n hx hb dL_wish_1 rfl (lv_at hl9 1 rfl) ?_
  refine lv_iload_n hx hb dL_wish_2 rfl (lv_at hl9 2 rfl) ?_
  refine lv_iload_n hx hb dL_wish_3 rfl (lv_at hl9 3 rfl) ?_
  refine hp_V (ci := 4) (As := [.int 1, .int o, .int xv]) (rest := []) B0 hw hS (c_P_wish_O1 hl G f xo ez eo bu nw0 na0 nq0 nr0 nw1 na1 nq1 nr1 bs bp bh bf bl bg S0 S1 gw0 ga0 gw1 ga1 n a cg x sa pk fl gv gh gl hC hL0 hL1 o xv ho) mV_X4_wish qM_L_8 rfl k_xo rfl rfl hl9.1 (Nat.le_of_ble_eq_true rfl) ⟨⟨Nat.le_of_ble_eq_true rfl, Nat.le_of_ble_eq_true rfl⟩, Nat.le_of_ble_eq_true rfl, Nat.le_of_ble_eq_true rfl⟩ dL_wish_4 (fun E ce q9 f1 H locs hPX hw hS hce hcv hcl => ?_) (fun v f1 H locs hP hw hS => ?_)
  · obtain ⟨eE9, hC8, hk8⟩ := hPX
    subst eE9
    refine hp_catch (name := eI) B0 [] _ _ (htab.trans rfl) (fun z hz => nomatch hz) rfl (by decide) qC_L_14 oC_eI hce hcv hcl ?_
    refine W.eq (g2 := F0 m 12 ls [.ref q9]) rfl ?_
    refine lv_astore (lv' := [(5, .ref q9), (0, .ref xo), (1, .int 1), (2, .int o), (3, .int xv)]) hx hb dL_wish_12 hl9 (by decide) rfl (fun ls hl9 => ?_)
    refine lv_bipush (v := (-71)) hx hb dL_wish_14 (by decide) ?_
    exact hp_iret (v := (-71)) B0 hw hS hr ⟨Nat.le_of_ble_eq_true rfl, Nat.le_of_ble_eq_true rfl⟩ dL_wish_16 (⟨rfl, hC8, hk8⟩)
  · exact hP.elim

set_option maxHeartbeats 4000000 in
set_option maxRecDepth 100000 in
theorem c_V_wish_V1 {l : Launch} (hl : l.stackTraces = false) (G : hG) (f : hM) (xo ez eo bu nw0 na0 nq0 nr0 nw1 na1 nq1 nr1 bs bp bh bf bl bg : Nat) (S0 : ES) (S1 : ES) (gw0 : Nat → Int32) (ga0 : Nat → Int32) (gw1 : Nat → Int32) (ga1 : Nat → Int32) (n : Nat) (a : Nat) (cg : Nat) (x : Nat) (sa : Nat → Nat) (pk : Nat → Nat) (fl : Nat → Nat) (gv : Nat → Nat) (gh : Nat → Int32) (gl : Nat → Int32) (hC : CXW G f xo ez eo bu nw0 na0 nq0 nr0 nw1 na1 nq1 nr1 bs bp bh bf bl bg S0 S1 gw0 ga0 gw1 ga1 n a cg x sa pk fl gv gh gl) (hL0 : S0.2.2.2.2.2.2.2.2.length < 3000) (hL1 : S1.2.2.2.2.2.2.2.2.length < 3000) (j : Nat) (hj : j < 6) (xv : Int32) (hv : ¬ (-1 ≤ xv.toInt ∧ xv.toInt ≤ 9)) : CT l yL_wish (.codeWith yL_wish cL_wish 6 (some .int) [(0, 9, 12, 14), (0, 9, 17, 16)]) 8 127 3 18 G [.ref xo, .int 1, .int (nI j), .int xv] f (fun v f1 => v = some (.int (-72)) ∧ CXW G f1 xo ez eo bu nw0 na0 nq0 nr0 nw1 na1 nq1 nr1 bs bp bh bf bl bg S0 S1 gw0 ga0 gw1 ga1 n a cg x sa pk fl gv gh gl ∧ hKn [xo, ez, eo, bu, nw0, na0, nq0, nr0, nw1, na1, nq1, nr1, bs, bp, bh, bf, bl, bg] f f1) (fun E f1 => False) := by
  refine hp_startH hl (own := RL) (by decide) rfl (Nat.le_of_ble_eq_true rfl) ?_
  intro p e s m args below meth c B0 hr htab hw hS ls hl9
  have hx := B0.1
  have hb := B0.2.1
  have hl9 : lv_has ls 6 [(0, .ref xo), (1, .int 1), (2, .int (nI j)), (3, .int xv)] := hl9
  have k_xo : f xo = some (.inr (4, [.ref ez, .ref eo, .ref bu])) := by obtain ⟨_, _, h9⟩ := hC; exact h9.1
  refine lv_aload_n hx hb dL_wish_0 rfl (lv_at hl9 0 rfl) ?_
  refine lv_iload_n hx hb dL_wish_1 rfl (lv_at hl9 1 rfl) ?_
  refine lv_iload_n hx hb dL_wish_2 rfl (lv_at hl9 2 rfl) ?_
  refine lv_iload_n hx hb dL_wish_3 rfl (lv_at hl9 3 rfl) ?_
  refine hp_V (ci := 4) (As := [.int 1, .int (nI j), .int xv]) (rest := []) B0 hw hS (c_P_wish_V1 hl G f xo ez eo bu nw0 na0 nq0 nr0 nw1 na1 nq1 nr1 bs bp bh bf bl bg S0 S1 gw0 ga0 gw1 ga1 n a cg x sa pk fl gv gh gl hC hL0 hL1 j hj xv hv) mV_X4_wish qM_L_8 rfl k_xo rfl rfl hl9.1 (Nat.le_of_ble_eq_true rfl) ⟨⟨Nat.le_of_ble_eq_true rfl, Nat.le_of_ble_eq_true rfl⟩, Nat.le_of_ble_eq_true rfl, Nat.le_of_ble_eq_true rfl⟩ dL_wish_4 (fun E ce q9 f1 H locs hPX hw hS hce hcv hcl => ?_) (fun v f1 H locs hP hw hS => ?_)
  · obtain ⟨eE9, hC8, hk8⟩ := hPX
    subst eE9
    refine hp_catch (name := eA) B0 [_] _ _ (htab.trans rfl) (fun z hz => Or.inr (by rcases List.mem_singleton.mp hz with rfl; exact ⟨by decide, eI, qC_L_14, List.mem_of_getElem? (i := 2) rfl⟩)) rfl (by decide) qC_L_16 oC_eA hce hcv hcl ?_
    refine W.eq (g2 := F0 m 17 ls [.ref q9]) rfl ?_
    refine lv_astore (lv' := [(5, .ref q9), (0, .ref xo), (1, .int 1), (2, .int (nI j)), (3, .int xv)]) hx hb dL_wish_17 hl9 (by decide) rfl (fun ls hl9 => ?_)
    refine lv_bipush (v := (-72)) hx hb dL_wish_19 (by decide) ?_
    exact hp_iret (v := (-72)) B0 hw hS hr ⟨Nat.le_of_ble_eq_true rfl, Nat.le_of_ble_eq_true rfl⟩ dL_wish_21 (⟨rfl, hC8, hk8⟩)
  · exact hP.elim

set_option maxHeartbeats 4000000 in
set_option maxRecDepth 100000 in
theorem c_V_wish_E {l : Launch} (hl : l.stackTraces = false) (G : hG) (f : hM) (xo ez eo bu nw0 na0 nq0 nr0 nw1 na1 nq1 nr1 bs bp bh bf bl bg : Nat) (S0 : ES) (S1 : ES) (gw0 : Nat → Int32) (ga0 : Nat → Int32) (gw1 : Nat → Int32) (ga1 : Nat → Int32) (n : Nat) (a : Nat) (cg : Nat) (x : Nat) (sa : Nat → Nat) (pk : Nat → Nat) (fl : Nat → Nat) (gv : Nat → Nat) (gh : Nat → Int32) (gl : Nat → Int32) (hC : CXW G f xo ez eo bu nw0 na0 nq0 nr0 nw1 na1 nq1 nr1 bs bp bh bf bl bg S0 S1 gw0 ga0 gw1 ga1 n a cg x sa pk fl gv gh gl) (hL0 : S0.2.2.2.2.2.2.2.2.length < 3000) (hL1 : S1.2.2.2.2.2.2.2.2.length < 3000) (i o xv : Int32) (hi : ¬ sE i) : CT l yL_wish (.codeWith yL_wish cL_wish 6 (some .int) [(0, 9, 12, 14), (0, 9, 17, 16)]) 8 127 1 6 G [.ref xo, .int i, .int o, .int xv] f (fun v f1 => v = some (.int (-71)) ∧ CXW G f1 xo ez eo bu nw0 na0 nq0 nr0 nw1 na1 nq1 nr1 bs bp bh bf bl bg S0 S1 gw0 ga0 gw1 ga1 n a cg x sa pk fl gv gh gl ∧ hKn [xo, ez, eo, bu, nw0, na0, nq0, nr0, nw1, na1, nq1, nr1, bs, bp, bh, bf, bl, bg] f f1) (fun E f1 => False) := by
  refine hp_startH hl (own := RL) (by decide) rfl (Nat.le_of_ble_eq_true rfl) ?_
  intro p e s m args below meth c B0 hr htab hw hS ls hl9
  have hx := B0.1
  have hb := B0.2.1
  have hl9 : lv_has ls 6 [(0, .ref xo), (1, .int i), (2, .int o), (3, .int xv)] := hl9
  have k_xo : f xo = some (.inr (4, [.ref ez, .ref eo, .ref bu])) := by obtain ⟨_, _, h9⟩ := hC; exact h9.1
  refine lv_aload_n hx hb dL_wish_0 rfl (lv_at hl9 0 rfl) ?_
  refine lv_iload_n hx hb dL_wish_1 rfl (lv_at hl9 1 rfl) ?_
  refine lv_iload_n hx hb dL_wish_2 rfl (lv_at hl9 2 rfl) ?_
  refine lv_iload_n hx hb dL_wish_3 rfl (lv_at hl9 3 rfl) ?_
  refine hp_V (ci := 4) (As := [.int i, .int o, .int xv]) (rest := []) B0 hw hS (c_P_wish_E hl G f xo ez eo bu nw0 na0 nq0 nr0 nw1 na1 nq1 nr1 bs bp bh bf bl bg S0 S1 gw0 ga0 gw1 ga1 n a cg x sa pk fl gv gh gl hC hL0 hL1 i o xv hi) mV_X4_wish qM_L_8 rfl k_xo rfl rfl hl9.1 (Nat.le_of_ble_eq_true rfl) ⟨⟨Nat.le_of_ble_eq_true rfl, Nat.le_of_ble_eq_true rfl⟩, Nat.le_of_ble_eq_true rfl, Nat.le_of_ble_eq_true rfl⟩ dL_wish_4 (fun E ce q9 f1 H locs hPX hw hS hce hcv hcl => ?_) (fun v f1 H locs hP hw hS => ?_)
  · obtain ⟨eE9, hC8, hk8⟩ := hPX
    subst eE9
    refine hp_catch (name := eI) B0 [] _ _ (htab.trans rfl) (fun z hz => nomatch hz) rfl (by decide) qC_L_14 oC_eI hce hcv hcl ?_
    refine W.eq (g2 := F0 m 12 ls [.ref q9]) rfl ?_
    refine lv_astore (lv' := [(5, .ref q9), (0, .ref xo), (1, .int i), (2, .int o), (3, .int xv)]) hx hb dL_wish_12 hl9 (by decide) rfl (fun ls hl9 => ?_)
    refine lv_bipush (v := (-71)) hx hb dL_wish_14 (by decide) ?_
    exact hp_iret (v := (-71)) B0 hw hS hr ⟨Nat.le_of_ble_eq_true rfl, Nat.le_of_ble_eq_true rfl⟩ dL_wish_16 (⟨rfl, hC8, hk8⟩)
  · exact hP.elim

set_option maxHeartbeats 4000000 in
set_option maxRecDepth 100000 in
theorem c_V_allow_0 {l : Launch} (hl : l.stackTraces = false) (G : hG) (f : hM) (xo ez eo bu nw0 na0 nq0 nr0 nw1 na1 nq1 nr1 bs bp bh bf bl bg : Nat) (S0 : ES) (S1 : ES) (gw0 : Nat → Int32) (ga0 : Nat → Int32) (gw1 : Nat → Int32) (ga1 : Nat → Int32) (n : Nat) (a : Nat) (cg : Nat) (x : Nat) (sa : Nat → Nat) (pk : Nat → Nat) (fl : Nat → Nat) (gv : Nat → Nat) (gh : Nat → Int32) (gl : Nat → Int32) (hC : CXW G f xo ez eo bu nw0 na0 nq0 nr0 nw1 na1 nq1 nr1 bs bp bh bf bl bg S0 S1 gw0 ga0 gw1 ga1 n a cg x sa pk fl gv gh gl) (hL0 : S0.2.2.2.2.2.2.2.2.length < 3000) (hL1 : S1.2.2.2.2.2.2.2.2.length < 3000) (j : Nat) (hj : j < 6) (xv : Int32) (hv : 0 ≤ xv.toInt ∧ xv.toInt ≤ 1023) : CT l yL_allow (.codeWith yL_allow cL_allow 6 (some .int) [(0, 9, 12, 14), (0, 9, 17, 16)]) 8 127 2 12 G [.ref xo, .int 0, .int (nI j), .int xv] f (fun v f1 => v = some (.int (ga0 j)) ∧ CXW G f1 xo ez eo bu nw0 na0 nq0 nr0 nw1 na1 nq1 nr1 bs bp bh bf bl bg S0 S1 gw0 (upd ga0 j xv) gw1 ga1 n a cg x sa pk fl gv gh gl ∧ hKn [xo, ez, eo, bu, nw0, na0, nq0, nr0, nw1, na1, nq1, nr1, bs, bp, bh, bf, bl, bg] f f1) (fun E f1 => False) := by
  refine hp_startH hl (own := RL) (by decide) rfl (Nat.le_of_ble_eq_true rfl) ?_
  intro p e s m args below meth c B0 hr htab hw hS ls hl9
  have hx := B0.1
  have hb := B0.2.1
  have hl9 : lv_has ls 6 [(0, .ref xo), (1, .int 0), (2, .int (nI j)), (3, .int xv)] := hl9
  have k_xo : f xo = some (.inr (4, [.ref ez, .ref eo, .ref bu])) := by obtain ⟨_, _, h9⟩ := hC; exact h9.1
  refine lv_aload_n hx hb dL_allow_0 rfl (lv_at hl9 0 rfl) ?_
  refine lv_iload_n hx hb dL_allow_1 rfl (lv_at hl9 1 rfl) ?_
  refine lv_iload_n hx hb dL_allow_2 rfl (lv_at hl9 2 rfl) ?_
  refine lv_iload_n hx hb dL_allow_3 rfl (lv_at hl9 3 rfl) ?_
  refine hp_V (ci := 4) (As := [.int 0, .int (nI j), .int xv]) (rest := []) B0 hw hS (c_P_allow_0 hl G f xo ez eo bu nw0 na0 nq0 nr0 nw1 na1 nq1 nr1 bs bp bh bf bl bg S0 S1 gw0 ga0 gw1 ga1 n a cg x sa pk fl gv gh gl hC hL0 hL1 j hj xv hv) mV_X4_allow qM_L_18 rfl k_xo rfl rfl hl9.1 (Nat.le_of_ble_eq_true rfl) ⟨⟨Nat.le_of_ble_eq_true rfl, Nat.le_of_ble_eq_true rfl⟩, Nat.le_of_ble_eq_true rfl, Nat.le_of_ble_eq_true rfl⟩ dL_allow_4 (fun E ce q9 f1 H locs hPX hw hS hce hcv hcl => ?_) (fun v f1 H locs hP hw hS => ?_)
  · exact hPX.elim
  · obtain ⟨ev9, hC8, hk8⟩ := hP
    subst ev9
    refine W.eq (g2 := F0 m 7 ls [.int (ga0 j)]) rfl ?_
    refine lv_istore (lv' := [(4, .int (ga0 j)), (0, .ref xo), (1, .int 0), (2, .int (nI j)), (3, .int xv)]) hx hb dL_allow_7 hl9 (by decide) rfl (fun ls hl9 => ?_)
    refine lv_goto (tgt := 22) hx hb dL_allow_9 (by decide) ?_
    refine lv_iload hx hb dL_allow_22 (lv_at hl9 0 rfl) ?_
    exact hp_iret (v := (ga0 j)) B0 hw hS hr ⟨Nat.le_of_ble_eq_true rfl, Nat.le_of_ble_eq_true rfl⟩ dL_allow_24 (⟨rfl, hC8, hk8⟩)

set_option maxHeartbeats 4000000 in
set_option maxRecDepth 100000 in
theorem c_V_allow_O0 {l : Launch} (hl : l.stackTraces = false) (G : hG) (f : hM) (xo ez eo bu nw0 na0 nq0 nr0 nw1 na1 nq1 nr1 bs bp bh bf bl bg : Nat) (S0 : ES) (S1 : ES) (gw0 : Nat → Int32) (ga0 : Nat → Int32) (gw1 : Nat → Int32) (ga1 : Nat → Int32) (n : Nat) (a : Nat) (cg : Nat) (x : Nat) (sa : Nat → Nat) (pk : Nat → Nat) (fl : Nat → Nat) (gv : Nat → Nat) (gh : Nat → Int32) (gl : Nat → Int32) (hC : CXW G f xo ez eo bu nw0 na0 nq0 nr0 nw1 na1 nq1 nr1 bs bp bh bf bl bg S0 S1 gw0 ga0 gw1 ga1 n a cg x sa pk fl gv gh gl) (hL0 : S0.2.2.2.2.2.2.2.2.length < 3000) (hL1 : S1.2.2.2.2.2.2.2.2.length < 3000) (o xv : Int32) (ho : ¬ sO o) : CT l yL_allow (.codeWith yL_allow cL_allow 6 (some .int) [(0, 9, 12, 14), (0, 9, 17, 16)]) 8 127 2 12 G [.ref xo, .int 0, .int o, .int xv] f (fun v f1 => v = some (.int (-71)) ∧ CXW G f1 xo ez eo bu nw0 na0 nq0 nr0 nw1 na1 nq1 nr1 bs bp bh bf bl bg S0 S1 gw0 ga0 gw1 ga1 n a cg x sa pk fl gv gh gl ∧ hKn [xo, ez, eo, bu, nw0, na0, nq0, nr0, nw1, na1, nq1, nr1, bs, bp, bh, bf, bl, bg] f f1) (fun E f1 => False) := by
  refine hp_startH hl (own := RL) (by decide) rfl (Nat.le_of_ble_eq_true rfl) ?_
  intro p e s m args below meth c B0 hr htab hw hS ls hl9
  have hx := B0.1
  have hb := B0.2.1
  have hl9 : lv_has ls 6 [(0, .ref xo), (1, .int 0), (2, .int o), (3, .int xv)] := hl9
  have k_xo : f xo = some (.inr (4, [.ref ez, .ref eo, .ref bu])) := by obtain ⟨_, _, h9⟩ := hC; exact h9.1
  refine lv_aload_n hx hb dL_allow_0 rfl (lv_at hl9 0 rfl) ?_
  refine lv_iload_n hx hb dL_allow_1 rfl (lv_at hl9 1 rfl) ?_
  refine lv_iload_n hx hb dL_allow_2 rfl (lv_at hl9 2 rfl) ?_
  refine lv_iload_n hx hb dL_allow_3 rfl (lv_at hl9 3 rfl) ?_
  refine hp_V (ci := 4) (As := [.int 0, .int o, .int xv]) (rest := []) B0 hw hS (c_P_allow_O0 hl G f xo ez eo bu nw0 na0 nq0 nr0 nw1 na1 nq1 nr1 bs bp bh bf bl bg S0 S1 gw0 ga0 gw1 ga1 n a cg x sa pk fl gv gh gl hC hL0 hL1 o xv ho) mV_X4_allow qM_L_18 rfl k_xo rfl rfl hl9.1 (Nat.le_of_ble_eq_true rfl) ⟨⟨Nat.le_of_ble_eq_true rfl, Nat.le_of_ble_eq_true rfl⟩, Nat.le_of_ble_eq_true rfl, Nat.le_of_ble_eq_true rfl⟩ dL_allow_4 (fun E ce q9 f1 H locs hPX hw hS hce hcv hcl => ?_) (fun v f1 H locs hP hw hS => ?_)
  · obtain ⟨eE9, hC8, hk8⟩ := hPX
    subst eE9
    refine hp_catch (name := eI) B0 [] _ _ (htab.trans rfl) (fun z hz => nomatch hz) rfl (by decide) qC_L_14 oC_eI hce hcv hcl ?_
    refine W.eq (g2 := F0 m 12 ls [.ref q9]) rfl ?_
    refine lv_astore (lv' := [(5, .ref q9), (0, .ref xo), (1, .int 0), (2, .int o), (3, .int xv)]) hx hb dL_allow_12 hl9 (by decide) rfl (fun ls hl9 => ?_)
    refine lv_bipush (v := (-71)) hx hb dL_allow_14 (by decide) ?_
    exact hp_iret (v := (-71)) B0 hw hS hr ⟨Nat.le_of_ble_eq_true rfl, Nat.le_of_ble_eq_true rfl⟩ dL_allow_16 (⟨rfl, hC8, hk8⟩)
  · exact hP.elim

set_option maxHeartbeats 4000000 in
set_option maxRecDepth 100000 in
theorem c_V_allow_V0 {l : Launch} (hl : l.stackTraces = false) (G : hG) (f : hM) (xo ez eo bu nw0 na0 nq0 nr0 nw1 na1 nq1 nr1 bs bp bh bf bl bg : Nat) (S0 : ES) (S1 : ES) (gw0 : Nat → Int32) (ga0 : Nat → Int32) (gw1 : Nat → Int32) (ga1 : Nat → Int32) (n : Nat) (a : Nat) (cg : Nat) (x : Nat) (sa : Nat → Nat) (pk : Nat → Nat) (fl : Nat → Nat) (gv : Nat → Nat) (gh : Nat → Int32) (gl : Nat → Int32) (hC : CXW G f xo ez eo bu nw0 na0 nq0 nr0 nw1 na1 nq1 nr1 bs bp bh bf bl bg S0 S1 gw0 ga0 gw1 ga1 n a cg x sa pk fl gv gh gl) (hL0 : S0.2.2.2.2.2.2.2.2.length < 3000) (hL1 : S1.2.2.2.2.2.2.2.2.length < 3000) (j : Nat) (hj : j < 6) (xv : Int32) (hv : ¬ (0 ≤ xv.toInt ∧ xv.toInt ≤ 1023)) : CT l yL_allow (.codeWith yL_allow cL_allow 6 (some .int) [(0, 9, 12, 14), (0, 9, 17, 16)]) 8 127 3 18 G [.ref xo, .int 0, .int (nI j), .int xv] f (fun v f1 => v = some (.int (-72)) ∧ CXW G f1 xo ez eo bu nw0 na0 nq0 nr0 nw1 na1 nq1 nr1 bs bp bh bf bl bg S0 S1 gw0 ga0 gw1 ga1 n a cg x sa pk fl gv gh gl ∧ hKn [xo, ez, eo, bu, nw0, na0, nq0, nr0, nw1, na1, nq1, nr1, bs, bp, bh, bf, bl, bg] f f1) (fun E f1 => False) := by
  refine hp_startH hl (own := RL) (by decide) rfl (Nat.le_of_ble_eq_true rfl) ?_
  intro p e s m args below meth c B0 hr htab hw hS ls hl9
  have hx := B0.1
  have hb := B0.2.1
  have hl9 : lv_has ls 6 [(0, .ref xo), (1, .int 0), (2, .int (nI j)), (3, .int xv)] := hl9
  have k_xo : f xo = some (.inr (4, [.ref ez, .ref eo, .ref bu])) := by obtain ⟨_, _, h9⟩ := hC; exact h9.1
  refine lv_aload_n hx hb dL_allow_0 rfl (lv_at hl9 0 rfl) ?_
  refine lv_iload_n hx hb dL_allow_1 rfl (lv_at hl9 1 rfl) ?_
  refine lv_iload_n hx hb dL_allow_2 rfl (lv_at hl9 2 rfl) ?_
  refine lv_iload_n hx hb dL_allow_3 rfl (lv_at hl9 3 rfl) ?_
  refine hp_V (ci := 4) (As := [.int 0, .int (nI j), .int xv]) (rest := []) B0 hw hS (c_P_allow_V0 hl G f xo ez eo bu nw0 na0 nq0 nr0 nw1 na1 nq1 nr1 bs bp bh bf bl bg S0 S1 gw0 ga0 gw1 ga1 n a cg x sa pk fl gv gh gl hC hL0 hL1 j hj xv hv) mV_X4_allow qM_L_18 rfl k_xo rfl rfl hl9.1 (Nat.le_of_ble_eq_true rfl) ⟨⟨Nat.le_of_ble_eq_true rfl, Nat.le_of_ble_eq_true rfl⟩, Nat.le_of_ble_eq_true rfl, Nat.le_of_ble_eq_true rfl⟩ dL_allow_4 (fun E ce q9 f1 H locs hPX hw hS hce hcv hcl => ?_) (fun v f1 H locs hP hw hS => ?_)
  · obtain ⟨eE9, hC8, hk8⟩ := hPX
    subst eE9
    refine hp_catch (name := eA) B0 [_] _ _ (htab.trans rfl) (fun z hz => Or.inr (by rcases List.mem_singleton.mp hz with rfl; exact ⟨by decide, eI, qC_L_14, List.mem_of_getElem? (i := 2) rfl⟩)) rfl (by decide) qC_L_16 oC_eA hce hcv hcl ?_
    refine W.eq (g2 := F0 m 17 ls [.ref q9]) rfl ?_
    refine lv_astore (lv' := [(5, .ref q9), (0, .ref xo), (1, .int 0), (2, .int (nI j)), (3, .int xv)]) hx hb dL_allow_17 hl9 (by decide) rfl (fun ls hl9 => ?_)
    refine lv_bipush (v := (-72)) hx hb dL_allow_19 (by decide) ?_
    exact hp_iret (v := (-72)) B0 hw hS hr ⟨Nat.le_of_ble_eq_true rfl, Nat.le_of_ble_eq_true rfl⟩ dL_allow_21 (⟨rfl, hC8, hk8⟩)
  · exact hP.elim

set_option maxHeartbeats 4000000 in
set_option maxRecDepth 100000 in
theorem c_V_allow_1 {l : Launch} (hl : l.stackTraces = false) (G : hG) (f : hM) (xo ez eo bu nw0 na0 nq0 nr0 nw1 na1 nq1 nr1 bs bp bh bf bl bg : Nat) (S0 : ES) (S1 : ES) (gw0 : Nat → Int32) (ga0 : Nat → Int32) (gw1 : Nat → Int32) (ga1 : Nat → Int32) (n : Nat) (a : Nat) (cg : Nat) (x : Nat) (sa : Nat → Nat) (pk : Nat → Nat) (fl : Nat → Nat) (gv : Nat → Nat) (gh : Nat → Int32) (gl : Nat → Int32) (hC : CXW G f xo ez eo bu nw0 na0 nq0 nr0 nw1 na1 nq1 nr1 bs bp bh bf bl bg S0 S1 gw0 ga0 gw1 ga1 n a cg x sa pk fl gv gh gl) (hL0 : S0.2.2.2.2.2.2.2.2.length < 3000) (hL1 : S1.2.2.2.2.2.2.2.2.length < 3000) (j : Nat) (hj : j < 6) (xv : Int32) (hv : 0 ≤ xv.toInt ∧ xv.toInt ≤ 1023) : CT l yL_allow (.codeWith yL_allow cL_allow 6 (some .int) [(0, 9, 12, 14), (0, 9, 17, 16)]) 8 127 2 12 G [.ref xo, .int 1, .int (nI j), .int xv] f (fun v f1 => v = some (.int (ga1 j)) ∧ CXW G f1 xo ez eo bu nw0 na0 nq0 nr0 nw1 na1 nq1 nr1 bs bp bh bf bl bg S0 S1 gw0 ga0 gw1 (upd ga1 j xv) n a cg x sa pk fl gv gh gl ∧ hKn [xo, ez, eo, bu, nw0, na0, nq0, nr0, nw1, na1, nq1, nr1, bs, bp, bh, bf, bl, bg] f f1) (fun E f1 => False) := by
  refine hp_startH hl (own := RL) (by decide) rfl (Nat.le_of_ble_eq_true rfl) ?_
  intro p e s m args below meth c B0 hr htab hw hS ls hl9
  have hx := B0.1
  have hb := B0.2.1
  have hl9 : lv_has ls 6 [(0, .ref xo), (1, .int 1), (2, .int (nI j)), (3, .int xv)] := hl9
  have k_xo : f xo = some (.inr (4, [.ref ez, .ref eo, .ref bu])) := by obtain ⟨_, _, h9⟩ := hC; exact h9.1
  refine lv_aload_n hx hb dL_allow_0 rfl (lv_at hl9 0 rfl) ?_
  refine lv_iload_n hx hb dL_allow_1 rfl (lv_at hl9 1 rfl) ?_
  refine lv_iload_n hx hb dL_allow_2 rfl (lv_at hl9 2 rfl) ?_
  refine lv_iload_n hx hb dL_allow_3 rfl (lv_at hl9 3 rfl) ?_
  refine hp_V (ci := 4) (As := [.int 1, .int (nI j), .int xv]) (rest := []) B0 hw hS (c_P_allow_1 hl G f xo ez eo bu nw0 na0 nq0 nr0 nw1 na1 nq1 nr1 bs bp bh bf bl bg S0 S1 gw0 ga0 gw1 ga1 n a cg x sa pk fl gv gh gl hC hL0 hL1 j hj xv hv) mV_X4_allow qM_L_18 rfl k_xo rfl rfl hl9.1 (Nat.le_of_ble_eq_true rfl) ⟨⟨Nat.le_of_ble_eq_true rfl, Nat.le_of_ble_eq_true rfl⟩, Nat.le_of_ble_eq_true rfl, Nat.le_of_ble_eq_true rfl⟩ dL_allow_4 (fun E ce q9 f1 H locs hPX hw hS hce hcv hcl => ?_) (fun v f1 H locs hP hw hS => ?_)
  · exact hPX.elim
  · obtain ⟨ev9, hC8, hk8⟩ := hP
    subst ev9
    refine W.eq (g2 := F0 m 7 ls [.int (ga1 j)]) rfl ?_
    refine lv_istore (lv' := [(4, .int (ga1 j)), (0, .ref xo), (1, .int 1), (2, .int (nI j)), (3, .int xv)]) hx hb dL_allow_7 hl9 (by decide) rfl (fun ls hl9 => ?_)
    refine lv_goto (tgt := 22) hx hb dL_allow_9 (by decide) ?_
    refine lv_iload hx hb dL_allow_22 (lv_at hl9 0 rfl) ?_
    exact hp_iret (v := (ga1 j)) B0 hw hS hr ⟨Nat.le_of_ble_eq_true rfl, Nat.le_of_ble_eq_true rfl⟩ dL_allow_24 (⟨rfl, hC8, hk8⟩)

set_option maxHeartbeats 4000000 in
set_option maxRecDepth 100000 in
theorem c_V_allow_O1 {l : Launch} (hl : l.stackTraces = false) (G : hG) (f : hM) (xo ez eo bu nw0 na0 nq0 nr0 nw1 na1 nq1 nr1 bs bp bh bf bl bg : Nat) (S0 : ES) (S1 : ES) (gw0 : Nat → Int32) (ga0 : Nat → Int32) (gw1 : Nat → Int32) (ga1 : Nat → Int32) (n : Nat) (a : Nat) (cg : Nat) (x : Nat) (sa : Nat → Nat) (pk : Nat → Nat) (fl : Nat → Nat) (gv : Nat → Nat) (gh : Nat → Int32) (gl : Nat → Int32) (hC : CXW G f xo ez eo bu nw0 na0 nq0 nr0 nw1 na1 nq1 nr1 bs bp bh bf bl bg S0 S1 gw0 ga0 gw1 ga1 n a cg x sa pk fl gv gh gl) (hL0 : S0.2.2.2.2.2.2.2.2.length < 3000) (hL1 : S1.2.2.2.2.2.2.2.2.length < 3000) (o xv : Int32) (ho : ¬ sO o) : CT l yL_allow (.codeWith yL_allow cL_allow 6 (some .int) [(0, 9, 12, 14), (0, 9, 17, 16)]) 8 127 2 12 G [.ref xo, .int 1, .int o, .int xv] f (fun v f1 => v = some (.int (-71)) ∧ CXW G f1 xo ez eo bu nw0 na0 nq0 nr0 nw1 na1 nq1 nr1 bs bp bh bf bl bg S0 S1 gw0 ga0 gw1 ga1 n a cg x sa pk fl gv gh gl ∧ hKn [xo, ez, eo, bu, nw0, na0, nq0, nr0, nw1, na1, nq1, nr1, bs, bp, bh, bf, bl, bg] f f1) (fun E f1 => False) := by
  refine hp_startH hl (own := RL) (by decide) rfl (Nat.le_of_ble_eq_true rfl) ?_
  intro p e s m args below meth c B0 hr htab hw hS ls hl9
  have hx := B0.1
  have hb := B0.2.1
  have hl9 : lv_has ls 6 [(0, .ref xo), (1, .int 1), (2, .int o), (3, .int xv)] := hl9
  have k_xo : f xo = some (.inr (4, [.ref ez, .ref eo, .ref bu])) := by obtain ⟨_, _, h9⟩ := hC; exact h9.1
  refine lv_aload_n hx hb dL_allow_0 rfl (lv_at hl9 0 rfl) ?_
  refine lv_iload_n hx hb dL_allow_1 rfl (lv_at hl9 1 rfl) ?_
  refine lv_iload_n hx hb dL_allow_2 rfl (lv_at hl9 2 rfl) ?_
  refine lv_iload_n hx hb dL_allow_3 rfl (lv_at hl9 3 rfl) ?_
  refine hp_V (ci := 4) (As := [.int 1, .int o, .int xv]) (rest := []) B0 hw hS (c_P_allow_O1 hl G f xo ez eo bu nw0 na0 nq0 nr0 nw1 na1 nq1 nr1 bs bp bh bf bl bg S0 S1 gw0 ga0 gw1 ga1 n a cg x sa pk fl gv gh gl hC hL0 hL1 o xv ho) mV_X4_allow qM_L_18 rfl k_xo rfl rfl hl9.1 (Nat.le_of_ble_eq_true rfl) ⟨⟨Nat.le_of_ble_eq_true rfl, Nat.le_of_ble_eq_true rfl⟩, Nat.le_of_ble_eq_true rfl, Nat.le_of_ble_eq_true rfl⟩ dL_allow_4 (fun E ce q9 f1 H locs hPX hw hS hce hcv hcl => ?_) (fun v f1 H locs hP hw hS => ?_)
  · obtain ⟨eE9, hC8, hk8⟩ := hPX
    subst eE9
    refine hp_catch (name := eI) B0 [] _ _ (htab.trans rfl) (fun z hz => nomatch hz) rfl (by decide) qC_L_14 oC_eI hce hcv hcl ?_
    refine W.eq (g2 := F0 m 12 ls [.ref q9]) rfl ?_
    refine lv_astore (lv' := [(5, .ref q9), (0, .ref xo), (1, .int 1), (2, .int o), (3, .int xv)]) hx hb dL_allow_12 hl9 (by decide) rfl (fun ls hl9 => ?_)
    refine lv_bipush (v := (-71)) hx hb dL_allow_14 (by decide) ?_
    exact hp_iret (v := (-71)) B0 hw hS hr ⟨Nat.le_of_ble_eq_true rfl, Nat.le_of_ble_eq_true rfl⟩ dL_allow_16 (⟨rfl, hC8, hk8⟩)
  · exact hP.elim

set_option maxHeartbeats 4000000 in
set_option maxRecDepth 100000 in
theorem c_V_allow_V1 {l : Launch} (hl : l.stackTraces = false) (G : hG) (f : hM) (xo ez eo bu nw0 na0 nq0 nr0 nw1 na1 nq1 nr1 bs bp bh bf bl bg : Nat) (S0 : ES) (S1 : ES) (gw0 : Nat → Int32) (ga0 : Nat → Int32) (gw1 : Nat → Int32) (ga1 : Nat → Int32) (n : Nat) (a : Nat) (cg : Nat) (x : Nat) (sa : Nat → Nat) (pk : Nat → Nat) (fl : Nat → Nat) (gv : Nat → Nat) (gh : Nat → Int32) (gl : Nat → Int32) (hC : CXW G f xo ez eo bu nw0 na0 nq0 nr0 nw1 na1 nq1 nr1 bs bp bh bf bl bg S0 S1 gw0 ga0 gw1 ga1 n a cg x sa pk fl gv gh gl) (hL0 : S0.2.2.2.2.2.2.2.2.length < 3000) (hL1 : S1.2.2.2.2.2.2.2.2.length < 3000) (j : Nat) (hj : j < 6) (xv : Int32) (hv : ¬ (0 ≤ xv.toInt ∧ xv.toInt ≤ 1023)) : CT l yL_allow (.codeWith yL_allow cL_allow 6 (some .int) [(0, 9, 12, 14), (0, 9, 17, 16)]) 8 127 3 18 G [.ref xo, .int 1, .int (nI j), .int xv] f (fun v f1 => v = some (.int (-72)) ∧ CXW G f1 xo ez eo bu nw0 na0 nq0 nr0 nw1 na1 nq1 nr1 bs bp bh bf bl bg S0 S1 gw0 ga0 gw1 ga1 n a cg x sa pk fl gv gh gl ∧ hKn [xo, ez, eo, bu, nw0, na0, nq0, nr0, nw1, na1, nq1, nr1, bs, bp, bh, bf, bl, bg] f f1) (fun E f1 => False) := by
  refine hp_startH hl (own := RL) (by decide) rfl (Nat.le_of_ble_eq_true rfl) ?_
  intro p e s m args below meth c B0 hr htab hw hS ls hl9
  have hx := B0.1
  have hb := B0.2.1
  have hl9 : lv_has ls 6 [(0, .ref xo), (1, .int 1), (2, .int (nI j)), (3, .int xv)] := hl9
  have k_xo : f xo = some (.inr (4, [.ref ez, .ref eo, .ref bu])) := by obtain ⟨_, _, h9⟩ := hC; exact h9.1
  refine lv_aload_n hx hb dL_allow_0 rfl (lv_at hl9 0 rfl) ?_
  refine lv_iload_n hx hb dL_allow_1 rfl (lv_at hl9 1 rfl) ?_
  refine lv_iload_n hx hb dL_allow_2 rfl (lv_at hl9 2 rfl) ?_
  refine lv_iload_n hx hb dL_allow_3 rfl (lv_at hl9 3 rfl) ?_
  refine hp_V (ci := 4) (As := [.int 1, .int (nI j), .int xv]) (rest := []) B0 hw hS (c_P_allow_V1 hl G f xo ez eo bu nw0 na0 nq0 nr0 nw1 na1 nq1 nr1 bs bp bh bf bl bg S0 S1 gw0 ga0 gw1 ga1 n a cg x sa pk fl gv gh gl hC hL0 hL1 j hj xv hv) mV_X4_allow qM_L_18 rfl k_xo rfl rfl hl9.1 (Nat.le_of_ble_eq_true rfl) ⟨⟨Nat.le_of_ble_eq_true rfl, Nat.le_of_ble_eq_true rfl⟩, Nat.le_of_ble_eq_true rfl, Nat.le_of_ble_eq_true rfl⟩ dL_allow_4 (fun E ce q9 f1 H locs hPX hw hS hce hcv hcl => ?_) (fun v f1 H locs hP hw hS => ?_)
  · obtain ⟨eE9, hC8, hk8⟩ := hPX
    subst eE9
    refine hp_catch (name := eA) B0 [_] _ _ (htab.trans rfl) (fun z hz => Or.inr (by rcases List.mem_singleton.mp hz with rfl; exact ⟨by decide, eI, qC_L_14, List.mem_of_getElem? (i := 2) rfl⟩)) rfl (by decide) qC_L_16 oC_eA hce hcv hcl ?_
    refine W.eq (g2 := F0 m 17 ls [.ref q9]) rfl ?_
    refine lv_astore (lv' := [(5, .ref q9), (0, .ref xo), (1, .int 1), (2, .int (nI j)), (3, .int xv)]) hx hb dL_allow_17 hl9 (by decide) rfl (fun ls hl9 => ?_)
    refine lv_bipush (v := (-72)) hx hb dL_allow_19 (by decide) ?_
    exact hp_iret (v := (-72)) B0 hw hS hr ⟨Nat.le_of_ble_eq_true rfl, Nat.le_of_ble_eq_true rfl⟩ dL_allow_21 (⟨rfl, hC8, hk8⟩)
  · exact hP.elim

set_option maxHeartbeats 4000000 in
set_option maxRecDepth 100000 in
theorem c_V_allow_E {l : Launch} (hl : l.stackTraces = false) (G : hG) (f : hM) (xo ez eo bu nw0 na0 nq0 nr0 nw1 na1 nq1 nr1 bs bp bh bf bl bg : Nat) (S0 : ES) (S1 : ES) (gw0 : Nat → Int32) (ga0 : Nat → Int32) (gw1 : Nat → Int32) (ga1 : Nat → Int32) (n : Nat) (a : Nat) (cg : Nat) (x : Nat) (sa : Nat → Nat) (pk : Nat → Nat) (fl : Nat → Nat) (gv : Nat → Nat) (gh : Nat → Int32) (gl : Nat → Int32) (hC : CXW G f xo ez eo bu nw0 na0 nq0 nr0 nw1 na1 nq1 nr1 bs bp bh bf bl bg S0 S1 gw0 ga0 gw1 ga1 n a cg x sa pk fl gv gh gl) (hL0 : S0.2.2.2.2.2.2.2.2.length < 3000) (hL1 : S1.2.2.2.2.2.2.2.2.length < 3000) (i o xv : Int32) (hi : ¬ sE i) : CT l yL_allow (.codeWith yL_allow cL_allow 6 (some .int) [(0, 9, 12, 14), (0, 9, 17, 16)]) 8 127 1 6 G [.ref xo, .int i, .int o, .int xv] f (fun v f1 => v = some (.int (-71)) ∧ CXW G f1 xo ez eo bu nw0 na0 nq0 nr0 nw1 na1 nq1 nr1 bs bp bh bf bl bg S0 S1 gw0 ga0 gw1 ga1 n a cg x sa pk fl gv gh gl ∧ hKn [xo, ez, eo, bu, nw0, na0, nq0, nr0, nw1, na1, nq1, nr1, bs, bp, bh, bf, bl, bg] f f1) (fun E f1 => False) := by
  refine hp_startH hl (own := RL) (by decide) rfl (Nat.le_of_ble_eq_true rfl) ?_
  intro p e s m args below meth c B0 hr htab hw hS ls hl9
  have hx := B0.1
  have hb := B0.2.1
  have hl9 : lv_has ls 6 [(0, .ref xo), (1, .int i), (2, .int o), (3, .int xv)] := hl9
  have k_xo : f xo = some (.inr (4, [.ref ez, .ref eo, .ref bu])) := by obtain ⟨_, _, h9⟩ := hC; exact h9.1
  refine lv_aload_n hx hb dL_allow_0 rfl (lv_at hl9 0 rfl) ?_
  refine lv_iload_n hx hb dL_allow_1 rfl (lv_at hl9 1 rfl) ?_
  refine lv_iload_n hx hb dL_allow_2 rfl (lv_at hl9 2 rfl) ?_
  refine lv_iload_n hx hb dL_allow_3 rfl (lv_at hl9 3 rfl) ?_
  refine hp_V (ci := 4) (As := [.int i, .int o, .int xv]) (rest := []) B0 hw hS (c_P_allow_E hl G f xo ez eo bu nw0 na0 nq0 nr0 nw1 na1 nq1 nr1 bs bp bh bf bl bg S0 S1 gw0 ga0 gw1 ga1 n a cg x sa pk fl gv gh gl hC hL0 hL1 i o xv hi) mV_X4_allow qM_L_18 rfl k_xo rfl rfl hl9.1 (Nat.le_of_ble_eq_true rfl) ⟨⟨Nat.le_of_ble_eq_true rfl, Nat.le_of_ble_eq_true rfl⟩, Nat.le_of_ble_eq_true rfl, Nat.le_of_ble_eq_true rfl⟩ dL_allow_4 (fun E ce q9 f1 H locs hPX hw hS hce hcv hcl => ?_) (fun v f1 H locs hP hw hS => ?_)
  · obtain ⟨eE9, hC8, hk8⟩ := hPX
    subst eE9
    refine hp_catch (name := eI) B0 [] _ _ (htab.trans rfl) (fun z hz => nomatch hz) rfl (by decide) qC_L_14 oC_eI hce hcv hcl ?_
    refine W.eq (g2 := F0 m 12 ls [.ref q9]) rfl ?_
    refine lv_astore (lv' := [(5, .ref q9), (0, .ref xo), (1, .int i), (2, .int o), (3, .int xv)]) hx hb dL_allow_12 hl9 (by decide) rfl (fun ls hl9 => ?_)
    refine lv_bipush (v := (-71)) hx hb dL_allow_14 (by decide) ?_
    exact hp_iret (v := (-71)) B0 hw hS hr ⟨Nat.le_of_ble_eq_true rfl, Nat.le_of_ble_eq_true rfl⟩ dL_allow_16 (⟨rfl, hC8, hk8⟩)
  · exact hP.elim

set_option maxHeartbeats 4000000 in
set_option maxRecDepth 100000 in
theorem c_V_setMagic_0 {l : Launch} (hl : l.stackTraces = false) (G : hG) (f : hM) (xo ez eo bu nw0 na0 nq0 nr0 nw1 na1 nq1 nr1 bs bp bh bf bl bg : Nat) (S0 : ES) (S1 : ES) (gw0 : Nat → Int32) (ga0 : Nat → Int32) (gw1 : Nat → Int32) (ga1 : Nat → Int32) (n : Nat) (a : Nat) (cg : Nat) (x : Nat) (sa : Nat → Nat) (pk : Nat → Nat) (fl : Nat → Nat) (gv : Nat → Nat) (gh : Nat → Int32) (gl : Nat → Int32) (hC : CXW G f xo ez eo bu nw0 na0 nq0 nr0 nw1 na1 nq1 nr1 bs bp bh bf bl bg S0 S1 gw0 ga0 gw1 ga1 n a cg x sa pk fl gv gh gl) (hL0 : S0.2.2.2.2.2.2.2.2.length < 3000) (hL1 : S1.2.2.2.2.2.2.2.2.length < 3000) (ix : Int32) : CT l yL_setsMagic (.codeWith yL_setsMagic cL_setsMagic 6 (some .boolean) [(0, 17, 20, 14)]) 8 125 1 6 G [.ref xo, .int 0, .int (num ix), .int (num S0.2.2.2.2.2.2.1)] f (fun v f1 => v = some (.int 1) ∧ CXW G f1 xo ez eo bu nw0 na0 nq0 nr0 nw1 na1 nq1 nr1 bs bp bh bf bl bg (ixS S0 ix) S1 gw0 ga0 gw1 ga1 n a cg x sa pk fl gv gh gl ∧ hKn [xo, ez, eo, bu, nw0, na0, nq0, nr0, nw1, na1, nq1, nr1, bs, bp, bh, bf, bl, bg] f f1) (fun E f1 => False) := by
  refine hp_startH hl (own := RL) (by decide) rfl (Nat.le_of_ble_eq_true rfl) ?_
  intro p e s m args below meth c B0 hr htab hw hS ls hl9
  have hx := B0.1
  have hb := B0.2.1
  have hl9 : lv_has ls 6 [(0, .ref xo), (1, .int 0), (2, .int (num ix)), (3, .int (num S0.2.2.2.2.2.2.1))] := hl9
  have k_xo : f xo = some (.inr (4, [.ref ez, .ref eo, .ref bu])) := by obtain ⟨_, _, h9⟩ := hC; exact h9.1
  refine lv_aload_n hx hb dL_setsMagic_0 rfl (lv_at hl9 0 rfl) ?_
  refine lv_iload_n hx hb dL_setsMagic_1 rfl (lv_at hl9 1 rfl) ?_
  refine lv_iload_n hx hb dL_setsMagic_2 rfl (lv_at hl9 2 rfl) ?_
  refine hp_V (ci := 4) (As := [.int 0, .int (num ix)]) (rest := []) B0 hw hS (c_P_setMagic_0 hl G f xo ez eo bu nw0 na0 nq0 nr0 nw1 na1 nq1 nr1 bs bp bh bf bl bg S0 S1 gw0 ga0 gw1 ga1 n a cg x sa pk fl gv gh gl hC hL0 hL1 ix) mV_X4_setMagic qM_L_21 rfl k_xo rfl rfl hl9.1 (Nat.le_of_ble_eq_true rfl) ⟨⟨Nat.le_of_ble_eq_true rfl, Nat.le_of_ble_eq_true rfl⟩, Nat.le_of_ble_eq_true rfl, Nat.le_of_ble_eq_true rfl⟩ dL_setsMagic_3 (fun E ce q9 f1 H locs hPX hw hS hce hcv hcl => ?_) (fun v f1 H locs hP hw hS => ?_)
  · exact hPX.elim
  · obtain ⟨ev9, hC8, hk8⟩ := hP
    subst ev9
    refine W.eq (g2 := F0 m 6 ls [.int (num S0.2.2.2.2.2.2.1)]) rfl ?_
    refine lv_iload_n hx hb dL_setsMagic_6 rfl (lv_at hl9 3 rfl) ?_
    refine lv_icmp_ne (tgt := 14) hx hb dL_setsMagic_7 (by decide) (fun c9 => absurd rfl c9) (fun _ => ?_)
    refine lv_iconst (v := 1) hx hb dL_setsMagic_10 (by decide) ?_
    refine lv_goto (tgt := 15) hx hb dL_setsMagic_11 (by decide) ?_
    refine lv_istore (lv' := [(4, .int 1), (0, .ref xo), (1, .int 0), (2, .int (num ix)), (3, .int (num S0.2.2.2.2.2.2.1))]) hx hb dL_setsMagic_15 hl9 (by decide) rfl (fun ls hl9 => ?_)
    refine lv_goto (tgt := 24) hx hb dL_setsMagic_17 (by decide) ?_
    refine lv_iload hx hb dL_setsMagic_24 (lv_at hl9 0 rfl) ?_
    exact hp_zret (v := 1) B0 hw hS hr ⟨Nat.le_of_ble_eq_true rfl, Nat.le_of_ble_eq_true rfl⟩ (rfl) dL_setsMagic_26 (⟨rfl, hC8, hk8⟩)

set_option maxHeartbeats 4000000 in
set_option maxRecDepth 100000 in
theorem c_V_setMagic_1 {l : Launch} (hl : l.stackTraces = false) (G : hG) (f : hM) (xo ez eo bu nw0 na0 nq0 nr0 nw1 na1 nq1 nr1 bs bp bh bf bl bg : Nat) (S0 : ES) (S1 : ES) (gw0 : Nat → Int32) (ga0 : Nat → Int32) (gw1 : Nat → Int32) (ga1 : Nat → Int32) (n : Nat) (a : Nat) (cg : Nat) (x : Nat) (sa : Nat → Nat) (pk : Nat → Nat) (fl : Nat → Nat) (gv : Nat → Nat) (gh : Nat → Int32) (gl : Nat → Int32) (hC : CXW G f xo ez eo bu nw0 na0 nq0 nr0 nw1 na1 nq1 nr1 bs bp bh bf bl bg S0 S1 gw0 ga0 gw1 ga1 n a cg x sa pk fl gv gh gl) (hL0 : S0.2.2.2.2.2.2.2.2.length < 3000) (hL1 : S1.2.2.2.2.2.2.2.2.length < 3000) (ix : Int32) : CT l yL_setsMagic (.codeWith yL_setsMagic cL_setsMagic 6 (some .boolean) [(0, 17, 20, 14)]) 8 125 1 6 G [.ref xo, .int 1, .int (num ix), .int (num S1.2.2.2.2.2.2.1)] f (fun v f1 => v = some (.int 1) ∧ CXW G f1 xo ez eo bu nw0 na0 nq0 nr0 nw1 na1 nq1 nr1 bs bp bh bf bl bg S0 (ixS S1 ix) gw0 ga0 gw1 ga1 n a cg x sa pk fl gv gh gl ∧ hKn [xo, ez, eo, bu, nw0, na0, nq0, nr0, nw1, na1, nq1, nr1, bs, bp, bh, bf, bl, bg] f f1) (fun E f1 => False) := by
  refine hp_startH hl (own := RL) (by decide) rfl (Nat.le_of_ble_eq_true rfl) ?_
  intro p e s m args below meth c B0 hr htab hw hS ls hl9
  have hx := B0.1
  have hb := B0.2.1
  have hl9 : lv_has ls 6 [(0, .ref xo), (1, .int 1), (2, .int (num ix)), (3, .int (num S1.2.2.2.2.2.2.1))] := hl9
  have k_xo : f xo = some (.inr (4, [.ref ez, .ref eo, .ref bu])) := by obtain ⟨_, _, h9⟩ := hC; exact h9.1
  refine lv_aload_n hx hb dL_setsMagic_0 rfl (lv_at hl9 0 rfl) ?_
  refine lv_iload_n hx hb dL_setsMagic_1 rfl (lv_at hl9 1 rfl) ?_
  refine lv_iload_n hx hb dL_setsMagic_2 rfl (lv_at hl9 2 rfl) ?_
  refine hp_V (ci := 4) (As := [.int 1, .int (num ix)]) (rest := []) B0 hw hS (c_P_setMagic_1 hl G f xo ez eo bu nw0 na0 nq0 nr0 nw1 na1 nq1 nr1 bs bp bh bf bl bg S0 S1 gw0 ga0 gw1 ga1 n a cg x sa pk fl gv gh gl hC hL0 hL1 ix) mV_X4_setMagic qM_L_21 rfl k_xo rfl rfl hl9.1 (Nat.le_of_ble_eq_true rfl) ⟨⟨Nat.le_of_ble_eq_true rfl, Nat.le_of_ble_eq_true rfl⟩, Nat.le_of_ble_eq_true rfl, Nat.le_of_ble_eq_true rfl⟩ dL_setsMagic_3 (fun E ce q9 f1 H locs hPX hw hS hce hcv hcl => ?_) (fun v f1 H locs hP hw hS => ?_)
  · exact hPX.elim
  · obtain ⟨ev9, hC8, hk8⟩ := hP
    subst ev9
    refine W.eq (g2 := F0 m 6 ls [.int (num S1.2.2.2.2.2.2.1)]) rfl ?_
    refine lv_iload_n hx hb dL_setsMagic_6 rfl (lv_at hl9 3 rfl) ?_
    refine lv_icmp_ne (tgt := 14) hx hb dL_setsMagic_7 (by decide) (fun c9 => absurd rfl c9) (fun _ => ?_)
    refine lv_iconst (v := 1) hx hb dL_setsMagic_10 (by decide) ?_
    refine lv_goto (tgt := 15) hx hb dL_setsMagic_11 (by decide) ?_
    refine lv_istore (lv' := [(4, .int 1), (0, .ref xo), (1, .int 1), (2, .int (num ix)), (3, .int (num S1.2.2.2.2.2.2.1))]) hx hb dL_setsMagic_15 hl9 (by decide) rfl (fun ls hl9 => ?_)
    refine lv_goto (tgt := 24) hx hb dL_setsMagic_17 (by decide) ?_
    refine lv_iload hx hb dL_setsMagic_24 (lv_at hl9 0 rfl) ?_
    exact hp_zret (v := 1) B0 hw hS hr ⟨Nat.le_of_ble_eq_true rfl, Nat.le_of_ble_eq_true rfl⟩ (rfl) dL_setsMagic_26 (⟨rfl, hC8, hk8⟩)

set_option maxHeartbeats 4000000 in
set_option maxRecDepth 100000 in
theorem c_V_setMagic_E {l : Launch} (hl : l.stackTraces = false) (G : hG) (f : hM) (xo ez eo bu nw0 na0 nq0 nr0 nw1 na1 nq1 nr1 bs bp bh bf bl bg : Nat) (S0 : ES) (S1 : ES) (gw0 : Nat → Int32) (ga0 : Nat → Int32) (gw1 : Nat → Int32) (ga1 : Nat → Int32) (n : Nat) (a : Nat) (cg : Nat) (x : Nat) (sa : Nat → Nat) (pk : Nat → Nat) (fl : Nat → Nat) (gv : Nat → Nat) (gh : Nat → Int32) (gl : Nat → Int32) (hC : CXW G f xo ez eo bu nw0 na0 nq0 nr0 nw1 na1 nq1 nr1 bs bp bh bf bl bg S0 S1 gw0 ga0 gw1 ga1 n a cg x sa pk fl gv gh gl) (hL0 : S0.2.2.2.2.2.2.2.2.length < 3000) (hL1 : S1.2.2.2.2.2.2.2.2.length < 3000) (i xv : Int32) (hi : ¬ sE i) : CT l yL_setsMagic (.codeWith yL_setsMagic cL_setsMagic 6 (some .boolean) [(0, 17, 20, 14)]) 8 125 1 6 G [.ref xo, .int i, .int xv, .int (xv)] f (fun v f1 => v = some (.int 0) ∧ CXW G f1 xo ez eo bu nw0 na0 nq0 nr0 nw1 na1 nq1 nr1 bs bp bh bf bl bg S0 S1 gw0 ga0 gw1 ga1 n a cg x sa pk fl gv gh gl ∧ hKn [xo, ez, eo, bu, nw0, na0, nq0, nr0, nw1, na1, nq1, nr1, bs, bp, bh, bf, bl, bg] f f1) (fun E f1 => False) := by
  refine hp_startH hl (own := RL) (by decide) rfl (Nat.le_of_ble_eq_true rfl) ?_
  intro p e s m args below meth c B0 hr htab hw hS ls hl9
  have hx := B0.1
  have hb := B0.2.1
  have hl9 : lv_has ls 6 [(0, .ref xo), (1, .int i), (2, .int xv), (3, .int (xv))] := hl9
  have k_xo : f xo = some (.inr (4, [.ref ez, .ref eo, .ref bu])) := by obtain ⟨_, _, h9⟩ := hC; exact h9.1
  refine lv_aload_n hx hb dL_setsMagic_0 rfl (lv_at hl9 0 rfl) ?_
  refine lv_iload_n hx hb dL_setsMagic_1 rfl (lv_at hl9 1 rfl) ?_
  refine lv_iload_n hx hb dL_setsMagic_2 rfl (lv_at hl9 2 rfl) ?_
  refine hp_V (ci := 4) (As := [.int i, .int xv]) (rest := []) B0 hw hS (c_P_setMagic_E hl G f xo ez eo bu nw0 na0 nq0 nr0 nw1 na1 nq1 nr1 bs bp bh bf bl bg S0 S1 gw0 ga0 gw1 ga1 n a cg x sa pk fl gv gh gl hC hL0 hL1 i xv hi) mV_X4_setMagic qM_L_21 rfl k_xo rfl rfl hl9.1 (Nat.le_of_ble_eq_true rfl) ⟨⟨Nat.le_of_ble_eq_true rfl, Nat.le_of_ble_eq_true rfl⟩, Nat.le_of_ble_eq_true rfl, Nat.le_of_ble_eq_true rfl⟩ dL_setsMagic_3 (fun E ce q9 f1 H locs hPX hw hS hce hcv hcl => ?_) (fun v f1 H locs hP hw hS => ?_)
  · obtain ⟨eE9, hC8, hk8⟩ := hPX
    subst eE9
    refine hp_catch (name := eI) B0 [] _ _ (htab.trans rfl) (fun z hz => nomatch hz) rfl (by decide) qC_L_14 oC_eI hce hcv hcl ?_
    refine W.eq (g2 := F0 m 20 ls [.ref q9]) rfl ?_
    refine lv_astore (lv' := [(5, .ref q9), (0, .ref xo), (1, .int i), (2, .int xv), (3, .int (xv))]) hx hb dL_setsMagic_20 hl9 (by decide) rfl (fun ls hl9 => ?_)
    refine lv_iconst (v := 0) hx hb dL_setsMagic_22 (by decide) ?_
    exact hp_zret (v := 0) B0 hw hS hr ⟨Nat.le_of_ble_eq_true rfl, Nat.le_of_ble_eq_true rfl⟩ (rfl) dL_setsMagic_23 (⟨rfl, hC8, hk8⟩)
  · exact hP.elim

set_option maxHeartbeats 4000000 in
set_option maxRecDepth 100000 in
theorem c_V_open_0 {l : Launch} (hl : l.stackTraces = false) (G : hG) (f : hM) (xo ez eo bu nw0 na0 nq0 nr0 nw1 na1 nq1 nr1 bs bp bh bf bl bg : Nat) (S0 : ES) (S1 : ES) (gw0 : Nat → Int32) (ga0 : Nat → Int32) (gw1 : Nat → Int32) (ga1 : Nat → Int32) (n : Nat) (a : Nat) (cg : Nat) (x : Nat) (sa : Nat → Nat) (pk : Nat → Nat) (fl : Nat → Nat) (gv : Nat → Nat) (gh : Nat → Int32) (gl : Nat → Int32) (hC : CXW G f xo ez eo bu nw0 na0 nq0 nr0 nw1 na1 nq1 nr1 bs bp bh bf bl bg S0 S1 gw0 ga0 gw1 ga1 n a cg x sa pk fl gv gh gl) (hL0 : S0.2.2.2.2.2.2.2.2.length < 3000) (hL1 : S1.2.2.2.2.2.2.2.2.length < 3000) (hst : S0.1 = 0) : CT l yL_open (.codeWith yL_open cL_open 4 (some .int) [(0, 6, 9, 14), (0, 6, 13, 29)]) 8 125 3 17 G [.ref xo, .int 0] f (fun v f1 => v = some (.int (S0.2.1 + 1)) ∧ CXW G f1 xo ez eo bu nw0 na0 nq0 nr0 nw1 na1 nq1 nr1 bs bp bh bf bl bg (openS gw0 S0) S1 gw0 ga0 gw1 ga1 n a cg x sa pk fl gv gh gl ∧ hKn [xo, ez, eo, bu, nw0, na0, nq0, nr0, nw1, na1, nq1, nr1, bs, bp, bh, bf, bl, bg] f f1) (fun E f1 => False) := by
  refine hp_startH hl (own := RL) (by decide) rfl (Nat.le_of_ble_eq_true rfl) ?_
  intro p e s m args below meth c B0 hr htab hw hS ls hl9
  have hx := B0.1
  have hb := B0.2.1
  have hl9 : lv_has ls 4 [(0, .ref xo), (1, .int 0)] := hl9
  have k_xo : f xo = some (.inr (4, [.ref ez, .ref eo, .ref bu])) := by obtain ⟨_, _, h9⟩ := hC; exact h9.1
  refine lv_aload_n hx hb dL_open_0 rfl (lv_at hl9 0 rfl) ?_
  refine lv_iload_n hx hb dL_open_1 rfl (lv_at hl9 1 rfl) ?_
  refine hp_V (ci := 4) (As := [.int 0]) (rest := []) B0 hw hS (c_P_open_0 hl G f xo ez eo bu nw0 na0 nq0 nr0 nw1 na1 nq1 nr1 bs bp bh bf bl bg S0 S1 gw0 ga0 gw1 ga1 n a cg x sa pk fl gv gh gl hC hL0 hL1 hst) mV_X4_open qM_L_25 rfl k_xo rfl rfl hl9.1 (Nat.le_of_ble_eq_true rfl) ⟨⟨Nat.le_of_ble_eq_true rfl, Nat.le_of_ble_eq_true rfl⟩, Nat.le_of_ble_eq_true rfl, Nat.le_of_ble_eq_true rfl⟩ dL_open_2 (fun E ce q9 f1 H locs hPX hw hS hce hcv hcl => ?_) (fun v f1 H locs hP hw hS => ?_)
  · exact hPX.elim
  · obtain ⟨ev9, hC8, hk8⟩ := hP
    subst ev9
    refine W.eq (g2 := F0 m 5 ls [.int (S0.2.1 + 1)]) rfl ?_
    refine lv_istore_n (lv' := [(2, .int (S0.2.1 + 1)), (0, .ref xo), (1, .int 0)]) hx hb dL_open_5 rfl hl9 (by decide) rfl (fun ls hl9 => ?_)
    refine lv_goto (tgt := 17) hx hb dL_open_6 (by decide) ?_
    refine lv_iload_n hx hb dL_open_17 rfl (lv_at hl9 0 rfl) ?_
    exact hp_iret (v := (S0.2.1 + 1)) B0 hw hS hr ⟨Nat.le_of_ble_eq_true rfl, Nat.le_of_ble_eq_true rfl⟩ dL_open_18 (⟨rfl, hC8, hk8⟩)

set_option maxHeartbeats 4000000 in
set_option maxRecDepth 100000 in
theorem c_V_open_S0 {l : Launch} (hl : l.stackTraces = false) (G : hG) (f : hM) (xo ez eo bu nw0 na0 nq0 nr0 nw1 na1 nq1 nr1 bs bp bh bf bl bg : Nat) (S0 : ES) (S1 : ES) (gw0 : Nat → Int32) (ga0 : Nat → Int32) (gw1 : Nat → Int32) (ga1 : Nat → Int32) (n : Nat) (a : Nat) (cg : Nat) (x : Nat) (sa : Nat → Nat) (pk : Nat → Nat) (fl : Nat → Nat) (gv : Nat → Nat) (gh : Nat → Int32) (gl : Nat → Int32) (hC : CXW G f xo ez eo bu nw0 na0 nq0 nr0 nw1 na1 nq1 nr1 bs bp bh bf bl bg S0 S1 gw0 ga0 gw1 ga1 n a cg x sa pk fl gv gh gl) (hL0 : S0.2.2.2.2.2.2.2.2.length < 3000) (hL1 : S1.2.2.2.2.2.2.2.2.length < 3000) (hst : ¬ S0.1 = 0) : CT l yL_open (.codeWith yL_open cL_open 4 (some .int) [(0, 6, 9, 14), (0, 6, 13, 29)]) 8 125 2 12 G [.ref xo, .int 0] f (fun v f1 => v = some (.int (-73)) ∧ CXW G f1 xo ez eo bu nw0 na0 nq0 nr0 nw1 na1 nq1 nr1 bs bp bh bf bl bg S0 S1 gw0 ga0 gw1 ga1 n a cg x sa pk fl gv gh gl ∧ hKn [xo, ez, eo, bu, nw0, na0, nq0, nr0, nw1, na1, nq1, nr1, bs, bp, bh, bf, bl, bg] f f1) (fun E f1 => False) := by
  refine hp_startH hl (own := RL) (by decide) rfl (Nat.le_of_ble_eq_true rfl) ?_
  intro p e s m args below meth c B0 hr htab hw hS ls hl9
  have hx := B0.1
  have hb := B0.2.1
  have hl9 : lv_has ls 4 [(0, .ref xo), (1, .int 0)] := hl9
  have k_xo : f xo = some (.inr (4, [.ref ez, .ref eo, .ref bu])) := by obtain ⟨_, _, h9⟩ := hC; exact h9.1
  refine lv_aload_n hx hb dL_open_0 rfl (lv_at hl9 0 rfl) ?_
  refine lv_iload_n hx hb dL_open_1 rfl (lv_at hl9 1 rfl) ?_
  refine hp_V (ci := 4) (As := [.int 0]) (rest := []) B0 hw hS (c_P_open_S0 hl G f xo ez eo bu nw0 na0 nq0 nr0 nw1 na1 nq1 nr1 bs bp bh bf bl bg S0 S1 gw0 ga0 gw1 ga1 n a cg x sa pk fl gv gh gl hC hL0 hL1 hst) mV_X4_open qM_L_25 rfl k_xo rfl rfl hl9.1 (Nat.le_of_ble_eq_true rfl) ⟨⟨Nat.le_of_ble_eq_true rfl, Nat.le_of_ble_eq_true rfl⟩, Nat.le_of_ble_eq_true rfl, Nat.le_of_ble_eq_true rfl⟩ dL_open_2 (fun E ce q9 f1 H locs hPX hw hS hce hcv hcl => ?_) (fun v f1 H locs hP hw hS => ?_)
  · obtain ⟨eE9, hC8, hk8⟩ := hPX
    subst eE9
    refine hp_catch (name := eS) B0 [_] _ _ (htab.trans rfl) (fun z hz => Or.inr (by rcases List.mem_singleton.mp hz with rfl; exact ⟨by decide, eI, qC_L_14, List.mem_of_getElem? (i := 4) rfl⟩)) rfl (by decide) qC_L_29 oC_eS hce hcv hcl ?_
    refine W.eq (g2 := F0 m 13 ls [.ref q9]) rfl ?_
    refine lv_astore_n (lv' := [(3, .ref q9), (0, .ref xo), (1, .int 0)]) hx hb dL_open_13 rfl hl9 (by decide) rfl (fun ls hl9 => ?_)
    refine lv_bipush (v := (-73)) hx hb dL_open_14 (by decide) ?_
    exact hp_iret (v := (-73)) B0 hw hS hr ⟨Nat.le_of_ble_eq_true rfl, Nat.le_of_ble_eq_true rfl⟩ dL_open_16 (⟨rfl, hC8, hk8⟩)
  · exact hP.elim

set_option maxHeartbeats 4000000 in
set_option maxRecDepth 100000 in
theorem c_V_close_0 {l : Launch} (hl : l.stackTraces = false) (G : hG) (f : hM) (xo ez eo bu nw0 na0 nq0 nr0 nw1 na1 nq1 nr1 bs bp bh bf bl bg : Nat) (S0 : ES) (S1 : ES) (gw0 : Nat → Int32) (ga0 : Nat → Int32) (gw1 : Nat → Int32) (ga1 : Nat → Int32) (n : Nat) (a : Nat) (cg : Nat) (x : Nat) (sa : Nat → Nat) (pk : Nat → Nat) (fl : Nat → Nat) (gv : Nat → Nat) (gh : Nat → Int32) (gl : Nat → Int32) (hC : CXW G f xo ez eo bu nw0 na0 nq0 nr0 nw1 na1 nq1 nr1 bs bp bh bf bl bg S0 S1 gw0 ga0 gw1 ga1 n a cg x sa pk fl gv gh gl) (hL0 : S0.2.2.2.2.2.2.2.2.length < 3000) (hL1 : S1.2.2.2.2.2.2.2.2.length < 3000) (hst : ¬ S0.1 = 0) : CT l yL_close (.codeWith yL_close cL_close 4 (some .int) [(0, 6, 9, 14), (0, 6, 13, 29)]) 8 125 3 17 G [.ref xo, .int 0] f (fun v f1 => v = some (.int S0.1) ∧ CXW G f1 xo ez eo bu nw0 na0 nq0 nr0 nw1 na1 nq1 nr1 bs bp bh bf bl bg (closeS S0) S1 gw0 ga0 gw1 ga1 n a cg x sa pk fl gv gh gl ∧ hKn [xo, ez, eo, bu, nw0, na0, nq0, nr0, nw1, na1, nq1, nr1, bs, bp, bh, bf, bl, bg] f f1) (fun E f1 => False) := by
  refine hp_startH hl (own := RL) (by decide) rfl (Nat.le_of_ble_eq_true rfl) ?_
  intro p e s m args below meth c B0 hr htab hw hS ls hl9
  have hx := B0.1
  have hb := B0.2.1
  have hl9 : lv_has ls 4 [(0, .ref xo), (1, .int 0)] := hl9
  have k_xo : f xo = some (.inr (4, [.ref ez, .ref eo, .ref bu])) := by obtain ⟨_, _, h9⟩ := hC; exact h9.1
  refine lv_aload_n hx hb dL_close_0 rfl (lv_at hl9 0 rfl) ?_
  refine lv_iload_n hx hb dL_close_1 rfl (lv_at hl9 1 rfl) ?_
  refine hp_V (ci := 4) (As := [.int 0]) (rest := []) B0 hw hS (c_P_close_0 hl G f xo ez eo bu nw0 na0 nq0 nr0 nw1 na1 nq1 nr1 bs bp bh bf bl bg S0 S1 gw0 ga0 gw1 ga1 n a cg x sa pk fl gv gh gl hC hL0 hL1 hst) mV_X4_close qM_L_31 rfl k_xo rfl rfl hl9.1 (Nat.le_of_ble_eq_true rfl) ⟨⟨Nat.le_of_ble_eq_true rfl, Nat.le_of_ble_eq_true rfl⟩, Nat.le_of_ble_eq_true rfl, Nat.le_of_ble_eq_true rfl⟩ dL_close_2 (fun E ce q9 f1 H locs hPX hw hS hce hcv hcl => ?_) (fun v f1 H locs hP hw hS => ?_)
  · exact hPX.elim
  · obtain ⟨ev9, hC8, hk8⟩ := hP
    subst ev9
    refine W.eq (g2 := F0 m 5 ls [.int S0.1]) rfl ?_
    refine lv_istore_n (lv' := [(2, .int S0.1), (0, .ref xo), (1, .int 0)]) hx hb dL_close_5 rfl hl9 (by decide) rfl (fun ls hl9 => ?_)
    refine lv_goto (tgt := 17) hx hb dL_close_6 (by decide) ?_
    refine lv_iload_n hx hb dL_close_17 rfl (lv_at hl9 0 rfl) ?_
    exact hp_iret (v := S0.1) B0 hw hS hr ⟨Nat.le_of_ble_eq_true rfl, Nat.le_of_ble_eq_true rfl⟩ dL_close_18 (⟨rfl, hC8, hk8⟩)

set_option maxHeartbeats 4000000 in
set_option maxRecDepth 100000 in
theorem c_V_close_S0 {l : Launch} (hl : l.stackTraces = false) (G : hG) (f : hM) (xo ez eo bu nw0 na0 nq0 nr0 nw1 na1 nq1 nr1 bs bp bh bf bl bg : Nat) (S0 : ES) (S1 : ES) (gw0 : Nat → Int32) (ga0 : Nat → Int32) (gw1 : Nat → Int32) (ga1 : Nat → Int32) (n : Nat) (a : Nat) (cg : Nat) (x : Nat) (sa : Nat → Nat) (pk : Nat → Nat) (fl : Nat → Nat) (gv : Nat → Nat) (gh : Nat → Int32) (gl : Nat → Int32) (hC : CXW G f xo ez eo bu nw0 na0 nq0 nr0 nw1 na1 nq1 nr1 bs bp bh bf bl bg S0 S1 gw0 ga0 gw1 ga1 n a cg x sa pk fl gv gh gl) (hL0 : S0.2.2.2.2.2.2.2.2.length < 3000) (hL1 : S1.2.2.2.2.2.2.2.2.length < 3000) (hst : S0.1 = 0) : CT l yL_close (.codeWith yL_close cL_close 4 (some .int) [(0, 6, 9, 14), (0, 6, 13, 29)]) 8 125 2 12 G [.ref xo, .int 0] f (fun v f1 => v = some (.int (-73)) ∧ CXW G f1 xo ez eo bu nw0 na0 nq0 nr0 nw1 na1 nq1 nr1 bs bp bh bf bl bg S0 S1 gw0 ga0 gw1 ga1 n a cg x sa pk fl gv gh gl ∧ hKn [xo, ez, eo, bu, nw0, na0, nq0, nr0, nw1, na1, nq1, nr1, bs, bp, bh, bf, bl, bg] f f1) (fun E f1 => False) := by
  refine hp_startH hl (own := RL) (by decide) rfl (Nat.le_of_ble_eq_true rfl) ?_
  intro p e s m args below meth c B0 hr htab hw hS ls hl9
  have hx := B0.1
  have hb := B0.2.1
  have hl9 : lv_has ls 4 [(0, .ref xo), (1, .int 0)] := hl9
  have k_xo : f xo = some (.inr (4, [.ref ez, .ref eo, .ref bu])) := by obtain ⟨_, _, h9⟩ := hC; exact h9.1
  refine lv_aload_n hx hb dL_close_0 rfl (lv_at hl9 0 rfl) ?_
  refine lv_iload_n hx hb dL_close_1 rfl (lv_at hl9 1 rfl) ?_
  refine hp_V (ci := 4) (As := [.int 0]) (rest := []) B0 hw hS (c_P_close_S0 hl G f xo ez eo bu nw0 na0 nq0 nr0 nw1 na1 nq1 nr1 bs bp bh bf bl bg S0 S1 gw0 ga0 gw1 ga1 n a cg x sa pk fl gv gh gl hC hL0 hL1 hst) mV_X4_close qM_L_31 rfl k_xo rfl rfl hl9.1 (Nat.le_of_ble_eq_true rfl) ⟨⟨Nat.le_of_ble_eq_true rfl, Nat.le_of_ble_eq_true rfl⟩, Nat.le_of_ble_eq_true rfl, Nat.le_of_ble_eq_true rfl⟩ dL_close_2 (fun E ce q9 f1 H locs hPX hw hS hce hcv hcl => ?_) (fun v f1 H locs hP hw hS => ?_)
  · obtain ⟨eE9, hC8, hk8⟩ := hPX
    subst eE9
    refine hp_catch (name := eS) B0 [_] _ _ (htab.trans rfl) (fun z hz => Or.inr (by rcases List.mem_singleton.mp hz with rfl; exact ⟨by decide, eI, qC_L_14, List.mem_of_getElem? (i := 4) rfl⟩)) rfl (by decide) qC_L_29 oC_eS hce hcv hcl ?_
    refine W.eq (g2 := F0 m 13 ls [.ref q9]) rfl ?_
    refine lv_astore_n (lv' := [(3, .ref q9), (0, .ref xo), (1, .int 0)]) hx hb dL_close_13 rfl hl9 (by decide) rfl (fun ls hl9 => ?_)
    refine lv_bipush (v := (-73)) hx hb dL_close_14 (by decide) ?_
    exact hp_iret (v := (-73)) B0 hw hS hr ⟨Nat.le_of_ble_eq_true rfl, Nat.le_of_ble_eq_true rfl⟩ dL_close_16 (⟨rfl, hC8, hk8⟩)
  · exact hP.elim

set_option maxHeartbeats 4000000 in
set_option maxRecDepth 100000 in
theorem c_V_open_1 {l : Launch} (hl : l.stackTraces = false) (G : hG) (f : hM) (xo ez eo bu nw0 na0 nq0 nr0 nw1 na1 nq1 nr1 bs bp bh bf bl bg : Nat) (S0 : ES) (S1 : ES) (gw0 : Nat → Int32) (ga0 : Nat → Int32) (gw1 : Nat → Int32) (ga1 : Nat → Int32) (n : Nat) (a : Nat) (cg : Nat) (x : Nat) (sa : Nat → Nat) (pk : Nat → Nat) (fl : Nat → Nat) (gv : Nat → Nat) (gh : Nat → Int32) (gl : Nat → Int32) (hC : CXW G f xo ez eo bu nw0 na0 nq0 nr0 nw1 na1 nq1 nr1 bs bp bh bf bl bg S0 S1 gw0 ga0 gw1 ga1 n a cg x sa pk fl gv gh gl) (hL0 : S0.2.2.2.2.2.2.2.2.length < 3000) (hL1 : S1.2.2.2.2.2.2.2.2.length < 3000) (hst : S1.1 = 0) : CT l yL_open (.codeWith yL_open cL_open 4 (some .int) [(0, 6, 9, 14), (0, 6, 13, 29)]) 8 125 3 17 G [.ref xo, .int 1] f (fun v f1 => v = some (.int (S1.2.1 + 1)) ∧ CXW G f1 xo ez eo bu nw0 na0 nq0 nr0 nw1 na1 nq1 nr1 bs bp bh bf bl bg S0 (openS gw1 S1) gw0 ga0 gw1 ga1 n a cg x sa pk fl gv gh gl ∧ hKn [xo, ez, eo, bu, nw0, na0, nq0, nr0, nw1, na1, nq1, nr1, bs, bp, bh, bf, bl, bg] f f1) (fun E f1 => False) := by
  refine hp_startH hl (own := RL) (by decide) rfl (Nat.le_of_ble_eq_true rfl) ?_
  intro p e s m args below meth c B0 hr htab hw hS ls hl9
  have hx := B0.1
  have hb := B0.2.1
  have hl9 : lv_has ls 4 [(0, .ref xo), (1, .int 1)] := hl9
  have k_xo : f xo = some (.inr (4, [.ref ez, .ref eo, .ref bu])) := by obtain ⟨_, _, h9⟩ := hC; exact h9.1
  refine lv_aload_n hx hb dL_open_0 rfl (lv_at hl9 0 rfl) ?_
  refine lv_iload_n hx hb dL_open_1 rfl (lv_at hl9 1 rfl) ?_
  refine hp_V (ci := 4) (As := [.int 1]) (rest := []) B0 hw hS (c_P_open_1 hl G f xo ez eo bu nw0 na0 nq0 nr0 nw1 na1 nq1 nr1 bs bp bh bf bl bg S0 S1 gw0 ga0 gw1 ga1 n a cg x sa pk fl gv gh gl hC hL0 hL1 hst) mV_X4_open qM_L_25 rfl k_xo rfl rfl hl9.1 (Nat.le_of_ble_eq_true rfl) ⟨⟨Nat.le_of_ble_eq_true rfl, Nat.le_of_ble_eq_true rfl⟩, Nat.le_of_ble_eq_true rfl, Nat.le_of_ble_eq_true rfl⟩ dL_open_2 (fun E ce q9 f1 H locs hPX hw hS hce hcv hcl => ?_) (fun v f1 H locs hP hw hS => ?_)
  · exact hPX.elim
  · obtain ⟨ev9, hC8, hk8⟩ := hP
    subst ev9
    refine W.eq (g2 := F0 m 5 ls [.int (S1.2.1 + 1)]) rfl ?_
    refine lv_istore_n (lv' := [(2, .int (S1.2.1 + 1)), (0, .ref xo), (1, .int 1)]) hx hb dL_open_5 rfl hl9 (by decide) rfl (fun ls hl9 => ?_)
    refine lv_goto (tgt := 17) hx hb dL_open_6 (by decide) ?_
    refine lv_iload_n hx hb dL_open_17 rfl (lv_at hl9 0 rfl) ?_
    exact hp_iret (v := (S1.2.1 + 1)) B0 hw hS hr ⟨Nat.le_of_ble_eq_true rfl, Nat.le_of_ble_eq_true rfl⟩ dL_open_18 (⟨rfl, hC8, hk8⟩)

set_option maxHeartbeats 4000000 in
set_option maxRecDepth 100000 in
theorem c_V_open_S1 {l : Launch} (hl : l.stackTraces = false) (G : hG) (f : hM) (xo ez eo bu nw0 na0 nq0 nr0 nw1 na1 nq1 nr1 bs bp bh bf bl bg : Nat) (S0 : ES) (S1 : ES) (gw0 : Nat → Int32) (ga0 : Nat → Int32) (gw1 : Nat → Int32) (ga1 : Nat → Int32) (n : Nat) (a : Nat) (cg : Nat) (x : Nat) (sa : Nat → Nat) (pk : Nat → Nat) (fl : Nat → Nat) (gv : Nat → Nat) (gh : Nat → Int32) (gl : Nat → Int32) (hC : CXW G f xo ez eo bu nw0 na0 nq0 nr0 nw1 na1 nq1 nr1 bs bp bh bf bl bg S0 S1 gw0 ga0 gw1 ga1 n a cg x sa pk fl gv gh gl) (hL0 : S0.2.2.2.2.2.2.2.2.length < 3000) (hL1 : S1.2.2.2.2.2.2.2.2.length < 3000) (hst : ¬ S1.1 = 0) : CT l yL_open (.codeWith yL_open cL_open 4 (some .int) [(0, 6, 9, 14), (0, 6, 13, 29)]) 8 125 2 12 G [.ref xo, .int 1] f (fun v f1 => v = some (.int (-73)) ∧ CXW G f1 xo ez eo bu nw0 na0 nq0 nr0 nw1 na1 nq1 nr1 bs bp bh bf bl bg S0 S1 gw0 ga0 gw1 ga1 n a cg x sa pk fl gv gh gl ∧ hKn [xo, ez, eo, bu, nw0, na0, nq0, nr0, nw1, na1, nq1, nr1, bs, bp, bh, bf, bl, bg] f f1) (fun E f1 => False) := by
  refine hp_startH hl (own := RL) (by decide) rfl (Nat.le_of_ble_eq_true rfl) ?_
  intro p e s m args below meth c B0 hr htab hw hS ls hl9
  have hx := B0.1
  have hb := B0.2.1
  have hl9 : lv_has ls 4 [(0, .ref xo), (1, .int 1)] := hl9
  have k_xo : f xo = some (.inr (4, [.ref ez, .ref eo, .ref bu])) := by obtain ⟨_, _, h9⟩ := hC; exact h9.1
  refine lv_aload_n hx hb dL_open_0 rfl (lv_at hl9 0 rfl) ?_
  refine lv_iload_n hx hb dL_open_1 rfl (lv_at hl9 1 rfl) ?_
  refine hp_V (ci := 4) (As := [.int 1]) (rest := []) B0 hw hS (c_P_open_S1 hl G f xo ez eo bu nw0 na0 nq0 nr0 nw1 na1 nq1 nr1 bs bp bh bf bl bg S0 S1 gw0 ga0 gw1 ga1 n a cg x sa pk fl gv gh gl hC hL0 hL1 hst) mV_X4_open qM_L_25 rfl k_xo rfl rfl hl9.1 (Nat.le_of_ble_eq_true rfl) ⟨⟨Nat.le_of_ble_eq_true rfl, Nat.le_of_ble_eq_true rfl⟩, Nat.le_of_ble_eq_true rfl, Nat.le_of_ble_eq_true rfl⟩ dL_open_2 (fun E ce q9 f1 H locs hPX hw hS hce hcv hcl => ?_) (fun v f1 H locs hP hw hS => ?_)
  · obtain ⟨eE9, hC8, hk8⟩ := hPX
    subst eE9
    refine hp_catch (name := eS) B0 [_] _ _ (htab.trans rfl) (fun z hz => Or.inr (by rcases List.mem_singleton.mp hz with rfl; exact ⟨by decide, eI, qC_L_14, List.mem_of_getElem? (i := 4) rfl⟩)) rfl (by decide) qC_L_29 oC_eS hce hcv hcl ?_
    refine W.eq (g2 := F0 m 13 ls [.ref q9]) rfl ?_
    refine lv_astore_n (lv' := [(3, .ref q9), (0, .ref xo), (1, .int 1)]) hx hb dL_open_13 rfl hl9 (by decide) rfl (fun ls hl9 => ?_)
    refine lv_bipush (v := (-73)) hx hb dL_open_14 (by decide) ?_
    exact hp_iret (v := (-73)) B0 hw hS hr ⟨Nat.le_of_ble_eq_true rfl, Nat.le_of_ble_eq_true rfl⟩ dL_open_16 (⟨rfl, hC8, hk8⟩)
  · exact hP.elim

set_option maxHeartbeats 4000000 in
set_option maxRecDepth 100000 in
theorem c_V_close_1 {l : Launch} (hl : l.stackTraces = false) (G : hG) (f : hM) (xo ez eo bu nw0 na0 nq0 nr0 nw1 na1 nq1 nr1 bs bp bh bf bl bg : Nat) (S0 : ES) (S1 : ES) (gw0 : Nat → Int32) (ga0 : Nat → Int32) (gw1 : Nat → Int32) (ga1 : Nat → Int32) (n : Nat) (a : Nat) (cg : Nat) (x : Nat) (sa : Nat → Nat) (pk : Nat → Nat) (fl : Nat → Nat) (gv : Nat → Nat) (gh : Nat → Int32) (gl : Nat → Int32) (hC : CXW G f xo ez eo bu nw0 na0 nq0 nr0 nw1 na1 nq1 nr1 bs bp bh bf bl bg S0 S1 gw0 ga0 gw1 ga1 n a cg x sa pk fl gv gh gl) (hL0 : S0.2.2.2.2.2.2.2.2.length < 3000) (hL1 : S1.2.2.2.2.2.2.2.2.length < 3000) (hst : ¬ S1.1 = 0) : CT l yL_close (.codeWith yL_close cL_close 4 (some .int) [(0, 6, 9, 14), (0, 6, 13, 29)]) 8 125 3 17 G [.ref xo, .int 1] f (fun v f1 => v = some (.int S1.1) ∧ CXW G f1 xo ez eo bu nw0 na0 nq0 nr0 nw1 na1 nq1 nr1 bs bp bh bf bl bg S0 (closeS S1) gw0 ga0 gw1 ga1 n a cg x sa pk fl gv gh gl ∧ hKn [xo, ez, eo, bu, nw0, na0, nq0, nr0, nw1, na1, nq1, nr1, bs, bp, bh, bf, bl, bg] f f1) (fun E f1 => False) := by
  refine hp_startH hl (own := RL) (by decide) rfl (Nat.le_of_ble_eq_true rfl) ?_
  intro p e s m args below meth c B0 hr htab hw hS ls hl9
  have hx := B0.1
  have hb := B0.2.1
  have hl9 : lv_has ls 4 [(0, .ref xo), (1, .int 1)] := hl9
  have k_xo : f xo = some (.inr (4, [.ref ez, .ref eo, .ref bu])) := by obtain ⟨_, _, h9⟩ := hC; exact h9.1
  refine lv_aload_n hx hb dL_close_0 rfl (lv_at hl9 0 rfl) ?_
  refine lv_iload_n hx hb dL_close_1 rfl (lv_at hl9 1 rfl) ?_
  refine hp_V (ci := 4) (As := [.int 1]) (rest := []) B0 hw hS (c_P_close_1 hl G f xo ez eo bu nw0 na0 nq0 nr0 nw1 na1 nq1 nr1 bs bp bh bf bl bg S0 S1 gw0 ga0 gw1 ga1 n a cg x sa pk fl gv gh gl hC hL0 hL1 hst) mV_X4_close qM_L_31 rfl k_xo rfl rfl hl9.1 (Nat.le_of_ble_eq_true rfl) ⟨⟨Nat.le_of_ble_eq_true rfl, Nat.le_of_ble_eq_true rfl⟩, Nat.le_of_ble_eq_true rfl, Nat.le_of_ble_eq_true rfl⟩ dL_close_2 (fun E ce q9 f1 H locs hPX hw hS hce hcv hcl => ?_) (fun v f1 H locs hP hw hS => ?_)
  · exact hPX.elim
  · obtain ⟨ev9, hC8, hk8⟩ := hP
    subst ev9
    refine W.eq (g2 := F0 m 5 ls [.int S1.1]) rfl ?_
    refine lv_istore_n (lv' := [(2, .int S1.1), (0, .ref xo), (1, .int 1)]) hx hb dL_close_5 rfl hl9 (by decide) rfl (fun ls hl9 => ?_)
    refine lv_goto (tgt := 17) hx hb dL_close_6 (by decide) ?_
    refine lv_iload_n hx hb dL_close_17 rfl (lv_at hl9 0 rfl) ?_
    exact hp_iret (v := S1.1) B0 hw hS hr ⟨Nat.le_of_ble_eq_true rfl, Nat.le_of_ble_eq_true rfl⟩ dL_close_18 (⟨rfl, hC8, hk8⟩)

set_option maxHeartbeats 4000000 in
set_option maxRecDepth 100000 in
theorem c_V_close_S1 {l : Launch} (hl : l.stackTraces = false) (G : hG) (f : hM) (xo ez eo bu nw0 na0 nq0 nr0 nw1 na1 nq1 nr1 bs bp bh bf bl bg : Nat) (S0 : ES) (S1 : ES) (gw0 : Nat → Int32) (ga0 : Nat → Int32) (gw1 : Nat → Int32) (ga1 : Nat → Int32) (n : Nat) (a : Nat) (cg : Nat) (x : Nat) (sa : Nat → Nat) (pk : Nat → Nat) (fl : Nat → Nat) (gv : Nat → Nat) (gh : Nat → Int32) (gl : Nat → Int32) (hC : CXW G f xo ez eo bu nw0 na0 nq0 nr0 nw1 na1 nq1 nr1 bs bp bh bf bl bg S0 S1 gw0 ga0 gw1 ga1 n a cg x sa pk fl gv gh gl) (hL0 : S0.2.2.2.2.2.2.2.2.length < 3000) (hL1 : S1.2.2.2.2.2.2.2.2.length < 3000) (hst : S1.1 = 0) : CT l yL_close (.codeWith yL_close cL_close 4 (some .int) [(0, 6, 9, 14), (0, 6, 13, 29)]) 8 125 2 12 G [.ref xo, .int 1] f (fun v f1 => v = some (.int (-73)) ∧ CXW G f1 xo ez eo bu nw0 na0 nq0 nr0 nw1 na1 nq1 nr1 bs bp bh bf bl bg S0 S1 gw0 ga0 gw1 ga1 n a cg x sa pk fl gv gh gl ∧ hKn [xo, ez, eo, bu, nw0, na0, nq0, nr0, nw1, na1, nq1, nr1, bs, bp, bh, bf, bl, bg] f f1) (fun E f1 => False) := by
  refine hp_startH hl (own := RL) (by decide) rfl (Nat.le_of_ble_eq_true rfl) ?_
  intro p e s m args below meth c B0 hr htab hw hS ls hl9
  have hx := B0.1
  have hb := B0.2.1
  have hl9 : lv_has ls 4 [(0, .ref xo), (1, .int 1)] := hl9
  have k_xo : f xo = some (.inr (4, [.ref ez, .ref eo, .ref bu])) := by obtain ⟨_, _, h9⟩ := hC; exact h9.1
  refine lv_aload_n hx hb dL_close_0 rfl (lv_at hl9 0 rfl) ?_
  refine lv_iload_n hx hb dL_close_1 rfl (lv_at hl9 1 rfl) ?_
  refine hp_V (ci := 4) (As := [.int 1]) (rest := []) B0 hw hS (c_P_close_S1 hl G f xo ez eo bu nw0 na0 nq0 nr0 nw1 na1 nq1 nr1 bs bp bh bf bl bg S0 S1 gw0 ga0 gw1 ga1 n a cg x sa pk fl gv gh gl hC hL0 hL1 hst) mV_X4_close qM_L_31 rfl k_xo rfl rfl hl9.1 (Nat.le_of_ble_eq_true rfl) ⟨⟨Nat.le_of_ble_eq_true rfl, Nat.le_of_ble_eq_true rfl⟩, Nat.le_of_ble_eq_true rfl, Nat.le_of_ble_eq_true rfl⟩ dL_close_2 (fun E ce q9 f1 H locs hPX hw hS hce hcv hcl => ?_) (fun v f1 H locs hP hw hS => ?_)
  · obtain ⟨eE9, hC8, hk8⟩ := hPX
    subst eE9
    refine hp_catch (name := eS) B0 [_] _ _ (htab.trans rfl) (fun z hz => Or.inr (by rcases List.mem_singleton.mp hz with rfl; exact ⟨by decide, eI, qC_L_14, List.mem_of_getElem? (i := 4) rfl⟩)) rfl (by decide) qC_L_29 oC_eS hce hcv hcl ?_
    refine W.eq (g2 := F0 m 13 ls [.ref q9]) rfl ?_
    refine lv_astore_n (lv' := [(3, .ref q9), (0, .ref xo), (1, .int 1)]) hx hb dL_close_13 rfl hl9 (by decide) rfl (fun ls hl9 => ?_)
    refine lv_bipush (v := (-73)) hx hb dL_close_14 (by decide) ?_
    exact hp_iret (v := (-73)) B0 hw hS hr ⟨Nat.le_of_ble_eq_true rfl, Nat.le_of_ble_eq_true rfl⟩ dL_close_16 (⟨rfl, hC8, hk8⟩)
  · exact hP.elim

set_option maxHeartbeats 4000000 in
set_option maxRecDepth 100000 in
theorem c_V_open_E {l : Launch} (hl : l.stackTraces = false) (G : hG) (f : hM) (xo ez eo bu nw0 na0 nq0 nr0 nw1 na1 nq1 nr1 bs bp bh bf bl bg : Nat) (S0 : ES) (S1 : ES) (gw0 : Nat → Int32) (ga0 : Nat → Int32) (gw1 : Nat → Int32) (ga1 : Nat → Int32) (n : Nat) (a : Nat) (cg : Nat) (x : Nat) (sa : Nat → Nat) (pk : Nat → Nat) (fl : Nat → Nat) (gv : Nat → Nat) (gh : Nat → Int32) (gl : Nat → Int32) (hC : CXW G f xo ez eo bu nw0 na0 nq0 nr0 nw1 na1 nq1 nr1 bs bp bh bf bl bg S0 S1 gw0 ga0 gw1 ga1 n a cg x sa pk fl gv gh gl) (hL0 : S0.2.2.2.2.2.2.2.2.length < 3000) (hL1 : S1.2.2.2.2.2.2.2.2.length < 3000) (i : Int32) (hi : ¬ sE i) : CT l yL_open (.codeWith yL_open cL_open 4 (some .int) [(0, 6, 9, 14), (0, 6, 13, 29)]) 8 125 1 6 G [.ref xo, .int i] f (fun v f1 => v = some (.int (-71)) ∧ CXW G f1 xo ez eo bu nw0 na0 nq0 nr0 nw1 na1 nq1 nr1 bs bp bh bf bl bg S0 S1 gw0 ga0 gw1 ga1 n a cg x sa pk fl gv gh gl ∧ hKn [xo, ez, eo, bu, nw0, na0, nq0, nr0, nw1, na1, nq1, nr1, bs, bp, bh, bf, bl, bg] f f1) (fun E f1 => False) := by
  refine hp_startH hl (own := RL) (by decide) rfl (Nat.le_of_ble_eq_true rfl) ?_
  intro p e s m args below meth c B0 hr htab hw hS ls hl9
  have hx := B0.1
  have hb := B0.2.1
  have hl9 : lv_has ls 4 [(0, .ref xo), (1, .int i)] := hl9
  have k_xo : f xo = some (.inr (4, [.ref ez, .ref eo, .ref bu])) := by obtain ⟨_, _, h9⟩ := hC; exact h9.1
  refine lv_aload_n hx hb dL_open_0 rfl (lv_at hl9 0 rfl) ?_
  refine lv_iload_n hx hb dL_open_1 rfl (lv_at hl9 1 rfl) ?_
  refine hp_V (ci := 4) (As := [.int i]) (rest := []) B0 hw hS (c_P_open_E hl G f xo ez eo bu nw0 na0 nq0 nr0 nw1 na1 nq1 nr1 bs bp bh bf bl bg S0 S1 gw0 ga0 gw1 ga1 n a cg x sa pk fl gv gh gl hC hL0 hL1 i hi) mV_X4_open qM_L_25 rfl k_xo rfl rfl hl9.1 (Nat.le_of_ble_eq_true rfl) ⟨⟨Nat.le_of_ble_eq_true rfl, Nat.le_of_ble_eq_true rfl⟩, Nat.le_of_ble_eq_true rfl, Nat.le_of_ble_eq_true rfl⟩ dL_open_2 (fun E ce q9 f1 H locs hPX hw hS hce hcv hcl => ?_) (fun v f1 H locs hP hw hS => ?_)
  · obtain ⟨eE9, hC8, hk8⟩ := hPX
    subst eE9
    refine hp_catch (name := eI) B0 [] _ _ (htab.trans rfl) (fun z hz => nomatch hz) rfl (by decide) qC_L_14 oC_eI hce hcv hcl ?_
    refine W.eq (g2 := F0 m 9 ls [.ref q9]) rfl ?_
    refine lv_astore_n (lv' := [(3, .ref q9), (0, .ref xo), (1, .int i)]) hx hb dL_open_9 rfl hl9 (by decide) rfl (fun ls hl9 => ?_)
    refine lv_bipush (v := (-71)) hx hb dL_open_10 (by decide) ?_
    exact hp_iret (v := (-71)) B0 hw hS hr ⟨Nat.le_of_ble_eq_true rfl, Nat.le_of_ble_eq_true rfl⟩ dL_open_12 (⟨rfl, hC8, hk8⟩)
  · exact hP.elim

set_option maxHeartbeats 4000000 in
set_option maxRecDepth 100000 in
theorem c_V_close_E {l : Launch} (hl : l.stackTraces = false) (G : hG) (f : hM) (xo ez eo bu nw0 na0 nq0 nr0 nw1 na1 nq1 nr1 bs bp bh bf bl bg : Nat) (S0 : ES) (S1 : ES) (gw0 : Nat → Int32) (ga0 : Nat → Int32) (gw1 : Nat → Int32) (ga1 : Nat → Int32) (n : Nat) (a : Nat) (cg : Nat) (x : Nat) (sa : Nat → Nat) (pk : Nat → Nat) (fl : Nat → Nat) (gv : Nat → Nat) (gh : Nat → Int32) (gl : Nat → Int32) (hC : CXW G f xo ez eo bu nw0 na0 nq0 nr0 nw1 na1 nq1 nr1 bs bp bh bf bl bg S0 S1 gw0 ga0 gw1 ga1 n a cg x sa pk fl gv gh gl) (hL0 : S0.2.2.2.2.2.2.2.2.length < 3000) (hL1 : S1.2.2.2.2.2.2.2.2.length < 3000) (i : Int32) (hi : ¬ sE i) : CT l yL_close (.codeWith yL_close cL_close 4 (some .int) [(0, 6, 9, 14), (0, 6, 13, 29)]) 8 125 1 6 G [.ref xo, .int i] f (fun v f1 => v = some (.int (-71)) ∧ CXW G f1 xo ez eo bu nw0 na0 nq0 nr0 nw1 na1 nq1 nr1 bs bp bh bf bl bg S0 S1 gw0 ga0 gw1 ga1 n a cg x sa pk fl gv gh gl ∧ hKn [xo, ez, eo, bu, nw0, na0, nq0, nr0, nw1, na1, nq1, nr1, bs, bp, bh, bf, bl, bg] f f1) (fun E f1 => False) := by
  refine hp_startH hl (own := RL) (by decide) rfl (Nat.le_of_ble_eq_true rfl) ?_
  intro p e s m args below meth c B0 hr htab hw hS ls hl9
  have hx := B0.1
  have hb := B0.2.1
  have hl9 : lv_has ls 4 [(0, .ref xo), (1, .int i)] := hl9
  have k_xo : f xo = some (.inr (4, [.ref ez, .ref eo, .ref bu])) := by obtain ⟨_, _, h9⟩ := hC; exact h9.1
  refine lv_aload_n hx hb dL_close_0 rfl (lv_at hl9 0 rfl) ?_
  refine lv_iload_n hx hb dL_close_1 rfl (lv_at hl9 1 rfl) ?_
  refine hp_V (ci := 4) (As := [.int i]) (rest := []) B0 hw hS (c_P_close_E hl G f xo ez eo bu nw0 na0 nq0 nr0 nw1 na1 nq1 nr1 bs bp bh bf bl bg S0 S1 gw0 ga0 gw1 ga1 n a cg x sa pk fl gv gh gl hC hL0 hL1 i hi) mV_X4_close qM_L_31 rfl k_xo rfl rfl hl9.1 (Nat.le_of_ble_eq_true rfl) ⟨⟨Nat.le_of_ble_eq_true rfl, Nat.le_of_ble_eq_true rfl⟩, Nat.le_of_ble_eq_true rfl, Nat.le_of_ble_eq_true rfl⟩ dL_close_2 (fun E ce q9 f1 H locs hPX hw hS hce hcv hcl => ?_) (fun v f1 H locs hP hw hS => ?_)
  · obtain ⟨eE9, hC8, hk8⟩ := hPX
    subst eE9
    refine hp_catch (name := eI) B0 [] _ _ (htab.trans rfl) (fun z hz => nomatch hz) rfl (by decide) qC_L_14 oC_eI hce hcv hcl ?_
    refine W.eq (g2 := F0 m 9 ls [.ref q9]) rfl ?_
    refine lv_astore_n (lv' := [(3, .ref q9), (0, .ref xo), (1, .int i)]) hx hb dL_close_9 rfl hl9 (by decide) rfl (fun ls hl9 => ?_)
    refine lv_bipush (v := (-71)) hx hb dL_close_10 (by decide) ?_
    exact hp_iret (v := (-71)) B0 hw hS hr ⟨Nat.le_of_ble_eq_true rfl, Nat.le_of_ble_eq_true rfl⟩ dL_close_12 (⟨rfl, hC8, hk8⟩)
  · exact hP.elim

set_option maxHeartbeats 4000000 in
set_option maxRecDepth 100000 in
theorem c_V_deliver_0 {l : Launch} (hl : l.stackTraces = false) (G : hG) (f : hM) (xo ez eo bu nw0 na0 nq0 nr0 nw1 na1 nq1 nr1 bs bp bh bf bl bg : Nat) (S0 : ES) (S1 : ES) (gw0 : Nat → Int32) (ga0 : Nat → Int32) (gw1 : Nat → Int32) (ga1 : Nat → Int32) (n : Nat) (a : Nat) (cg : Nat) (x : Nat) (sa : Nat → Nat) (pk : Nat → Nat) (fl : Nat → Nat) (gv : Nat → Nat) (gh : Nat → Int32) (gl : Nat → Int32) (hC : CXW G f xo ez eo bu nw0 na0 nq0 nr0 nw1 na1 nq1 nr1 bs bp bh bf bl bg S0 S1 gw0 ga0 gw1 ga1 n a cg x sa pk fl gv gh gl) (hL0 : S0.2.2.2.2.2.2.2.2.length < 3000) (hL1 : S1.2.2.2.2.2.2.2.2.length < 3000) (hL : ¬ S0.2.2.2.2.2.2.2.2 = []) : CT l yL_deliver (.codeWith yL_deliver cL_deliver 4 (some .int) [(0, 6, 9, 14), (0, 6, 13, 29)]) 8 154 7 40 G [.ref xo, .int 0] f (fun v f1 => ∃ (r : Fr) (L9 : List Fr), S0.2.2.2.2.2.2.2.2 = r :: L9 ∧ v = some (.int r.1) ∧ CXW G f1 xo ez eo bu nw0 na0 nq0 nr0 nw1 na1 nq1 nr1 bs bp bh bf bl bg (takeS S0) (hearF ga1 r S1) gw0 ga0 gw1 ga1 n a cg x sa pk fl gv gh gl ∧ hKn [xo, ez, eo, bu, nw0, na0, nq0, nr0, nw1, na1, nq1, nr1, bs, bp, bh, bf, bl, bg] f f1) (fun E f1 => False) := by
  refine hp_startH hl (own := RL) (by decide) rfl (Nat.le_of_ble_eq_true rfl) ?_
  intro p e s m args below meth c B0 hr htab hw hS ls hl9
  have hx := B0.1
  have hb := B0.2.1
  have hl9 : lv_has ls 4 [(0, .ref xo), (1, .int 0)] := hl9
  have k_xo : f xo = some (.inr (4, [.ref ez, .ref eo, .ref bu])) := by obtain ⟨_, _, h9⟩ := hC; exact h9.1
  refine lv_aload_n hx hb dL_deliver_0 rfl (lv_at hl9 0 rfl) ?_
  refine lv_iload_n hx hb dL_deliver_1 rfl (lv_at hl9 1 rfl) ?_
  refine hp_V (ci := 4) (As := [.int 0]) (rest := []) B0 hw hS (c_P_deliver_0 hl G f xo ez eo bu nw0 na0 nq0 nr0 nw1 na1 nq1 nr1 bs bp bh bf bl bg S0 S1 gw0 ga0 gw1 ga1 n a cg x sa pk fl gv gh gl hC hL0 hL1 hL) mV_X4_deliver qM_L_34 rfl k_xo rfl rfl hl9.1 (Nat.le_of_ble_eq_true rfl) ⟨⟨Nat.le_of_ble_eq_true rfl, Nat.le_of_ble_eq_true rfl⟩, Nat.le_of_ble_eq_true rfl, Nat.le_of_ble_eq_true rfl⟩ dL_deliver_2 (fun E ce q9 f1 H locs hPX hw hS hce hcv hcl => ?_) (fun v f1 H locs hP hw hS => ?_)
  · exact hPX.elim
  · obtain ⟨r9, L9, eL9, ev9, hC8, hk8⟩ := hP
    subst ev9
    refine W.eq (g2 := F0 m 5 ls [.int r9.1]) rfl ?_
    refine lv_istore_n (lv' := [(2, .int r9.1), (0, .ref xo), (1, .int 0)]) hx hb dL_deliver_5 rfl hl9 (by decide) rfl (fun ls hl9 => ?_)
    refine lv_goto (tgt := 17) hx hb dL_deliver_6 (by decide) ?_
    refine lv_iload_n hx hb dL_deliver_17 rfl (lv_at hl9 0 rfl) ?_
    exact hp_iret (v := r9.1) B0 hw hS hr ⟨Nat.le_of_ble_eq_true rfl, Nat.le_of_ble_eq_true rfl⟩ dL_deliver_18 (⟨r9, L9, eL9, rfl, hC8, hk8⟩)

set_option maxHeartbeats 4000000 in
set_option maxRecDepth 100000 in
theorem c_V_lose_0 {l : Launch} (hl : l.stackTraces = false) (G : hG) (f : hM) (xo ez eo bu nw0 na0 nq0 nr0 nw1 na1 nq1 nr1 bs bp bh bf bl bg : Nat) (S0 : ES) (S1 : ES) (gw0 : Nat → Int32) (ga0 : Nat → Int32) (gw1 : Nat → Int32) (ga1 : Nat → Int32) (n : Nat) (a : Nat) (cg : Nat) (x : Nat) (sa : Nat → Nat) (pk : Nat → Nat) (fl : Nat → Nat) (gv : Nat → Nat) (gh : Nat → Int32) (gl : Nat → Int32) (hC : CXW G f xo ez eo bu nw0 na0 nq0 nr0 nw1 na1 nq1 nr1 bs bp bh bf bl bg S0 S1 gw0 ga0 gw1 ga1 n a cg x sa pk fl gv gh gl) (hL0 : S0.2.2.2.2.2.2.2.2.length < 3000) (hL1 : S1.2.2.2.2.2.2.2.2.length < 3000) (hL : ¬ S0.2.2.2.2.2.2.2.2 = []) : CT l yL_lose (.codeWith yL_lose cL_lose 4 (some .int) [(0, 6, 9, 14), (0, 6, 13, 29)]) 8 126 2 12 G [.ref xo, .int 0] f (fun v f1 => ∃ (r : Fr) (L9 : List Fr), S0.2.2.2.2.2.2.2.2 = r :: L9 ∧ v = some (.int r.1) ∧ CXW G f1 xo ez eo bu nw0 na0 nq0 nr0 nw1 na1 nq1 nr1 bs bp bh bf bl bg (missS (takeS S0)) S1 gw0 ga0 gw1 ga1 n a cg x sa pk fl gv gh gl ∧ hKn [xo, ez, eo, bu, nw0, na0, nq0, nr0, nw1, na1, nq1, nr1, bs, bp, bh, bf, bl, bg] f f1) (fun E f1 => False) := by
  refine hp_startH hl (own := RL) (by decide) rfl (Nat.le_of_ble_eq_true rfl) ?_
  intro p e s m args below meth c B0 hr htab hw hS ls hl9
  have hx := B0.1
  have hb := B0.2.1
  have hl9 : lv_has ls 4 [(0, .ref xo), (1, .int 0)] := hl9
  have k_xo : f xo = some (.inr (4, [.ref ez, .ref eo, .ref bu])) := by obtain ⟨_, _, h9⟩ := hC; exact h9.1
  refine lv_aload_n hx hb dL_lose_0 rfl (lv_at hl9 0 rfl) ?_
  refine lv_iload_n hx hb dL_lose_1 rfl (lv_at hl9 1 rfl) ?_
  refine hp_V (ci := 4) (As := [.int 0]) (rest := []) B0 hw hS (c_P_lose_0 hl G f xo ez eo bu nw0 na0 nq0 nr0 nw1 na1 nq1 nr1 bs bp bh bf bl bg S0 S1 gw0 ga0 gw1 ga1 n a cg x sa pk fl gv gh gl hC hL0 hL1 hL) mV_X4_lose qM_L_37 rfl k_xo rfl rfl hl9.1 (Nat.le_of_ble_eq_true rfl) ⟨⟨Nat.le_of_ble_eq_true rfl, Nat.le_of_ble_eq_true rfl⟩, Nat.le_of_ble_eq_true rfl, Nat.le_of_ble_eq_true rfl⟩ dL_lose_2 (fun E ce q9 f1 H locs hPX hw hS hce hcv hcl => ?_) (fun v f1 H locs hP hw hS => ?_)
  · exact hPX.elim
  · obtain ⟨r9, L9, eL9, ev9, hC8, hk8⟩ := hP
    subst ev9
    refine W.eq (g2 := F0 m 5 ls [.int r9.1]) rfl ?_
    refine lv_istore_n (lv' := [(2, .int r9.1), (0, .ref xo), (1, .int 0)]) hx hb dL_lose_5 rfl hl9 (by decide) rfl (fun ls hl9 => ?_)
    refine lv_goto (tgt := 17) hx hb dL_lose_6 (by decide) ?_
    refine lv_iload_n hx hb dL_lose_17 rfl (lv_at hl9 0 rfl) ?_
    exact hp_iret (v := r9.1) B0 hw hS hr ⟨Nat.le_of_ble_eq_true rfl, Nat.le_of_ble_eq_true rfl⟩ dL_lose_18 (⟨r9, L9, eL9, rfl, hC8, hk8⟩)

set_option maxHeartbeats 4000000 in
set_option maxRecDepth 100000 in
theorem c_V_loop_0 {l : Launch} (hl : l.stackTraces = false) (G : hG) (f : hM) (xo ez eo bu nw0 na0 nq0 nr0 nw1 na1 nq1 nr1 bs bp bh bf bl bg : Nat) (S0 : ES) (S1 : ES) (gw0 : Nat → Int32) (ga0 : Nat → Int32) (gw1 : Nat → Int32) (ga1 : Nat → Int32) (n : Nat) (a : Nat) (cg : Nat) (x : Nat) (sa : Nat → Nat) (pk : Nat → Nat) (fl : Nat → Nat) (gv : Nat → Nat) (gh : Nat → Int32) (gl : Nat → Int32) (hC : CXW G f xo ez eo bu nw0 na0 nq0 nr0 nw1 na1 nq1 nr1 bs bp bh bf bl bg S0 S1 gw0 ga0 gw1 ga1 n a cg x sa pk fl gv gh gl) (hL0 : S0.2.2.2.2.2.2.2.2.length < 3000) (hL1 : S1.2.2.2.2.2.2.2.2.length < 3000) (hL : ¬ S0.2.2.2.2.2.2.2.2 = []) : CT l yL_loop (.codeWith yL_loop cL_loop 4 (some .int) [(0, 6, 9, 14), (0, 6, 13, 29)]) 8 155 6 34 G [.ref xo, .int 0] f (fun v f1 => ∃ (r : Fr) (L9 : List Fr), S0.2.2.2.2.2.2.2.2 = r :: L9 ∧ v = some (.int r.1) ∧ CXW G f1 xo ez eo bu nw0 na0 nq0 nr0 nw1 na1 nq1 nr1 bs bp bh bf bl bg (hearF ga0 r (missS (takeS S0))) S1 gw0 ga0 gw1 ga1 n a cg x sa pk fl gv gh gl ∧ hKn [xo, ez, eo, bu, nw0, na0, nq0, nr0, nw1, na1, nq1, nr1, bs, bp, bh, bf, bl, bg] f f1) (fun E f1 => False) := by
  refine hp_startH hl (own := RL) (by decide) rfl (Nat.le_of_ble_eq_true rfl) ?_
  intro p e s m args below meth c B0 hr htab hw hS ls hl9
  have hx := B0.1
  have hb := B0.2.1
  have hl9 : lv_has ls 4 [(0, .ref xo), (1, .int 0)] := hl9
  have k_xo : f xo = some (.inr (4, [.ref ez, .ref eo, .ref bu])) := by obtain ⟨_, _, h9⟩ := hC; exact h9.1
  refine lv_aload_n hx hb dL_loop_0 rfl (lv_at hl9 0 rfl) ?_
  refine lv_iload_n hx hb dL_loop_1 rfl (lv_at hl9 1 rfl) ?_
  refine hp_V (ci := 4) (As := [.int 0]) (rest := []) B0 hw hS (c_P_loop_0 hl G f xo ez eo bu nw0 na0 nq0 nr0 nw1 na1 nq1 nr1 bs bp bh bf bl bg S0 S1 gw0 ga0 gw1 ga1 n a cg x sa pk fl gv gh gl hC hL0 hL1 hL) mV_X4_loop qM_L_40 rfl k_xo rfl rfl hl9.1 (Nat.le_of_ble_eq_true rfl) ⟨⟨Nat.le_of_ble_eq_true rfl, Nat.le_of_ble_eq_true rfl⟩, Nat.le_of_ble_eq_true rfl, Nat.le_of_ble_eq_true rfl⟩ dL_loop_2 (fun E ce q9 f1 H locs hPX hw hS hce hcv hcl => ?_) (fun v f1 H locs hP hw hS => ?_)
  · exact hPX.elim
  · obtain ⟨r9, L9, eL9, ev9, hC8, hk8⟩ := hP
    subst ev9
    refine W.eq (g2 := F0 m 5 ls [.int r9.1]) rfl ?_
    refine lv_istore_n (lv' := [(2, .int r9.1), (0, .ref xo), (1, .int 0)]) hx hb dL_loop_5 rfl hl9 (by decide) rfl (fun ls hl9 => ?_)
    refine lv_goto (tgt := 17) hx hb dL_loop_6 (by decide) ?_
    refine lv_iload_n hx hb dL_loop_17 rfl (lv_at hl9 0 rfl) ?_
    exact hp_iret (v := r9.1) B0 hw hS hr ⟨Nat.le_of_ble_eq_true rfl, Nat.le_of_ble_eq_true rfl⟩ dL_loop_18 (⟨r9, L9, eL9, rfl, hC8, hk8⟩)

set_option maxHeartbeats 4000000 in
set_option maxRecDepth 100000 in
theorem c_V_deliver_S0 {l : Launch} (hl : l.stackTraces = false) (G : hG) (f : hM) (xo ez eo bu nw0 na0 nq0 nr0 nw1 na1 nq1 nr1 bs bp bh bf bl bg : Nat) (S0 : ES) (S1 : ES) (gw0 : Nat → Int32) (ga0 : Nat → Int32) (gw1 : Nat → Int32) (ga1 : Nat → Int32) (n : Nat) (a : Nat) (cg : Nat) (x : Nat) (sa : Nat → Nat) (pk : Nat → Nat) (fl : Nat → Nat) (gv : Nat → Nat) (gh : Nat → Int32) (gl : Nat → Int32) (hC : CXW G f xo ez eo bu nw0 na0 nq0 nr0 nw1 na1 nq1 nr1 bs bp bh bf bl bg S0 S1 gw0 ga0 gw1 ga1 n a cg x sa pk fl gv gh gl) (hL0 : S0.2.2.2.2.2.2.2.2.length < 3000) (hL1 : S1.2.2.2.2.2.2.2.2.length < 3000) (hL : S0.2.2.2.2.2.2.2.2 = []) : CT l yL_deliver (.codeWith yL_deliver cL_deliver 4 (some .int) [(0, 6, 9, 14), (0, 6, 13, 29)]) 8 125 2 12 G [.ref xo, .int 0] f (fun v f1 => v = some (.int (-73)) ∧ CXW G f1 xo ez eo bu nw0 na0 nq0 nr0 nw1 na1 nq1 nr1 bs bp bh bf bl bg S0 S1 gw0 ga0 gw1 ga1 n a cg x sa pk fl gv gh gl ∧ hKn [xo, ez, eo, bu, nw0, na0, nq0, nr0, nw1, na1, nq1, nr1, bs, bp, bh, bf, bl, bg] f f1) (fun E f1 => False) := by
  refine hp_startH hl (own := RL) (by decide) rfl (Nat.le_of_ble_eq_true rfl) ?_
  intro p e s m args below meth c B0 hr htab hw hS ls hl9
  have hx := B0.1
  have hb := B0.2.1
  have hl9 : lv_has ls 4 [(0, .ref xo), (1, .int 0)] := hl9
  have k_xo : f xo = some (.inr (4, [.ref ez, .ref eo, .ref bu])) := by obtain ⟨_, _, h9⟩ := hC; exact h9.1
  refine lv_aload_n hx hb dL_deliver_0 rfl (lv_at hl9 0 rfl) ?_
  refine lv_iload_n hx hb dL_deliver_1 rfl (lv_at hl9 1 rfl) ?_
  refine hp_V (ci := 4) (As := [.int 0]) (rest := []) B0 hw hS (c_P_deliver_S0 hl G f xo ez eo bu nw0 na0 nq0 nr0 nw1 na1 nq1 nr1 bs bp bh bf bl bg S0 S1 gw0 ga0 gw1 ga1 n a cg x sa pk fl gv gh gl hC hL0 hL1 hL) mV_X4_deliver qM_L_34 rfl k_xo rfl rfl hl9.1 (Nat.le_of_ble_eq_true rfl) ⟨⟨Nat.le_of_ble_eq_true rfl, Nat.le_of_ble_eq_true rfl⟩, Nat.le_of_ble_eq_true rfl, Nat.le_of_ble_eq_true rfl⟩ dL_deliver_2 (fun E ce q9 f1 H locs hPX hw hS hce hcv hcl => ?_) (fun v f1 H locs hP hw hS => ?_)
  · obtain ⟨eE9, hC8, hk8⟩ := hPX
    subst eE9
    refine hp_catch (name := eS) B0 [_] _ _ (htab.trans rfl) (fun z hz => Or.inr (by rcases List.mem_singleton.mp hz with rfl; exact ⟨by decide, eI, qC_L_14, List.mem_of_getElem? (i := 4) rfl⟩)) rfl (by decide) qC_L_29 oC_eS hce hcv hcl ?_
    refine W.eq (g2 := F0 m 13 ls [.ref q9]) rfl ?_
    refine lv_astore_n (lv' := [(3, .ref q9), (0, .ref xo), (1, .int 0)]) hx hb dL_deliver_13 rfl hl9 (by decide) rfl (fun ls hl9 => ?_)
    refine lv_bipush (v := (-73)) hx hb dL_deliver_14 (by decide) ?_
    exact hp_iret (v := (-73)) B0 hw hS hr ⟨Nat.le_of_ble_eq_true rfl, Nat.le_of_ble_eq_true rfl⟩ dL_deliver_16 (⟨rfl, hC8, hk8⟩)
  · exact hP.elim

set_option maxHeartbeats 4000000 in
set_option maxRecDepth 100000 in
theorem c_V_lose_S0 {l : Launch} (hl : l.stackTraces = false) (G : hG) (f : hM) (xo ez eo bu nw0 na0 nq0 nr0 nw1 na1 nq1 nr1 bs bp bh bf bl bg : Nat) (S0 : ES) (S1 : ES) (gw0 : Nat → Int32) (ga0 : Nat → Int32) (gw1 : Nat → Int32) (ga1 : Nat → Int32) (n : Nat) (a : Nat) (cg : Nat) (x : Nat) (sa : Nat → Nat) (pk : Nat → Nat) (fl : Nat → Nat) (gv : Nat → Nat) (gh : Nat → Int32) (gl : Nat → Int32) (hC : CXW G f xo ez eo bu nw0 na0 nq0 nr0 nw1 na1 nq1 nr1 bs bp bh bf bl bg S0 S1 gw0 ga0 gw1 ga1 n a cg x sa pk fl gv gh gl) (hL0 : S0.2.2.2.2.2.2.2.2.length < 3000) (hL1 : S1.2.2.2.2.2.2.2.2.length < 3000) (hL : S0.2.2.2.2.2.2.2.2 = []) : CT l yL_lose (.codeWith yL_lose cL_lose 4 (some .int) [(0, 6, 9, 14), (0, 6, 13, 29)]) 8 126 2 12 G [.ref xo, .int 0] f (fun v f1 => v = some (.int (-73)) ∧ CXW G f1 xo ez eo bu nw0 na0 nq0 nr0 nw1 na1 nq1 nr1 bs bp bh bf bl bg S0 S1 gw0 ga0 gw1 ga1 n a cg x sa pk fl gv gh gl ∧ hKn [xo, ez, eo, bu, nw0, na0, nq0, nr0, nw1, na1, nq1, nr1, bs, bp, bh, bf, bl, bg] f f1) (fun E f1 => False) := by
  refine hp_startH hl (own := RL) (by decide) rfl (Nat.le_of_ble_eq_true rfl) ?_
  intro p e s m args below meth c B0 hr htab hw hS ls hl9
  have hx := B0.1
  have hb := B0.2.1
  have hl9 : lv_has ls 4 [(0, .ref xo), (1, .int 0)] := hl9
  have k_xo : f xo = some (.inr (4, [.ref ez, .ref eo, .ref bu])) := by obtain ⟨_, _, h9⟩ := hC; exact h9.1
  refine lv_aload_n hx hb dL_lose_0 rfl (lv_at hl9 0 rfl) ?_
  refine lv_iload_n hx hb dL_lose_1 rfl (lv_at hl9 1 rfl) ?_
  refine hp_V (ci := 4) (As := [.int 0]) (rest := []) B0 hw hS (c_P_lose_S0 hl G f xo ez eo bu nw0 na0 nq0 nr0 nw1 na1 nq1 nr1 bs bp bh bf bl bg S0 S1 gw0 ga0 gw1 ga1 n a cg x sa pk fl gv gh gl hC hL0 hL1 hL) mV_X4_lose qM_L_37 rfl k_xo rfl rfl hl9.1 (Nat.le_of_ble_eq_true rfl) ⟨⟨Nat.le_of_ble_eq_true rfl, Nat.le_of_ble_eq_true rfl⟩, Nat.le_of_ble_eq_true rfl, Nat.le_of_ble_eq_true rfl⟩ dL_lose_2 (fun E ce q9 f1 H locs hPX hw hS hce hcv hcl => ?_) (fun v f1 H locs hP hw hS => ?_)
  · obtain ⟨eE9, hC8, hk8⟩ := hPX
    subst eE9
    refine hp_catch (name := eS) B0 [_] _ _ (htab.trans rfl) (fun z hz => Or.inr (by rcases List.mem_singleton.mp hz with rfl; exact ⟨by decide, eI, qC_L_14, List.mem_of_getElem? (i := 4) rfl⟩)) rfl (by decide) qC_L_29 oC_eS hce hcv hcl ?_
    refine W.eq (g2 := F0 m 13 ls [.ref q9]) rfl ?_
    refine lv_astore_n (lv' := [(3, .ref q9), (0, .ref xo), (1, .int 0)]) hx hb dL_lose_13 rfl hl9 (by decide) rfl (fun ls hl9 => ?_)
    refine lv_bipush (v := (-73)) hx hb dL_lose_14 (by decide) ?_
    exact hp_iret (v := (-73)) B0 hw hS hr ⟨Nat.le_of_ble_eq_true rfl, Nat.le_of_ble_eq_true rfl⟩ dL_lose_16 (⟨rfl, hC8, hk8⟩)
  · exact hP.elim

set_option maxHeartbeats 4000000 in
set_option maxRecDepth 100000 in
theorem c_V_loop_S0 {l : Launch} (hl : l.stackTraces = false) (G : hG) (f : hM) (xo ez eo bu nw0 na0 nq0 nr0 nw1 na1 nq1 nr1 bs bp bh bf bl bg : Nat) (S0 : ES) (S1 : ES) (gw0 : Nat → Int32) (ga0 : Nat → Int32) (gw1 : Nat → Int32) (ga1 : Nat → Int32) (n : Nat) (a : Nat) (cg : Nat) (x : Nat) (sa : Nat → Nat) (pk : Nat → Nat) (fl : Nat → Nat) (gv : Nat → Nat) (gh : Nat → Int32) (gl : Nat → Int32) (hC : CXW G f xo ez eo bu nw0 na0 nq0 nr0 nw1 na1 nq1 nr1 bs bp bh bf bl bg S0 S1 gw0 ga0 gw1 ga1 n a cg x sa pk fl gv gh gl) (hL0 : S0.2.2.2.2.2.2.2.2.length < 3000) (hL1 : S1.2.2.2.2.2.2.2.2.length < 3000) (hL : S0.2.2.2.2.2.2.2.2 = []) : CT l yL_loop (.codeWith yL_loop cL_loop 4 (some .int) [(0, 6, 9, 14), (0, 6, 13, 29)]) 8 126 2 12 G [.ref xo, .int 0] f (fun v f1 => v = some (.int (-73)) ∧ CXW G f1 xo ez eo bu nw0 na0 nq0 nr0 nw1 na1 nq1 nr1 bs bp bh bf bl bg S0 S1 gw0 ga0 gw1 ga1 n a cg x sa pk fl gv gh gl ∧ hKn [xo, ez, eo, bu, nw0, na0, nq0, nr0, nw1, na1, nq1, nr1, bs, bp, bh, bf, bl, bg] f f1) (fun E f1 => False) := by
  refine hp_startH hl (own := RL) (by decide) rfl (Nat.le_of_ble_eq_true rfl) ?_
  intro p e s m args below meth c B0 hr htab hw hS ls hl9
  have hx := B0.1
  have hb := B0.2.1
  have hl9 : lv_has ls 4 [(0, .ref xo), (1, .int 0)] := hl9
  have k_xo : f xo = some (.inr (4, [.ref ez, .ref eo, .ref bu])) := by obtain ⟨_, _, h9⟩ := hC; exact h9.1
  refine lv_aload_n hx hb dL_loop_0 rfl (lv_at hl9 0 rfl) ?_
  refine lv_iload_n hx hb dL_loop_1 rfl (lv_at hl9 1 rfl) ?_
  refine hp_V (ci := 4) (As := [.int 0]) (rest := []) B0 hw hS (c_P_loop_S0 hl G f xo ez eo bu nw0 na0 nq0 nr0 nw1 na1 nq1 nr1 bs bp bh bf bl bg S0 S1 gw0 ga0 gw1 ga1 n a cg x sa pk fl gv gh gl hC hL0 hL1 hL) mV_X4_loop qM_L_40 rfl k_xo rfl rfl hl9.1 (Nat.le_of_ble_eq_true rfl) ⟨⟨Nat.le_of_ble_eq_true rfl, Nat.le_of_ble_eq_true rfl⟩, Nat.le_of_ble_eq_true rfl, Nat.le_of_ble_eq_true rfl⟩ dL_loop_2 (fun E ce q9 f1 H locs hPX hw hS hce hcv hcl => ?_) (fun v f1 H locs hP hw hS => ?_)
  · obtain ⟨eE9, hC8, hk8⟩ := hPX
    subst eE9
    refine hp_catch (name := eS) B0 [_] _ _ (htab.trans rfl) (fun z hz => Or.inr (by rcases List.mem_singleton.mp hz with rfl; exact ⟨by decide, eI, qC_L_14, List.mem_of_getElem? (i := 4) rfl⟩)) rfl (by decide) qC_L_29 oC_eS hce hcv hcl ?_
    refine W.eq (g2 := F0 m 13 ls [.ref q9]) rfl ?_
    refine lv_astore_n (lv' := [(3, .ref q9), (0, .ref xo), (1, .int 0)]) hx hb dL_loop_13 rfl hl9 (by decide) rfl (fun ls hl9 => ?_)
    refine lv_bipush (v := (-73)) hx hb dL_loop_14 (by decide) ?_
    exact hp_iret (v := (-73)) B0 hw hS hr ⟨Nat.le_of_ble_eq_true rfl, Nat.le_of_ble_eq_true rfl⟩ dL_loop_16 (⟨rfl, hC8, hk8⟩)
  · exact hP.elim

set_option maxHeartbeats 4000000 in
set_option maxRecDepth 100000 in
theorem c_V_deliver_1 {l : Launch} (hl : l.stackTraces = false) (G : hG) (f : hM) (xo ez eo bu nw0 na0 nq0 nr0 nw1 na1 nq1 nr1 bs bp bh bf bl bg : Nat) (S0 : ES) (S1 : ES) (gw0 : Nat → Int32) (ga0 : Nat → Int32) (gw1 : Nat → Int32) (ga1 : Nat → Int32) (n : Nat) (a : Nat) (cg : Nat) (x : Nat) (sa : Nat → Nat) (pk : Nat → Nat) (fl : Nat → Nat) (gv : Nat → Nat) (gh : Nat → Int32) (gl : Nat → Int32) (hC : CXW G f xo ez eo bu nw0 na0 nq0 nr0 nw1 na1 nq1 nr1 bs bp bh bf bl bg S0 S1 gw0 ga0 gw1 ga1 n a cg x sa pk fl gv gh gl) (hL0 : S0.2.2.2.2.2.2.2.2.length < 3000) (hL1 : S1.2.2.2.2.2.2.2.2.length < 3000) (hL : ¬ S1.2.2.2.2.2.2.2.2 = []) : CT l yL_deliver (.codeWith yL_deliver cL_deliver 4 (some .int) [(0, 6, 9, 14), (0, 6, 13, 29)]) 8 154 7 40 G [.ref xo, .int 1] f (fun v f1 => ∃ (r : Fr) (L9 : List Fr), S1.2.2.2.2.2.2.2.2 = r :: L9 ∧ v = some (.int r.1) ∧ CXW G f1 xo ez eo bu nw0 na0 nq0 nr0 nw1 na1 nq1 nr1 bs bp bh bf bl bg (hearF ga0 r S0) (takeS S1) gw0 ga0 gw1 ga1 n a cg x sa pk fl gv gh gl ∧ hKn [xo, ez, eo, bu, nw0, na0, nq0, nr0, nw1, na1, nq1, nr1, bs, bp, bh, bf, bl, bg] f f1) (fun E f1 => False) := by
  refine hp_startH hl (own := RL) (by decide) rfl (Nat.le_of_ble_eq_true rfl) ?_
  intro p e s m args below meth c B0 hr htab hw hS ls hl9
  have hx := B0.1
  have hb := B0.2.1
  have hl9 : lv_has ls 4 [(0, .ref xo), (1, .int 1)] := hl9
  have k_xo : f xo = some (.inr (4, [.ref ez, .ref eo, .ref bu])) := by obtain ⟨_, _, h9⟩ := hC; exact h9.1
  refine lv_aload_n hx hb dL_deliver_0 rfl (lv_at hl9 0 rfl) ?_
  refine lv_iload_n hx hb dL_deliver_1 rfl (lv_at hl9 1 rfl) ?_
  refine hp_V (ci := 4) (As := [.int 1]) (rest := []) B0 hw hS (c_P_deliver_1 hl G f xo ez eo bu nw0 na0 nq0 nr0 nw1 na1 nq1 nr1 bs bp bh bf bl bg S0 S1 gw0 ga0 gw1 ga1 n a cg x sa pk fl gv gh gl hC hL0 hL1 hL) mV_X4_deliver qM_L_34 rfl k_xo rfl rfl hl9.1 (Nat.le_of_ble_eq_true rfl) ⟨⟨Nat.le_of_ble_eq_true rfl, Nat.le_of_ble_eq_true rfl⟩, Nat.le_of_ble_eq_true rfl, Nat.le_of_ble_eq_true rfl⟩ dL_deliver_2 (fun E ce q9 f1 H locs hPX hw hS hce hcv hcl => ?_) (fun v f1 H locs hP hw hS => ?_)
  · exact hPX.elim
  · obtain ⟨r9, L9, eL9, ev9, hC8, hk8⟩ := hP
    subst ev9
    refine W.eq (g2 := F0 m 5 ls [.int r9.1]) rfl ?_
    refine lv_istore_n (lv' := [(2, .int r9.1), (0, .ref xo), (1, .int 1)]) hx hb dL_deliver_5 rfl hl9 (by decide) rfl (fun ls hl9 => ?_)
    refine lv_goto (tgt := 17) hx hb dL_deliver_6 (by decide) ?_
    refine lv_iload_n hx hb dL_deliver_17 rfl (lv_at hl9 0 rfl) ?_
    exact hp_iret (v := r9.1) B0 hw hS hr ⟨Nat.le_of_ble_eq_true rfl, Nat.le_of_ble_eq_true rfl⟩ dL_deliver_18 (⟨r9, L9, eL9, rfl, hC8, hk8⟩)

set_option maxHeartbeats 4000000 in
set_option maxRecDepth 100000 in
theorem c_V_lose_1 {l : Launch} (hl : l.stackTraces = false) (G : hG) (f : hM) (xo ez eo bu nw0 na0 nq0 nr0 nw1 na1 nq1 nr1 bs bp bh bf bl bg : Nat) (S0 : ES) (S1 : ES) (gw0 : Nat → Int32) (ga0 : Nat → Int32) (gw1 : Nat → Int32) (ga1 : Nat → Int32) (n : Nat) (a : Nat) (cg : Nat) (x : Nat) (sa : Nat → Nat) (pk : Nat → Nat) (fl : Nat → Nat) (gv : Nat → Nat) (gh : Nat → Int32) (gl : Nat → Int32) (hC : CXW G f xo ez eo bu nw0 na0 nq0 nr0 nw1 na1 nq1 nr1 bs bp bh bf bl bg S0 S1 gw0 ga0 gw1 ga1 n a cg x sa pk fl gv gh gl) (hL0 : S0.2.2.2.2.2.2.2.2.length < 3000) (hL1 : S1.2.2.2.2.2.2.2.2.length < 3000) (hL : ¬ S1.2.2.2.2.2.2.2.2 = []) : CT l yL_lose (.codeWith yL_lose cL_lose 4 (some .int) [(0, 6, 9, 14), (0, 6, 13, 29)]) 8 126 2 12 G [.ref xo, .int 1] f (fun v f1 => ∃ (r : Fr) (L9 : List Fr), S1.2.2.2.2.2.2.2.2 = r :: L9 ∧ v = some (.int r.1) ∧ CXW G f1 xo ez eo bu nw0 na0 nq0 nr0 nw1 na1 nq1 nr1 bs bp bh bf bl bg S0 (missS (takeS S1)) gw0 ga0 gw1 ga1 n a cg x sa pk fl gv gh gl ∧ hKn [xo, ez, eo, bu, nw0, na0, nq0, nr0, nw1, na1, nq1, nr1, bs, bp, bh, bf, bl, bg] f f1) (fun E f1 => False) := by
  refine hp_startH hl (own := RL) (by decide) rfl (Nat.le_of_ble_eq_true rfl) ?_
  intro p e s m args below meth c B0 hr htab hw hS ls hl9
  have hx := B0.1
  have hb := B0.2.1
  have hl9 : lv_has ls 4 [(0, .ref xo), (1, .int 1)] := hl9
  have k_xo : f xo = some (.inr (4, [.ref ez, .ref eo, .ref bu])) := by obtain ⟨_, _, h9⟩ := hC; exact h9.1
  refine lv_aload_n hx hb dL_lose_0 rfl (lv_at hl9 0 rfl) ?_
  refine lv_iload_n hx hb dL_lose_1 rfl (lv_at hl9 1 rfl) ?_
  refine hp_V (ci := 4) (As := [.int 1]) (rest := []) B0 hw hS (c_P_lose_1 hl G f xo ez eo bu nw0 na0 nq0 nr0 nw1 na1 nq1 nr1 bs bp bh bf bl bg S0 S1 gw0 ga0 gw1 ga1 n a cg x sa pk fl gv gh gl hC hL0 hL1 hL) mV_X4_lose qM_L_37 rfl k_xo rfl rfl hl9.1 (Nat.le_of_ble_eq_true rfl) ⟨⟨Nat.le_of_ble_eq_true rfl, Nat.le_of_ble_eq_true rfl⟩, Nat.le_of_ble_eq_true rfl, Nat.le_of_ble_eq_true rfl⟩ dL_lose_2 (fun E ce q9 f1 H locs hPX hw hS hce hcv hcl => ?_) (fun v f1 H locs hP hw hS => ?_)
  · exact hPX.elim
  · obtain ⟨r9, L9, eL9, ev9, hC8, hk8⟩ := hP
    subst ev9
    refine W.eq (g2 := F0 m 5 ls [.int r9.1]) rfl ?_
    refine lv_istore_n (lv' := [(2, .int r9.1), (0, .ref xo), (1, .int 1)]) hx hb dL_lose_5 rfl hl9 (by decide) rfl (fun ls hl9 => ?_)
    refine lv_goto (tgt := 17) hx hb dL_lose_6 (by decide) ?_
    refine lv_iload_n hx hb dL_lose_17 rfl (lv_at hl9 0 rfl) ?_
    exact hp_iret (v := r9.1) B0 hw hS hr ⟨Nat.le_of_ble_eq_true rfl, Nat.le_of_ble_eq_true rfl⟩ dL_lose_18 (⟨r9, L9, eL9, rfl, hC8, hk8⟩)

set_option maxHeartbeats 4000000 in
set_option maxRecDepth 100000 in
theorem c_V_loop_1 {l : Launch} (hl : l.stackTraces = false) (G : hG) (f : hM) (xo ez eo bu nw0 na0 nq0 nr0 nw1 na1 nq1 nr1 bs bp bh bf bl bg : Nat) (S0 : ES) (S1 : ES) (gw0 : Nat → Int32) (ga0 : Nat → Int32) (gw1 : Nat → Int32) (ga1 : Nat → Int32) (n : Nat) (a : Nat) (cg : Nat) (x : Nat) (sa : Nat → Nat) (pk : Nat → Nat) (fl : Nat → Nat) (gv : Nat → Nat) (gh : Nat → Int32) (gl : Nat → Int32) (hC : CXW G f xo ez eo bu nw0 na0 nq0 nr0 nw1 na1 nq1 nr1 bs bp bh bf bl bg S0 S1 gw0 ga0 gw1 ga1 n a cg x sa pk fl gv gh gl) (hL0 : S0.2.2.2.2.2.2.2.2.length < 3000) (hL1 : S1.2.2.2.2.2.2.2.2.length < 3000) (hL : ¬ S1.2.2.2.2.2.2.2.2 = []) : CT l yL_loop (.codeWith yL_loop cL_loop 4 (some .int) [(0, 6, 9, 14), (0, 6, 13, 29)]) 8 155 6 34 G [.ref xo, .int 1] f (fun v f1 => ∃ (r : Fr) (L9 : List Fr), S1.2.2.2.2.2.2.2.2 = r :: L9 ∧ v = some (.int r.1) ∧ CXW G f1 xo ez eo bu nw0 na0 nq0 nr0 nw1 na1 nq1 nr1 bs bp bh bf bl bg S0 (hearF ga1 r (missS (takeS S1))) gw0 ga0 gw1 ga1 n a cg x sa pk fl gv gh gl ∧ hKn [xo, ez, eo, bu, nw0, na0, nq0, nr0, nw1, na1, nq1, nr1, bs, bp, bh, bf, bl, bg] f f1) (fun E f1 => False) := by
  refine hp_startH hl (own := RL) (by decide) rfl (Nat.le_of_ble_eq_true rfl) ?_
  intro p e s m args below meth c B0 hr htab hw hS ls hl9
  have hx := B0.1
  have hb := B0.2.1
  have hl9 : lv_has ls 4 [(0, .ref xo), (1, .int 1)] := hl9
  have k_xo : f xo = some (.inr (4, [.ref ez, .ref eo, .ref bu])) := by obtain ⟨_, _, h9⟩ := hC; exact h9.1
  refine lv_aload_n hx hb dL_loop_0 rfl (lv_at hl9 0 rfl) ?_
  refine lv_iload_n hx hb dL_loop_1 rfl (lv_at hl9 1 rfl) ?_
  refine hp_V (ci := 4) (As := [.int 1]) (rest := []) B0 hw hS (c_P_loop_1 hl G f xo ez eo bu nw0 na0 nq0 nr0 nw1 na1 nq1 nr1 bs bp bh bf bl bg S0 S1 gw0 ga0 gw1 ga1 n a cg x sa pk fl gv gh gl hC hL0 hL1 hL) mV_X4_loop qM_L_40 rfl k_xo rfl rfl hl9.1 (Nat.le_of_ble_eq_true rfl) ⟨⟨Nat.le_of_ble_eq_true rfl, Nat.le_of_ble_eq_true rfl⟩, Nat.le_of_ble_eq_true rfl, Nat.le_of_ble_eq_true rfl⟩ dL_loop_2 (fun E ce q9 f1 H locs hPX hw hS hce hcv hcl => ?_) (fun v f1 H locs hP hw hS => ?_)
  · exact hPX.elim
  · obtain ⟨r9, L9, eL9, ev9, hC8, hk8⟩ := hP
    subst ev9
    refine W.eq (g2 := F0 m 5 ls [.int r9.1]) rfl ?_
    refine lv_istore_n (lv' := [(2, .int r9.1), (0, .ref xo), (1, .int 1)]) hx hb dL_loop_5 rfl hl9 (by decide) rfl (fun ls hl9 => ?_)
    refine lv_goto (tgt := 17) hx hb dL_loop_6 (by decide) ?_
    refine lv_iload_n hx hb dL_loop_17 rfl (lv_at hl9 0 rfl) ?_
    exact hp_iret (v := r9.1) B0 hw hS hr ⟨Nat.le_of_ble_eq_true rfl, Nat.le_of_ble_eq_true rfl⟩ dL_loop_18 (⟨r9, L9, eL9, rfl, hC8, hk8⟩)

set_option maxHeartbeats 4000000 in
set_option maxRecDepth 100000 in
theorem c_V_deliver_S1 {l : Launch} (hl : l.stackTraces = false) (G : hG) (f : hM) (xo ez eo bu nw0 na0 nq0 nr0 nw1 na1 nq1 nr1 bs bp bh bf bl bg : Nat) (S0 : ES) (S1 : ES) (gw0 : Nat → Int32) (ga0 : Nat → Int32) (gw1 : Nat → Int32) (ga1 : Nat → Int32) (n : Nat) (a : Nat) (cg : Nat) (x : Nat) (sa : Nat → Nat) (pk : Nat → Nat) (fl : Nat → Nat) (gv : Nat → Nat) (gh : Nat → Int32) (gl : Nat → Int32) (hC : CXW G f xo ez eo bu nw0 na0 nq0 nr0 nw1 na1 nq1 nr1 bs bp bh bf bl bg S0 S1 gw0 ga0 gw1 ga1 n a cg x sa pk fl gv gh gl) (hL0 : S0.2.2.2.2.2.2.2.2.length < 3000) (hL1 : S1.2.2.2.2.2.2.2.2.length < 3000) (hL : S1.2.2.2.2.2.2.2.2 = []) : CT l yL_deliver (.codeWith yL_deliver cL_deliver 4 (some .int) [(0, 6, 9, 14), (0, 6, 13, 29)]) 8 125 2 12 G [.ref xo, .int 1] f (fun v f1 => v = some (.int (-73)) ∧ CXW G f1 xo ez eo bu nw0 na0 nq0 nr0 nw1 na1 nq1 nr1 bs bp bh bf bl bg S0 S1 gw0 ga0 gw1 ga1 n a cg x sa pk fl gv gh gl ∧ hKn [xo, ez, eo, bu, nw0, na0, nq0, nr0, nw1, na1, nq1, nr1, bs, bp, bh, bf, bl, bg] f f1) (fun E f1 => False) := by
  refine hp_startH hl (own := RL) (by decide) rfl (Nat.le_of_ble_eq_true rfl) ?_
  intro p e s m args below meth c B0 hr htab hw hS ls hl9
  have hx := B0.1
  have hb := B0.2.1
  have hl9 : lv_has ls 4 [(0, .ref xo), (1, .int 1)] := hl9
  have k_xo : f xo = some (.inr (4, [.ref ez, .ref eo, .ref bu])) := by obtain ⟨_, _, h9⟩ := hC; exact h9.1
  refine lv_aload_n hx hb dL_deliver_0 rfl (lv_at hl9 0 rfl) ?_
  refine lv_iload_n hx hb dL_deliver_1 rfl (lv_at hl9 1 rfl) ?_
  refine hp_V (ci := 4) (As := [.int 1]) (rest := []) B0 hw hS (c_P_deliver_S1 hl G f xo ez eo bu nw0 na0 nq0 nr0 nw1 na1 nq1 nr1 bs bp bh bf bl bg S0 S1 gw0 ga0 gw1 ga1 n a cg x sa pk fl gv gh gl hC hL0 hL1 hL) mV_X4_deliver qM_L_34 rfl k_xo rfl rfl hl9.1 (Nat.le_of_ble_eq_true rfl) ⟨⟨Nat.le_of_ble_eq_true rfl, Nat.le_of_ble_eq_true rfl⟩, Nat.le_of_ble_eq_true rfl, Nat.le_of_ble_eq_true rfl⟩ dL_deliver_2 (fun E ce q9 f1 H locs hPX hw hS hce hcv hcl => ?_) (fun v f1 H locs hP hw hS => ?_)
  · obtain ⟨eE9, hC8, hk8⟩ := hPX
    subst eE9
    refine hp_catch (name := eS) B0 [_] _ _ (htab.trans rfl) (fun z hz => Or.inr (by rcases List.mem_singleton.mp hz with rfl; exact ⟨by decide, eI, qC_L_14, List.mem_of_getElem? (i := 4) rfl⟩)) rfl (by decide) qC_L_29 oC_eS hce hcv hcl ?_
    refine W.eq (g2 := F0 m 13 ls [.ref q9]) rfl ?_
    refine lv_astore_n (lv' := [(3, .ref q9), (0, .ref xo), (1, .int 1)]) hx hb dL_deliver_13 rfl hl9 (by decide) rfl (fun ls hl9 => ?_)
    refine lv_bipush (v := (-73)) hx hb dL_deliver_14 (by decide) ?_
    exact hp_iret (v := (-73)) B0 hw hS hr ⟨Nat.le_of_ble_eq_true rfl, Nat.le_of_ble_eq_true rfl⟩ dL_deliver_16 (⟨rfl, hC8, hk8⟩)
  · exact hP.elim

set_option maxHeartbeats 4000000 in
set_option maxRecDepth 100000 in
theorem c_V_lose_S1 {l : Launch} (hl : l.stackTraces = false) (G : hG) (f : hM) (xo ez eo bu nw0 na0 nq0 nr0 nw1 na1 nq1 nr1 bs bp bh bf bl bg : Nat) (S0 : ES) (S1 : ES) (gw0 : Nat → Int32) (ga0 : Nat → Int32) (gw1 : Nat → Int32) (ga1 : Nat → Int32) (n : Nat) (a : Nat) (cg : Nat) (x : Nat) (sa : Nat → Nat) (pk : Nat → Nat) (fl : Nat → Nat) (gv : Nat → Nat) (gh : Nat → Int32) (gl : Nat → Int32) (hC : CXW G f xo ez eo bu nw0 na0 nq0 nr0 nw1 na1 nq1 nr1 bs bp bh bf bl bg S0 S1 gw0 ga0 gw1 ga1 n a cg x sa pk fl gv gh gl) (hL0 : S0.2.2.2.2.2.2.2.2.length < 3000) (hL1 : S1.2.2.2.2.2.2.2.2.length < 3000) (hL : S1.2.2.2.2.2.2.2.2 = []) : CT l yL_lose (.codeWith yL_lose cL_lose 4 (some .int) [(0, 6, 9, 14), (0, 6, 13, 29)]) 8 126 2 12 G [.ref xo, .int 1] f (fun v f1 => v = some (.int (-73)) ∧ CXW G f1 xo ez eo bu nw0 na0 nq0 nr0 nw1 na1 nq1 nr1 bs bp bh bf bl bg S0 S1 gw0 ga0 gw1 ga1 n a cg x sa pk fl gv gh gl ∧ hKn [xo, ez, eo, bu, nw0, na0, nq0, nr0, nw1, na1, nq1, nr1, bs, bp, bh, bf, bl, bg] f f1) (fun E f1 => False) := by
  refine hp_startH hl (own := RL) (by decide) rfl (Nat.le_of_ble_eq_true rfl) ?_
  intro p e s m args below meth c B0 hr htab hw hS ls hl9
  have hx := B0.1
  have hb := B0.2.1
  have hl9 : lv_has ls 4 [(0, .ref xo), (1, .int 1)] := hl9
  have k_xo : f xo = some (.inr (4, [.ref ez, .ref eo, .ref bu])) := by obtain ⟨_, _, h9⟩ := hC; exact h9.1
  refine lv_aload_n hx hb dL_lose_0 rfl (lv_at hl9 0 rfl) ?_
  refine lv_iload_n hx hb dL_lose_1 rfl (lv_at hl9 1 rfl) ?_
  refine hp_V (ci := 4) (As := [.int 1]) (rest := []) B0 hw hS (c_P_lose_S1 hl G f xo ez eo bu nw0 na0 nq0 nr0 nw1 na1 nq1 nr1 bs bp bh bf bl bg S0 S1 gw0 ga0 gw1 ga1 n a cg x sa pk fl gv gh gl hC hL0 hL1 hL) mV_X4_lose qM_L_37 rfl k_xo rfl rfl hl9.1 (Nat.le_of_ble_eq_true rfl) ⟨⟨Nat.le_of_ble_eq_true rfl, Nat.le_of_ble_eq_true rfl⟩, Nat.le_of_ble_eq_true rfl, Nat.le_of_ble_eq_true rfl⟩ dL_lose_2 (fun E ce q9 f1 H locs hPX hw hS hce hcv hcl => ?_) (fun v f1 H locs hP hw hS => ?_)
  · obtain ⟨eE9, hC8, hk8⟩ := hPX
    subst eE9
    refine hp_catch (name := eS) B0 [_] _ _ (htab.trans rfl) (fun z hz => Or.inr (by rcases List.mem_singleton.mp hz with rfl; exact ⟨by decide, eI, qC_L_14, List.mem_of_getElem? (i := 4) rfl⟩)) rfl (by decide) qC_L_29 oC_eS hce hcv hcl ?_
    refine W.eq (g2 := F0 m 13 ls [.ref q9]) rfl ?_
    refine lv_astore_n (lv' := [(3, .ref q9), (0, .ref xo), (1, .int 1)]) hx hb dL_lose_13 rfl hl9 (by decide) rfl (fun ls hl9 => ?_)
    refine lv_bipush (v := (-73)) hx hb dL_lose_14 (by decide) ?_
    exact hp_iret (v := (-73)) B0 hw hS hr ⟨Nat.le_of_ble_eq_true rfl, Nat.le_of_ble_eq_true rfl⟩ dL_lose_16 (⟨rfl, hC8, hk8⟩)
  · exact hP.elim

set_option maxHeartbeats 4000000 in
set_option maxRecDepth 100000 in
theorem c_V_loop_S1 {l : Launch} (hl : l.stackTraces = false) (G : hG) (f : hM) (xo ez eo bu nw0 na0 nq0 nr0 nw1 na1 nq1 nr1 bs bp bh bf bl bg : Nat) (S0 : ES) (S1 : ES) (gw0 : Nat → Int32) (ga0 : Nat → Int32) (gw1 : Nat → Int32) (ga1 : Nat → Int32) (n : Nat) (a : Nat) (cg : Nat) (x : Nat) (sa : Nat → Nat) (pk : Nat → Nat) (fl : Nat → Nat) (gv : Nat → Nat) (gh : Nat → Int32) (gl : Nat → Int32) (hC : CXW G f xo ez eo bu nw0 na0 nq0 nr0 nw1 na1 nq1 nr1 bs bp bh bf bl bg S0 S1 gw0 ga0 gw1 ga1 n a cg x sa pk fl gv gh gl) (hL0 : S0.2.2.2.2.2.2.2.2.length < 3000) (hL1 : S1.2.2.2.2.2.2.2.2.length < 3000) (hL : S1.2.2.2.2.2.2.2.2 = []) : CT l yL_loop (.codeWith yL_loop cL_loop 4 (some .int) [(0, 6, 9, 14), (0, 6, 13, 29)]) 8 126 2 12 G [.ref xo, .int 1] f (fun v f1 => v = some (.int (-73)) ∧ CXW G f1 xo ez eo bu nw0 na0 nq0 nr0 nw1 na1 nq1 nr1 bs bp bh bf bl bg S0 S1 gw0 ga0 gw1 ga1 n a cg x sa pk fl gv gh gl ∧ hKn [xo, ez, eo, bu, nw0, na0, nq0, nr0, nw1, na1, nq1, nr1, bs, bp, bh, bf, bl, bg] f f1) (fun E f1 => False) := by
  refine hp_startH hl (own := RL) (by decide) rfl (Nat.le_of_ble_eq_true rfl) ?_
  intro p e s m args below meth c B0 hr htab hw hS ls hl9
  have hx := B0.1
  have hb := B0.2.1
  have hl9 : lv_has ls 4 [(0, .ref xo), (1, .int 1)] := hl9
  have k_xo : f xo = some (.inr (4, [.ref ez, .ref eo, .ref bu])) := by obtain ⟨_, _, h9⟩ := hC; exact h9.1
  refine lv_aload_n hx hb dL_loop_0 rfl (lv_at hl9 0 rfl) ?_
  refine lv_iload_n hx hb dL_loop_1 rfl (lv_at hl9 1 rfl) ?_
  refine hp_V (ci := 4) (As := [.int 1]) (rest := []) B0 hw hS (c_P_loop_S1 hl G f xo ez eo bu nw0 na0 nq0 nr0 nw1 na1 nq1 nr1 bs bp bh bf bl bg S0 S1 gw0 ga0 gw1 ga1 n a cg x sa pk fl gv gh gl hC hL0 hL1 hL) mV_X4_loop qM_L_40 rfl k_xo rfl rfl hl9.1 (Nat.le_of_ble_eq_true rfl) ⟨⟨Nat.le_of_ble_eq_true rfl, Nat.le_of_ble_eq_true rfl⟩, Nat.le_of_ble_eq_true rfl, Nat.le_of_ble_eq_true rfl⟩ dL_loop_2 (fun E ce q9 f1 H locs hPX hw hS hce hcv hcl => ?_) (fun v f1 H locs hP hw hS => ?_)
  · obtain ⟨eE9, hC8, hk8⟩ := hPX
    subst eE9
    refine hp_catch (name := eS) B0 [_] _ _ (htab.trans rfl) (fun z hz => Or.inr (by rcases List.mem_singleton.mp hz with rfl; exact ⟨by decide, eI, qC_L_14, List.mem_of_getElem? (i := 4) rfl⟩)) rfl (by decide) qC_L_29 oC_eS hce hcv hcl ?_
    refine W.eq (g2 := F0 m 13 ls [.ref q9]) rfl ?_
    refine lv_astore_n (lv' := [(3, .ref q9), (0, .ref xo), (1, .int 1)]) hx hb dL_loop_13 rfl hl9 (by decide) rfl (fun ls hl9 => ?_)
    refine lv_bipush (v := (-73)) hx hb dL_loop_14 (by decide) ?_
    exact hp_iret (v := (-73)) B0 hw hS hr ⟨Nat.le_of_ble_eq_true rfl, Nat.le_of_ble_eq_true rfl⟩ dL_loop_16 (⟨rfl, hC8, hk8⟩)
  · exact hP.elim

set_option maxHeartbeats 4000000 in
set_option maxRecDepth 100000 in
theorem c_V_deliver_E {l : Launch} (hl : l.stackTraces = false) (G : hG) (f : hM) (xo ez eo bu nw0 na0 nq0 nr0 nw1 na1 nq1 nr1 bs bp bh bf bl bg : Nat) (S0 : ES) (S1 : ES) (gw0 : Nat → Int32) (ga0 : Nat → Int32) (gw1 : Nat → Int32) (ga1 : Nat → Int32) (n : Nat) (a : Nat) (cg : Nat) (x : Nat) (sa : Nat → Nat) (pk : Nat → Nat) (fl : Nat → Nat) (gv : Nat → Nat) (gh : Nat → Int32) (gl : Nat → Int32) (hC : CXW G f xo ez eo bu nw0 na0 nq0 nr0 nw1 na1 nq1 nr1 bs bp bh bf bl bg S0 S1 gw0 ga0 gw1 ga1 n a cg x sa pk fl gv gh gl) (hL0 : S0.2.2.2.2.2.2.2.2.length < 3000) (hL1 : S1.2.2.2.2.2.2.2.2.length < 3000) (i : Int32) (hi : ¬ sE i) : CT l yL_deliver (.codeWith yL_deliver cL_deliver 4 (some .int) [(0, 6, 9, 14), (0, 6, 13, 29)]) 8 125 1 6 G [.ref xo, .int i] f (fun v f1 => v = some (.int (-71)) ∧ CXW G f1 xo ez eo bu nw0 na0 nq0 nr0 nw1 na1 nq1 nr1 bs bp bh bf bl bg S0 S1 gw0 ga0 gw1 ga1 n a cg x sa pk fl gv gh gl ∧ hKn [xo, ez, eo, bu, nw0, na0, nq0, nr0, nw1, na1, nq1, nr1, bs, bp, bh, bf, bl, bg] f f1) (fun E f1 => False) := by
  refine hp_startH hl (own := RL) (by decide) rfl (Nat.le_of_ble_eq_true rfl) ?_
  intro p e s m args below meth c B0 hr htab hw hS ls hl9
  have hx := B0.1
  have hb := B0.2.1
  have hl9 : lv_has ls 4 [(0, .ref xo), (1, .int i)] := hl9
  have k_xo : f xo = some (.inr (4, [.ref ez, .ref eo, .ref bu])) := by obtain ⟨_, _, h9⟩ := hC; exact h9.1
  refine lv_aload_n hx hb dL_deliver_0 rfl (lv_at hl9 0 rfl) ?_
  refine lv_iload_n hx hb dL_deliver_1 rfl (lv_at hl9 1 rfl) ?_
  refine hp_V (ci := 4) (As := [.int i]) (rest := []) B0 hw hS (c_P_deliver_E hl G f xo ez eo bu nw0 na0 nq0 nr0 nw1 na1 nq1 nr1 bs bp bh bf bl bg S0 S1 gw0 ga0 gw1 ga1 n a cg x sa pk fl gv gh gl hC hL0 hL1 i hi) mV_X4_deliver qM_L_34 rfl k_xo rfl rfl hl9.1 (Nat.le_of_ble_eq_true rfl) ⟨⟨Nat.le_of_ble_eq_true rfl, Nat.le_of_ble_eq_true rfl⟩, Nat.le_of_ble_eq_true rfl, Nat.le_of_ble_eq_true rfl⟩ dL_deliver_2 (fun E ce q9 f1 H locs hPX hw hS hce hcv hcl => ?_) (fun v f1 H locs hP hw hS => ?_)
  · obtain ⟨eE9, hC8, hk8⟩ := hPX
    subst eE9
    refine hp_catch (name := eI) B0 [] _ _ (htab.trans rfl) (fun z hz => nomatch hz) rfl (by decide) qC_L_14 oC_eI hce hcv hcl ?_
    refine W.eq (g2 := F0 m 9 ls [.ref q9]) rfl ?_
    refine lv_astore_n (lv' := [(3, .ref q9), (0, .ref xo), (1, .int i)]) hx hb dL_deliver_9 rfl hl9 (by decide) rfl (fun ls hl9 => ?_)
    refine lv_bipush (v := (-71)) hx hb dL_deliver_10 (by decide) ?_
    exact hp_iret (v := (-71)) B0 hw hS hr ⟨Nat.le_of_ble_eq_true rfl, Nat.le_of_ble_eq_true rfl⟩ dL_deliver_12 (⟨rfl, hC8, hk8⟩)
  · exact hP.elim

set_option maxHeartbeats 4000000 in
set_option maxRecDepth 100000 in
theorem c_V_lose_E {l : Launch} (hl : l.stackTraces = false) (G : hG) (f : hM) (xo ez eo bu nw0 na0 nq0 nr0 nw1 na1 nq1 nr1 bs bp bh bf bl bg : Nat) (S0 : ES) (S1 : ES) (gw0 : Nat → Int32) (ga0 : Nat → Int32) (gw1 : Nat → Int32) (ga1 : Nat → Int32) (n : Nat) (a : Nat) (cg : Nat) (x : Nat) (sa : Nat → Nat) (pk : Nat → Nat) (fl : Nat → Nat) (gv : Nat → Nat) (gh : Nat → Int32) (gl : Nat → Int32) (hC : CXW G f xo ez eo bu nw0 na0 nq0 nr0 nw1 na1 nq1 nr1 bs bp bh bf bl bg S0 S1 gw0 ga0 gw1 ga1 n a cg x sa pk fl gv gh gl) (hL0 : S0.2.2.2.2.2.2.2.2.length < 3000) (hL1 : S1.2.2.2.2.2.2.2.2.length < 3000) (i : Int32) (hi : ¬ sE i) : CT l yL_lose (.codeWith yL_lose cL_lose 4 (some .int) [(0, 6, 9, 14), (0, 6, 13, 29)]) 8 126 1 6 G [.ref xo, .int i] f (fun v f1 => v = some (.int (-71)) ∧ CXW G f1 xo ez eo bu nw0 na0 nq0 nr0 nw1 na1 nq1 nr1 bs bp bh bf bl bg S0 S1 gw0 ga0 gw1 ga1 n a cg x sa pk fl gv gh gl ∧ hKn [xo, ez, eo, bu, nw0, na0, nq0, nr0, nw1, na1, nq1, nr1, bs, bp, bh, bf, bl, bg] f f1) (fun E f1 => False) := by
  refine hp_startH hl (own := RL) (by decide) rfl (Nat.le_of_ble_eq_true rfl) ?_
  intro p e s m args below meth c B0 hr htab hw hS ls hl9
  have hx := B0.1
  have hb := B0.2.1
  have hl9 : lv_has ls 4 [(0, .ref xo), (1, .int i)] := hl9
  have k_xo : f xo = some (.inr (4, [.ref ez, .ref eo, .ref bu])) := by obtain ⟨_, _, h9⟩ := hC; exact h9.1
  refine lv_aload_n hx hb dL_lose_0 rfl (lv_at hl9 0 rfl) ?_
  refine lv_iload_n hx hb dL_lose_1 rfl (lv_at hl9 1 rfl) ?_
  refine hp_V (ci := 4) (As := [.int i]) (rest := []) B0 hw hS (c_P_lose_E hl G f xo ez eo bu nw0 na0 nq0 nr0 nw1 na1 nq1 nr1 bs bp bh bf bl bg S0 S1 gw0 ga0 gw1 ga1 n a cg x sa pk fl gv gh gl hC hL0 hL1 i hi) mV_X4_lose qM_L_37 rfl k_xo rfl rfl hl9.1 (Nat.le_of_ble_eq_true rfl) ⟨⟨Nat.le_of_ble_eq_true rfl, Nat.le_of_ble_eq_true rfl⟩, Nat.le_of_ble_eq_true rfl, Nat.le_of_ble_eq_true rfl⟩ dL_lose_2 (fun E ce q9 f1 H locs hPX hw hS hce hcv hcl => ?_) (fun v f1 H locs hP hw hS => ?_)
  · obtain ⟨eE9, hC8, hk8⟩ := hPX
    subst eE9
    refine hp_catch (name := eI) B0 [] _ _ (htab.trans rfl) (fun z hz => nomatch hz) rfl (by decide) qC_L_14 oC_eI hce hcv hcl ?_
    refine W.eq (g2 := F0 m 9 ls [.ref q9]) rfl ?_
    refine lv_astore_n (lv' := [(3, .ref q9), (0, .ref xo), (1, .int i)]) hx hb dL_lose_9 rfl hl9 (by decide) rfl (fun ls hl9 => ?_)
    refine lv_bipush (v := (-71)) hx hb dL_lose_10 (by decide) ?_
    exact hp_iret (v := (-71)) B0 hw hS hr ⟨Nat.le_of_ble_eq_true rfl, Nat.le_of_ble_eq_true rfl⟩ dL_lose_12 (⟨rfl, hC8, hk8⟩)
  · exact hP.elim

set_option maxHeartbeats 4000000 in
set_option maxRecDepth 100000 in
theorem c_V_loop_E {l : Launch} (hl : l.stackTraces = false) (G : hG) (f : hM) (xo ez eo bu nw0 na0 nq0 nr0 nw1 na1 nq1 nr1 bs bp bh bf bl bg : Nat) (S0 : ES) (S1 : ES) (gw0 : Nat → Int32) (ga0 : Nat → Int32) (gw1 : Nat → Int32) (ga1 : Nat → Int32) (n : Nat) (a : Nat) (cg : Nat) (x : Nat) (sa : Nat → Nat) (pk : Nat → Nat) (fl : Nat → Nat) (gv : Nat → Nat) (gh : Nat → Int32) (gl : Nat → Int32) (hC : CXW G f xo ez eo bu nw0 na0 nq0 nr0 nw1 na1 nq1 nr1 bs bp bh bf bl bg S0 S1 gw0 ga0 gw1 ga1 n a cg x sa pk fl gv gh gl) (hL0 : S0.2.2.2.2.2.2.2.2.length < 3000) (hL1 : S1.2.2.2.2.2.2.2.2.length < 3000) (i : Int32) (hi : ¬ sE i) : CT l yL_loop (.codeWith yL_loop cL_loop 4 (some .int) [(0, 6, 9, 14), (0, 6, 13, 29)]) 8 126 1 6 G [.ref xo, .int i] f (fun v f1 => v = some (.int (-71)) ∧ CXW G f1 xo ez eo bu nw0 na0 nq0 nr0 nw1 na1 nq1 nr1 bs bp bh bf bl bg S0 S1 gw0 ga0 gw1 ga1 n a cg x sa pk fl gv gh gl ∧ hKn [xo, ez, eo, bu, nw0, na0, nq0, nr0, nw1, na1, nq1, nr1, bs, bp, bh, bf, bl, bg] f f1) (fun E f1 => False) := by
  refine hp_startH hl (own := RL) (by decide) rfl (Nat.le_of_ble_eq_true rfl) ?_
  intro p e s m args below meth c B0 hr htab hw hS ls hl9
  have hx := B0.1
  have hb := B0.2.1
  have hl9 : lv_has ls 4 [(0, .ref xo), (1, .int i)] := hl9
  have k_xo : f xo = some (.inr (4, [.ref ez, .ref eo, .ref bu])) := by obtain ⟨_, _, h9⟩ := hC; exact h9.1
  refine lv_aload_n hx hb dL_loop_0 rfl (lv_at hl9 0 rfl) ?_
  refine lv_iload_n hx hb dL_loop_1 rfl (lv_at hl9 1 rfl) ?_
  refine hp_V (ci := 4) (As := [.int i]) (rest := []) B0 hw hS (c_P_loop_E hl G f xo ez eo bu nw0 na0 nq0 nr0 nw1 na1 nq1 nr1 bs bp bh bf bl bg S0 S1 gw0 ga0 gw1 ga1 n a cg x sa pk fl gv gh gl hC hL0 hL1 i hi) mV_X4_loop qM_L_40 rfl k_xo rfl rfl hl9.1 (Nat.le_of_ble_eq_true rfl) ⟨⟨Nat.le_of_ble_eq_true rfl, Nat.le_of_ble_eq_true rfl⟩, Nat.le_of_ble_eq_true rfl, Nat.le_of_ble_eq_true rfl⟩ dL_loop_2 (fun E ce q9 f1 H locs hPX hw hS hce hcv hcl => ?_) (fun v f1 H locs hP hw hS => ?_)
  · obtain ⟨eE9, hC8, hk8⟩ := hPX
    subst eE9
    refine hp_catch (name := eI) B0 [] _ _ (htab.trans rfl) (fun z hz => nomatch hz) rfl (by decide) qC_L_14 oC_eI hce hcv hcl ?_
    refine W.eq (g2 := F0 m 9 ls [.ref q9]) rfl ?_
    refine lv_astore_n (lv' := [(3, .ref q9), (0, .ref xo), (1, .int i)]) hx hb dL_loop_9 rfl hl9 (by decide) rfl (fun ls hl9 => ?_)
    refine lv_bipush (v := (-71)) hx hb dL_loop_10 (by decide) ?_
    exact hp_iret (v := (-71)) B0 hw hS hr ⟨Nat.le_of_ble_eq_true rfl, Nat.le_of_ble_eq_true rfl⟩ dL_loop_12 (⟨rfl, hC8, hk8⟩)
  · exact hP.elim

set_option maxHeartbeats 4000000 in
set_option maxRecDepth 100000 in
theorem c_V_stateOf_0 {l : Launch} (hl : l.stackTraces = false) (G : hG) (f : hM) (xo ez eo bu nw0 na0 nq0 nr0 nw1 na1 nq1 nr1 bs bp bh bf bl bg : Nat) (S0 : ES) (S1 : ES) (gw0 : Nat → Int32) (ga0 : Nat → Int32) (gw1 : Nat → Int32) (ga1 : Nat → Int32) (n : Nat) (a : Nat) (cg : Nat) (x : Nat) (sa : Nat → Nat) (pk : Nat → Nat) (fl : Nat → Nat) (gv : Nat → Nat) (gh : Nat → Int32) (gl : Nat → Int32) (hC : CXW G f xo ez eo bu nw0 na0 nq0 nr0 nw1 na1 nq1 nr1 bs bp bh bf bl bg S0 S1 gw0 ga0 gw1 ga1 n a cg x sa pk fl gv gh gl) (hL0 : S0.2.2.2.2.2.2.2.2.length < 3000) (hL1 : S1.2.2.2.2.2.2.2.2.length < 3000)  : CT l yL_stateOf (.codeWith yL_stateOf cL_stateOf 4 (some .int) [(0, 6, 9, 14)]) 8 124 1 6 G [.ref xo, .int 0] f (fun v f1 => v = some (.int S0.1) ∧ CXW G f1 xo ez eo bu nw0 na0 nq0 nr0 nw1 na1 nq1 nr1 bs bp bh bf bl bg S0 S1 gw0 ga0 gw1 ga1 n a cg x sa pk fl gv gh gl ∧ hKn [xo, ez, eo, bu, nw0, na0, nq0, nr0, nw1, na1, nq1, nr1, bs, bp, bh, bf, bl, bg] f f1) (fun E f1 => False) := by
  refine hp_startH hl (own := RL) (by decide) rfl (Nat.le_of_ble_eq_true rfl) ?_
  intro p e s m args below meth c B0 hr htab hw hS ls hl9
  have hx := B0.1
  have hb := B0.2.1
  have hl9 : lv_has ls 4 [(0, .ref xo), (1, .int 0)] := hl9
  have k_xo : f xo = some (.inr (4, [.ref ez, .ref eo, .ref bu])) := by obtain ⟨_, _, h9⟩ := hC; exact h9.1
  refine lv_aload_n hx hb dL_stateOf_0 rfl (lv_at hl9 0 rfl) ?_
  refine lv_iload_n hx hb dL_stateOf_1 rfl (lv_at hl9 1 rfl) ?_
  refine hp_V (ci := 4) (As := [.int 0]) (rest := []) B0 hw hS (c_P_stateOf_0 hl G f xo ez eo bu nw0 na0 nq0 nr0 nw1 na1 nq1 nr1 bs bp bh bf bl bg S0 S1 gw0 ga0 gw1 ga1 n a cg x sa pk fl gv gh gl hC hL0 hL1 ) mV_X4_stateOf qM_L_46 rfl k_xo rfl rfl hl9.1 (Nat.le_of_ble_eq_true rfl) ⟨⟨Nat.le_of_ble_eq_true rfl, Nat.le_of_ble_eq_true rfl⟩, Nat.le_of_ble_eq_true rfl, Nat.le_of_ble_eq_true rfl⟩ dL_stateOf_2 (fun E ce q9 f1 H locs hPX hw hS hce hcv hcl => ?_) (fun v f1 H locs hP hw hS => ?_)
  · exact hPX.elim
  · obtain ⟨ev9, hC8, hk8⟩ := hP
    subst ev9
    refine W.eq (g2 := F0 m 5 ls [.int S0.1]) rfl ?_
    refine lv_istore_n (lv' := [(2, .int S0.1), (0, .ref xo), (1, .int 0)]) hx hb dL_stateOf_5 rfl hl9 (by decide) rfl (fun ls hl9 => ?_)
    refine lv_goto (tgt := 13) hx hb dL_stateOf_6 (by decide) ?_
    refine lv_iload_n hx hb dL_stateOf_13 rfl (lv_at hl9 0 rfl) ?_
    exact hp_iret (v := S0.1) B0 hw hS hr ⟨Nat.le_of_ble_eq_true rfl, Nat.le_of_ble_eq_true rfl⟩ dL_stateOf_14 (⟨rfl, hC8, hk8⟩)

set_option maxHeartbeats 4000000 in
set_option maxRecDepth 100000 in
theorem c_V_underWay_0 {l : Launch} (hl : l.stackTraces = false) (G : hG) (f : hM) (xo ez eo bu nw0 na0 nq0 nr0 nw1 na1 nq1 nr1 bs bp bh bf bl bg : Nat) (S0 : ES) (S1 : ES) (gw0 : Nat → Int32) (ga0 : Nat → Int32) (gw1 : Nat → Int32) (ga1 : Nat → Int32) (n : Nat) (a : Nat) (cg : Nat) (x : Nat) (sa : Nat → Nat) (pk : Nat → Nat) (fl : Nat → Nat) (gv : Nat → Nat) (gh : Nat → Int32) (gl : Nat → Int32) (hC : CXW G f xo ez eo bu nw0 na0 nq0 nr0 nw1 na1 nq1 nr1 bs bp bh bf bl bg S0 S1 gw0 ga0 gw1 ga1 n a cg x sa pk fl gv gh gl) (hL0 : S0.2.2.2.2.2.2.2.2.length < 3000) (hL1 : S1.2.2.2.2.2.2.2.2.length < 3000)  : CT l yL_underWay (.codeWith yL_underWay cL_underWay 4 (some .int) [(0, 6, 9, 14)]) 8 124 1 6 G [.ref xo, .int 0] f (fun v f1 => v = some (.int (nI S0.2.2.2.2.2.2.2.2.length)) ∧ CXW G f1 xo ez eo bu nw0 na0 nq0 nr0 nw1 na1 nq1 nr1 bs bp bh bf bl bg S0 S1 gw0 ga0 gw1 ga1 n a cg x sa pk fl gv gh gl ∧ hKn [xo, ez, eo, bu, nw0, na0, nq0, nr0, nw1, na1, nq1, nr1, bs, bp, bh, bf, bl, bg] f f1) (fun E f1 => False) := by
  refine hp_startH hl (own := RL) (by decide) rfl (Nat.le_of_ble_eq_true rfl) ?_
  intro p e s m args below meth c B0 hr htab hw hS ls hl9
  have hx := B0.1
  have hb := B0.2.1
  have hl9 : lv_has ls 4 [(0, .ref xo), (1, .int 0)] := hl9
  have k_xo : f xo = some (.inr (4, [.ref ez, .ref eo, .ref bu])) := by obtain ⟨_, _, h9⟩ := hC; exact h9.1
  refine lv_aload_n hx hb dL_underWay_0 rfl (lv_at hl9 0 rfl) ?_
  refine lv_iload_n hx hb dL_underWay_1 rfl (lv_at hl9 1 rfl) ?_
  refine hp_V (ci := 4) (As := [.int 0]) (rest := []) B0 hw hS (c_P_underWay_0 hl G f xo ez eo bu nw0 na0 nq0 nr0 nw1 na1 nq1 nr1 bs bp bh bf bl bg S0 S1 gw0 ga0 gw1 ga1 n a cg x sa pk fl gv gh gl hC hL0 hL1 ) mV_X4_underWay qM_L_52 rfl k_xo rfl rfl hl9.1 (Nat.le_of_ble_eq_true rfl) ⟨⟨Nat.le_of_ble_eq_true rfl, Nat.le_of_ble_eq_true rfl⟩, Nat.le_of_ble_eq_true rfl, Nat.le_of_ble_eq_true rfl⟩ dL_underWay_2 (fun E ce q9 f1 H locs hPX hw hS hce hcv hcl => ?_) (fun v f1 H locs hP hw hS => ?_)
  · exact hPX.elim
  · obtain ⟨ev9, hC8, hk8⟩ := hP
    subst ev9
    refine W.eq (g2 := F0 m 5 ls [.int (nI S0.2.2.2.2.2.2.2.2.length)]) rfl ?_
    refine lv_istore_n (lv' := [(2, .int (nI S0.2.2.2.2.2.2.2.2.length)), (0, .ref xo), (1, .int 0)]) hx hb dL_underWay_5 rfl hl9 (by decide) rfl (fun ls hl9 => ?_)
    refine lv_goto (tgt := 13) hx hb dL_underWay_6 (by decide) ?_
    refine lv_iload_n hx hb dL_underWay_13 rfl (lv_at hl9 0 rfl) ?_
    exact hp_iret (v := (nI S0.2.2.2.2.2.2.2.2.length)) B0 hw hS hr ⟨Nat.le_of_ble_eq_true rfl, Nat.le_of_ble_eq_true rfl⟩ dL_underWay_14 (⟨rfl, hC8, hk8⟩)

set_option maxHeartbeats 4000000 in
set_option maxRecDepth 100000 in
theorem c_V_asked_0 {l : Launch} (hl : l.stackTraces = false) (G : hG) (f : hM) (xo ez eo bu nw0 na0 nq0 nr0 nw1 na1 nq1 nr1 bs bp bh bf bl bg : Nat) (S0 : ES) (S1 : ES) (gw0 : Nat → Int32) (ga0 : Nat → Int32) (gw1 : Nat → Int32) (ga1 : Nat → Int32) (n : Nat) (a : Nat) (cg : Nat) (x : Nat) (sa : Nat → Nat) (pk : Nat → Nat) (fl : Nat → Nat) (gv : Nat → Nat) (gh : Nat → Int32) (gl : Nat → Int32) (hC : CXW G f xo ez eo bu nw0 na0 nq0 nr0 nw1 na1 nq1 nr1 bs bp bh bf bl bg S0 S1 gw0 ga0 gw1 ga1 n a cg x sa pk fl gv gh gl) (hL0 : S0.2.2.2.2.2.2.2.2.length < 3000) (hL1 : S1.2.2.2.2.2.2.2.2.length < 3000) (j : Nat) (hj : j < 6) : CT l yL_asked (.codeWith yL_asked cL_asked 5 (some .int) [(0, 7, 10, 14)]) 8 126 2 12 G [.ref xo, .int 0, .int (nI j)] f (fun v f1 => v = some (.int (S0.2.2.2.2.2.2.2.1 j)) ∧ CXW G f1 xo ez eo bu nw0 na0 nq0 nr0 nw1 na1 nq1 nr1 bs bp bh bf bl bg S0 S1 gw0 ga0 gw1 ga1 n a cg x sa pk fl gv gh gl ∧ hKn [xo, ez, eo, bu, nw0, na0, nq0, nr0, nw1, na1, nq1, nr1, bs, bp, bh, bf, bl, bg] f f1) (fun E f1 => False) := by
  refine hp_startH hl (own := RL) (by decide) rfl (Nat.le_of_ble_eq_true rfl) ?_
  intro p e s m args below meth c B0 hr htab hw hS ls hl9
  have hx := B0.1
  have hb := B0.2.1
  have hl9 : lv_has ls 5 [(0, .ref xo), (1, .int 0), (2, .int (nI j))] := hl9
  have k_xo : f xo = some (.inr (4, [.ref ez, .ref eo, .ref bu])) := by obtain ⟨_, _, h9⟩ := hC; exact h9.1
  refine lv_aload_n hx hb dL_asked_0 rfl (lv_at hl9 0 rfl) ?_
  refine lv_iload_n hx hb dL_asked_1 rfl (lv_at hl9 1 rfl) ?_
  refine lv_iload_n hx hb dL_asked_2 rfl (lv_at hl9 2 rfl) ?_
  refine hp_V (ci := 4) (As := [.int 0, .int (nI j)]) (rest := []) B0 hw hS (c_P_asked_0 hl G f xo ez eo bu nw0 na0 nq0 nr0 nw1 na1 nq1 nr1 bs bp bh bf bl bg S0 S1 gw0 ga0 gw1 ga1 n a cg x sa pk fl gv gh gl hC hL0 hL1 j hj) mV_X4_asked qM_L_49 rfl k_xo rfl rfl hl9.1 (Nat.le_of_ble_eq_true rfl) ⟨⟨Nat.le_of_ble_eq_true rfl, Nat.le_of_ble_eq_true rfl⟩, Nat.le_of_ble_eq_true rfl, Nat.le_of_ble_eq_true rfl⟩ dL_asked_3 (fun E ce q9 f1 H locs hPX hw hS hce hcv hcl => ?_) (fun v f1 H locs hP hw hS => ?_)
  · exact hPX.elim
  · obtain ⟨ev9, hC8, hk8⟩ := hP
    subst ev9
    refine W.eq (g2 := F0 m 6 ls [.int (S0.2.2.2.2.2.2.2.1 j)]) rfl ?_
    refine lv_istore_n (lv' := [(3, .int (S0.2.2.2.2.2.2.2.1 j)), (0, .ref xo), (1, .int 0), (2, .int (nI j))]) hx hb dL_asked_6 rfl hl9 (by decide) rfl (fun ls hl9 => ?_)
    refine lv_goto (tgt := 15) hx hb dL_asked_7 (by decide) ?_
    refine lv_iload_n hx hb dL_asked_15 rfl (lv_at hl9 0 rfl) ?_
    exact hp_iret (v := (S0.2.2.2.2.2.2.2.1 j)) B0 hw hS hr ⟨Nat.le_of_ble_eq_true rfl, Nat.le_of_ble_eq_true rfl⟩ dL_asked_16 (⟨rfl, hC8, hk8⟩)

set_option maxHeartbeats 4000000 in
set_option maxRecDepth 100000 in
theorem c_V_asked_O0 {l : Launch} (hl : l.stackTraces = false) (G : hG) (f : hM) (xo ez eo bu nw0 na0 nq0 nr0 nw1 na1 nq1 nr1 bs bp bh bf bl bg : Nat) (S0 : ES) (S1 : ES) (gw0 : Nat → Int32) (ga0 : Nat → Int32) (gw1 : Nat → Int32) (ga1 : Nat → Int32) (n : Nat) (a : Nat) (cg : Nat) (x : Nat) (sa : Nat → Nat) (pk : Nat → Nat) (fl : Nat → Nat) (gv : Nat → Nat) (gh : Nat → Int32) (gl : Nat → Int32) (hC : CXW G f xo ez eo bu nw0 na0 nq0 nr0 nw1 na1 nq1 nr1 bs bp bh bf bl bg S0 S1 gw0 ga0 gw1 ga1 n a cg x sa pk fl gv gh gl) (hL0 : S0.2.2.2.2.2.2.2.2.length < 3000) (hL1 : S1.2.2.2.2.2.2.2.2.length < 3000) (o : Int32) (ho : ¬ sO o) : CT l yL_asked (.codeWith yL_asked cL_asked 5 (some .int) [(0, 7, 10, 14)]) 8 126 2 12 G [.ref xo, .int 0, .int o] f (fun v f1 => v = some (.int (-71)) ∧ CXW G f1 xo ez eo bu nw0 na0 nq0 nr0 nw1 na1 nq1 nr1 bs bp bh bf bl bg S0 S1 gw0 ga0 gw1 ga1 n a cg x sa pk fl gv gh gl ∧ hKn [xo, ez, eo, bu, nw0, na0, nq0, nr0, nw1, na1, nq1, nr1, bs, bp, bh, bf, bl, bg] f f1) (fun E f1 => False) := by
  refine hp_startH hl (own := RL) (by decide) rfl (Nat.le_of_ble_eq_true rfl) ?_
  intro p e s m args below meth c B0 hr htab hw hS ls hl9
  have hx := B0.1
  have hb := B0.2.1
  have hl9 : lv_has ls 5 [(0, .ref xo), (1, .int 0), (2, .int o)] := hl9
  have k_xo : f xo = some (.inr (4, [.ref ez, .ref eo, .ref bu])) := by obtain ⟨_, _, h9⟩ := hC; exact h9.1
  refine lv_aload_n hx hb dL_asked_0 rfl (lv_at hl9 0 rfl) ?_
  refine lv_iload_n hx hb dL_asked_1 rfl (lv_at hl9 1 rfl) ?_
  refine lv_iload_n hx hb dL_asked_2 rfl (lv_at hl9 2 rfl) ?_
  refine hp_V (ci := 4) (As := [.int 0, .int o]) (rest := []) B0 hw hS (c_P_asked_O0 hl G f xo ez eo bu nw0 na0 nq0 nr0 nw1 na1 nq1 nr1 bs bp bh bf bl bg S0 S1 gw0 ga0 gw1 ga1 n a cg x sa pk fl gv gh gl hC hL0 hL1 o ho) mV_X4_asked qM_L_49 rfl k_xo rfl rfl hl9.1 (Nat.le_of_ble_eq_true rfl) ⟨⟨Nat.le_of_ble_eq_true rfl, Nat.le_of_ble_eq_true rfl⟩, Nat.le_of_ble_eq_true rfl, Nat.le_of_ble_eq_true rfl⟩ dL_asked_3 (fun E ce q9 f1 H locs hPX hw hS hce hcv hcl => ?_) (fun v f1 H locs hP hw hS => ?_)
  · obtain ⟨eE9, hC8, hk8⟩ := hPX
    subst eE9
    refine hp_catch (name := eI) B0 [] _ _ (htab.trans rfl) (fun z hz => nomatch hz) rfl (by decide) qC_L_14 oC_eI hce hcv hcl ?_
    refine W.eq (g2 := F0 m 10 ls [.ref q9]) rfl ?_
    refine lv_astore (lv' := [(4, .ref q9), (0, .ref xo), (1, .int 0), (2, .int o)]) hx hb dL_asked_10 hl9 (by decide) rfl (fun ls hl9 => ?_)
    refine lv_bipush (v := (-71)) hx hb dL_asked_12 (by decide) ?_
    exact hp_iret (v := (-71)) B0 hw hS hr ⟨Nat.le_of_ble_eq_true rfl, Nat.le_of_ble_eq_true rfl⟩ dL_asked_14 (⟨rfl, hC8, hk8⟩)
  · exact hP.elim

set_option maxHeartbeats 4000000 in
set_option maxRecDepth 100000 in
theorem c_V_stateOf_1 {l : Launch} (hl : l.stackTraces = false) (G : hG) (f : hM) (xo ez eo bu nw0 na0 nq0 nr0 nw1 na1 nq1 nr1 bs bp bh bf bl bg : Nat) (S0 : ES) (S1 : ES) (gw0 : Nat → Int32) (ga0 : Nat → Int32) (gw1 : Nat → Int32) (ga1 : Nat → Int32) (n : Nat) (a : Nat) (cg : Nat) (x : Nat) (sa : Nat → Nat) (pk : Nat → Nat) (fl : Nat → Nat) (gv : Nat → Nat) (gh : Nat → Int32) (gl : Nat → Int32) (hC : CXW G f xo ez eo bu nw0 na0 nq0 nr0 nw1 na1 nq1 nr1 bs bp bh bf bl bg S0 S1 gw0 ga0 gw1 ga1 n a cg x sa pk fl gv gh gl) (hL0 : S0.2.2.2.2.2.2.2.2.length < 3000) (hL1 : S1.2.2.2.2.2.2.2.2.length < 3000)  : CT l yL_stateOf (.codeWith yL_stateOf cL_stateOf 4 (some .int) [(0, 6, 9, 14)]) 8 124 1 6 G [.ref xo, .int 1] f (fun v f1 => v = some (.int S1.1) ∧ CXW G f1 xo ez eo bu nw0 na0 nq0 nr0 nw1 na1 nq1 nr1 bs bp bh bf bl bg S0 S1 gw0 ga0 gw1 ga1 n a cg x sa pk fl gv gh gl ∧ hKn [xo, ez, eo, bu, nw0, na0, nq0, nr0, nw1, na1, nq1, nr1, bs, bp, bh, bf, bl, bg] f f1) (fun E f1 => False) := by
  refine hp_startH hl (own := RL) (by decide) rfl (Nat.le_of_ble_eq_true rfl) ?_
  intro p e s m args below meth c B0 hr htab hw hS ls hl9
  have hx := B0.1
  have hb := B0.2.1
  have hl9 : lv_has ls 4 [(0, .ref xo), (1, .int 1)] := hl9
  have k_xo : f xo = some (.inr (4, [.ref ez, .ref eo, .ref bu])) := by obtain ⟨_, _, h9⟩ := hC; exact h9.1
  refine lv_aload_n hx hb dL_stateOf_0 rfl (lv_at hl9 0 rfl) ?_
  refine lv_iload_n hx hb dL_stateOf_1 rfl (lv_at hl9 1 rfl) ?_
  refine hp_V (ci := 4) (As := [.int 1]) (rest := []) B0 hw hS (c_P_stateOf_1 hl G f xo ez eo bu nw0 na0 nq0 nr0 nw1 na1 nq1 nr1 bs bp bh bf bl bg S0 S1 gw0 ga0 gw1 ga1 n a cg x sa pk fl gv gh gl hC hL0 hL1 ) mV_X4_stateOf qM_L_46 rfl k_xo rfl rfl hl9.1 (Nat.le_of_ble_eq_true rfl) ⟨⟨Nat.le_of_ble_eq_true rfl, Nat.le_of_ble_eq_true rfl⟩, Nat.le_of_ble_eq_true rfl, Nat.le_of_ble_eq_true rfl⟩ dL_stateOf_2 (fun E ce q9 f1 H locs hPX hw hS hce hcv hcl => ?_) (fun v f1 H locs hP hw hS => ?_)
  · exact hPX.elim
  · obtain ⟨ev9, hC8, hk8⟩ := hP
    subst ev9
    refine W.eq (g2 := F0 m 5 ls [.int S1.1]) rfl ?_
    refine lv_istore_n (lv' := [(2, .int S1.1), (0, .ref xo), (1, .int 1)]) hx hb dL_stateOf_5 rfl hl9 (by decide) rfl (fun ls hl9 => ?_)
    refine lv_goto (tgt := 13) hx hb dL_stateOf_6 (by decide) ?_
    refine lv_iload_n hx hb dL_stateOf_13 rfl (lv_at hl9 0 rfl) ?_
    exact hp_iret (v := S1.1) B0 hw hS hr ⟨Nat.le_of_ble_eq_true rfl, Nat.le_of_ble_eq_true rfl⟩ dL_stateOf_14 (⟨rfl, hC8, hk8⟩)

set_option maxHeartbeats 4000000 in
set_option maxRecDepth 100000 in
theorem c_V_underWay_1 {l : Launch} (hl : l.stackTraces = false) (G : hG) (f : hM) (xo ez eo bu nw0 na0 nq0 nr0 nw1 na1 nq1 nr1 bs bp bh bf bl bg : Nat) (S0 : ES) (S1 : ES) (gw0 : Nat → Int32) (ga0 : Nat → Int32) (gw1 : Nat → Int32) (ga1 : Nat → Int32) (n : Nat) (a : Nat) (cg : Nat) (x : Nat) (sa : Nat → Nat) (pk : Nat → Nat) (fl : Nat → Nat) (gv : Nat → Nat) (gh : Nat → Int32) (gl : Nat → Int32) (hC : CXW G f xo ez eo bu nw0 na0 nq0 nr0 nw1 na1 nq1 nr1 bs bp bh bf bl bg S0 S1 gw0 ga0 gw1 ga1 n a cg x sa pk fl gv gh gl) (hL0 : S0.2.2.2.2.2.2.2.2.length < 3000) (hL1 : S1.2.2.2.2.2.2.2.2.length < 3000)  : CT l yL_underWay (.codeWith yL_underWay cL_underWay 4 (some .int) [(0, 6, 9, 14)]) 8 124 1 6 G [.ref xo, .int 1] f (fun v f1 => v = some (.int (nI S1.2.2.2.2.2.2.2.2.length)) ∧ CXW G f1 xo ez eo bu nw0 na0 nq0 nr0 nw1 na1 nq1 nr1 bs bp bh bf bl bg S0 S1 gw0 ga0 gw1 ga1 n a cg x sa pk fl gv gh gl ∧ hKn [xo, ez, eo, bu, nw0, na0, nq0, nr0, nw1, na1, nq1, nr1, bs, bp, bh, bf, bl, bg] f f1) (fun E f1 => False) := by
  refine hp_startH hl (own := RL) (by decide) rfl (Nat.le_of_ble_eq_true rfl) ?_
  intro p e s m args below meth c B0 hr htab hw hS ls hl9
  have hx := B0.1
  have hb := B0.2.1
  have hl9 : lv_has ls 4 [(0, .ref xo), (1, .int 1)] := hl9
  have k_xo : f xo = some (.inr (4, [.ref ez, .ref eo, .ref bu])) := by obtain ⟨_, _, h9⟩ := hC; exact h9.1
  refine lv_aload_n hx hb dL_underWay_0 rfl (lv_at hl9 0 rfl) ?_
  refine lv_iload_n hx hb dL_underWay_1 rfl (lv_at hl9 1 rfl) ?_
  refine hp_V (ci := 4) (As := [.int 1]) (rest := []) B0 hw hS (c_P_underWay_1 hl G f xo ez eo bu nw0 na0 nq0 nr0 nw1 na1 nq1 nr1 bs bp bh bf bl bg S0 S1 gw0 ga0 gw1 ga1 n a cg x sa pk fl gv gh gl hC hL0 hL1 ) mV_X4_underWay qM_L_52 rfl k_xo rfl rfl hl9.1 (Nat.le_of_ble_eq_true rfl) ⟨⟨Nat.le_of_ble_eq_true rfl, Nat.le_of_ble_eq_true rfl⟩, Nat.le_of_ble_eq_true rfl, Nat.le_of_ble_eq_true rfl⟩ dL_underWay_2 (fun E ce q9 f1 H locs hPX hw hS hce hcv hcl => ?_) (fun v f1 H locs hP hw hS => ?_)
  · exact hPX.elim
  · obtain ⟨ev9, hC8, hk8⟩ := hP
    subst ev9
    refine W.eq (g2 := F0 m 5 ls [.int (nI S1.2.2.2.2.2.2.2.2.length)]) rfl ?_
    refine lv_istore_n (lv' := [(2, .int (nI S1.2.2.2.2.2.2.2.2.length)), (0, .ref xo), (1, .int 1)]) hx hb dL_underWay_5 rfl hl9 (by decide) rfl (fun ls hl9 => ?_)
    refine lv_goto (tgt := 13) hx hb dL_underWay_6 (by decide) ?_
    refine lv_iload_n hx hb dL_underWay_13 rfl (lv_at hl9 0 rfl) ?_
    exact hp_iret (v := (nI S1.2.2.2.2.2.2.2.2.length)) B0 hw hS hr ⟨Nat.le_of_ble_eq_true rfl, Nat.le_of_ble_eq_true rfl⟩ dL_underWay_14 (⟨rfl, hC8, hk8⟩)

set_option maxHeartbeats 4000000 in
set_option maxRecDepth 100000 in
theorem c_V_asked_1 {l : Launch} (hl : l.stackTraces = false) (G : hG) (f : hM) (xo ez eo bu nw0 na0 nq0 nr0 nw1 na1 nq1 nr1 bs bp bh bf bl bg : Nat) (S0 : ES) (S1 : ES) (gw0 : Nat → Int32) (ga0 : Nat → Int32) (gw1 : Nat → Int32) (ga1 : Nat → Int32) (n : Nat) (a : Nat) (cg : Nat) (x : Nat) (sa : Nat → Nat) (pk : Nat → Nat) (fl : Nat → Nat) (gv : Nat → Nat) (gh : Nat → Int32) (gl : Nat → Int32) (hC : CXW G f xo ez eo bu nw0 na0 nq0 nr0 nw1 na1 nq1 nr1 bs bp bh bf bl bg S0 S1 gw0 ga0 gw1 ga1 n a cg x sa pk fl gv gh gl) (hL0 : S0.2.2.2.2.2.2.2.2.length < 3000) (hL1 : S1.2.2.2.2.2.2.2.2.length < 3000) (j : Nat) (hj : j < 6) : CT l yL_asked (.codeWith yL_asked cL_asked 5 (some .int) [(0, 7, 10, 14)]) 8 126 2 12 G [.ref xo, .int 1, .int (nI j)] f (fun v f1 => v = some (.int (S1.2.2.2.2.2.2.2.1 j)) ∧ CXW G f1 xo ez eo bu nw0 na0 nq0 nr0 nw1 na1 nq1 nr1 bs bp bh bf bl bg S0 S1 gw0 ga0 gw1 ga1 n a cg x sa pk fl gv gh gl ∧ hKn [xo, ez, eo, bu, nw0, na0, nq0, nr0, nw1, na1, nq1, nr1, bs, bp, bh, bf, bl, bg] f f1) (fun E f1 => False) := by
  refine hp_startH hl (own := RL) (by decide) rfl (Nat.le_of_ble_eq_true rfl) ?_
  intro p e s m args below meth c B0 hr htab hw hS ls hl9
  have hx := B0.1
  have hb := B0.2.1
  have hl9 : lv_has ls 5 [(0, .ref xo), (1, .int 1), (2, .int (nI j))] := hl9
  have k_xo : f xo = some (.inr (4, [.ref ez, .ref eo, .ref bu])) := by obtain ⟨_, _, h9⟩ := hC; exact h9.1
  refine lv_aload_n hx hb dL_asked_0 rfl (lv_at hl9 0 rfl) ?_
  refine lv_iload_n hx hb dL_asked_1 rfl (lv_at hl9 1 rfl) ?_
  refine lv_iload_n hx hb dL_asked_2 rfl (lv_at hl9 2 rfl) ?_
  refine hp_V (ci := 4) (As := [.int 1, .int (nI j)]) (rest := []) B0 hw hS (c_P_asked_1 hl G f xo ez eo bu nw0 na0 nq0 nr0 nw1 na1 nq1 nr1 bs bp bh bf bl bg S0 S1 gw0 ga0 gw1 ga1 n a cg x sa pk fl gv gh gl hC hL0 hL1 j hj) mV_X4_asked qM_L_49 rfl k_xo rfl rfl hl9.1 (Nat.le_of_ble_eq_true rfl) ⟨⟨Nat.le_of_ble_eq_true rfl, Nat.le_of_ble_eq_true rfl⟩, Nat.le_of_ble_eq_true rfl, Nat.le_of_ble_eq_true rfl⟩ dL_asked_3 (fun E ce q9 f1 H locs hPX hw hS hce hcv hcl => ?_) (fun v f1 H locs hP hw hS => ?_)
  · exact hPX.elim
  · obtain ⟨ev9, hC8, hk8⟩ := hP
    subst ev9
    refine W.eq (g2 := F0 m 6 ls [.int (S1.2.2.2.2.2.2.2.1 j)]) rfl ?_
    refine lv_istore_n (lv' := [(3, .int (S1.2.2.2.2.2.2.2.1 j)), (0, .ref xo), (1, .int 1), (2, .int (nI j))]) hx hb dL_asked_6 rfl hl9 (by decide) rfl (fun ls hl9 => ?_)
    refine lv_goto (tgt := 15) hx hb dL_asked_7 (by decide) ?_
    refine lv_iload_n hx hb dL_asked_15 rfl (lv_at hl9 0 rfl) ?_
    exact hp_iret (v := (S1.2.2.2.2.2.2.2.1 j)) B0 hw hS hr ⟨Nat.le_of_ble_eq_true rfl, Nat.le_of_ble_eq_true rfl⟩ dL_asked_16 (⟨rfl, hC8, hk8⟩)

set_option maxHeartbeats 4000000 in
set_option maxRecDepth 100000 in
theorem c_V_asked_O1 {l : Launch} (hl : l.stackTraces = false) (G : hG) (f : hM) (xo ez eo bu nw0 na0 nq0 nr0 nw1 na1 nq1 nr1 bs bp bh bf bl bg : Nat) (S0 : ES) (S1 : ES) (gw0 : Nat → Int32) (ga0 : Nat → Int32) (gw1 : Nat → Int32) (ga1 : Nat → Int32) (n : Nat) (a : Nat) (cg : Nat) (x : Nat) (sa : Nat → Nat) (pk : Nat → Nat) (fl : Nat → Nat) (gv : Nat → Nat) (gh : Nat → Int32) (gl : Nat → Int32) (hC : CXW G f xo ez eo bu nw0 na0 nq0 nr0 nw1 na1 nq1 nr1 bs bp bh bf bl bg S0 S1 gw0 ga0 gw1 ga1 n a cg x sa pk fl gv gh gl) (hL0 : S0.2.2.2.2.2.2.2.2.length < 3000) (hL1 : S1.2.2.2.2.2.2.2.2.length < 3000) (o : Int32) (ho : ¬ sO o) : CT l yL_asked (.codeWith yL_asked cL_asked 5 (some .int) [(0, 7, 10, 14)]) 8 126 2 12 G [.ref xo, .int 1, .int o] f (fun v f1 => v = some (.int (-71)) ∧ CXW G f1 xo ez eo bu nw0 na0 nq0 nr0 nw1 na1 nq1 nr1 bs bp bh bf bl bg S0 S1 gw0 ga0 gw1 ga1 n a cg x sa pk fl gv gh gl ∧ hKn [xo, ez, eo, bu, nw0, na0, nq0, nr0, nw1, na1, nq1, nr1, bs, bp, bh, bf, bl, bg] f f1) (fun E f1 => False) := by
  refine hp_startH hl (own := RL) (by decide) rfl (Nat.le_of_ble_eq_true rfl) ?_
  intro p e s m args below meth c B0 hr htab hw hS ls hl9
  have hx := B0.1
  have hb := B0.2.1
  have hl9 : lv_has ls 5 [(0, .ref xo), (1, .int 1), (2, .int o)] := hl9
  have k_xo : f xo = some (.inr (4, [.ref ez, .ref eo, .ref bu])) := by obtain ⟨_, _, h9⟩ := hC; exact h9.1
  refine lv_aload_n hx hb dL_asked_0 rfl (lv_at hl9 0 rfl) ?_
  refine lv_iload_n hx hb dL_asked_1 rfl (lv_at hl9 1 rfl) ?_
  refine lv_iload_n hx hb dL_asked_2 rfl (lv_at hl9 2 rfl) ?_
  refine hp_V (ci := 4) (As := [.int 1, .int o]) (rest := []) B0 hw hS (c_P_asked_O1 hl G f xo ez eo bu nw0 na0 nq0 nr0 nw1 na1 nq1 nr1 bs bp bh bf bl bg S0 S1 gw0 ga0 gw1 ga1 n a cg x sa pk fl gv gh gl hC hL0 hL1 o ho) mV_X4_asked qM_L_49 rfl k_xo rfl rfl hl9.1 (Nat.le_of_ble_eq_true rfl) ⟨⟨Nat.le_of_ble_eq_true rfl, Nat.le_of_ble_eq_true rfl⟩, Nat.le_of_ble_eq_true rfl, Nat.le_of_ble_eq_true rfl⟩ dL_asked_3 (fun E ce q9 f1 H locs hPX hw hS hce hcv hcl => ?_) (fun v f1 H locs hP hw hS => ?_)
  · obtain ⟨eE9, hC8, hk8⟩ := hPX
    subst eE9
    refine hp_catch (name := eI) B0 [] _ _ (htab.trans rfl) (fun z hz => nomatch hz) rfl (by decide) qC_L_14 oC_eI hce hcv hcl ?_
    refine W.eq (g2 := F0 m 10 ls [.ref q9]) rfl ?_
    refine lv_astore (lv' := [(4, .ref q9), (0, .ref xo), (1, .int 1), (2, .int o)]) hx hb dL_asked_10 hl9 (by decide) rfl (fun ls hl9 => ?_)
    refine lv_bipush (v := (-71)) hx hb dL_asked_12 (by decide) ?_
    exact hp_iret (v := (-71)) B0 hw hS hr ⟨Nat.le_of_ble_eq_true rfl, Nat.le_of_ble_eq_true rfl⟩ dL_asked_14 (⟨rfl, hC8, hk8⟩)
  · exact hP.elim

set_option maxHeartbeats 4000000 in
set_option maxRecDepth 100000 in
theorem c_V_stateOf_E {l : Launch} (hl : l.stackTraces = false) (G : hG) (f : hM) (xo ez eo bu nw0 na0 nq0 nr0 nw1 na1 nq1 nr1 bs bp bh bf bl bg : Nat) (S0 : ES) (S1 : ES) (gw0 : Nat → Int32) (ga0 : Nat → Int32) (gw1 : Nat → Int32) (ga1 : Nat → Int32) (n : Nat) (a : Nat) (cg : Nat) (x : Nat) (sa : Nat → Nat) (pk : Nat → Nat) (fl : Nat → Nat) (gv : Nat → Nat) (gh : Nat → Int32) (gl : Nat → Int32) (hC : CXW G f xo ez eo bu nw0 na0 nq0 nr0 nw1 na1 nq1 nr1 bs bp bh bf bl bg S0 S1 gw0 ga0 gw1 ga1 n a cg x sa pk fl gv gh gl) (hL0 : S0.2.2.2.2.2.2.2.2.length < 3000) (hL1 : S1.2.2.2.2.2.2.2.2.length < 3000) (i : Int32) (hi : ¬ sE i) : CT l yL_stateOf (.codeWith yL_stateOf cL_stateOf 4 (some .int) [(0, 6, 9, 14)]) 8 124 1 6 G [.ref xo, .int i] f (fun v f1 => v = some (.int (-71)) ∧ CXW G f1 xo ez eo bu nw0 na0 nq0 nr0 nw1 na1 nq1 nr1 bs bp bh bf bl bg S0 S1 gw0 ga0 gw1 ga1 n a cg x sa pk fl gv gh gl ∧ hKn [xo, ez, eo, bu, nw0, na0, nq0, nr0, nw1, na1, nq1, nr1, bs, bp, bh, bf, bl, bg] f f1) (fun E f1 => False) := by
  refine hp_startH hl (own := RL) (by decide) rfl (Nat.le_of_ble_eq_true rfl) ?_
  intro p e s m args below meth c B0 hr htab hw hS ls hl9
  have hx := B0.1
  have hb := B0.2.1
  have hl9 : lv_has ls 4 [(0, .ref xo), (1, .int i)] := hl9
  have k_xo : f xo = some (.inr (4, [.ref ez, .ref eo, .ref bu])) := by obtain ⟨_, _, h9⟩ := hC; exact h9.1
  refine lv_aload_n hx hb dL_stateOf_0 rfl (lv_at hl9 0 rfl) ?_
  refine lv_iload_n hx hb dL_stateOf_1 rfl (lv_at hl9 1 rfl) ?_
  refine hp_V (ci := 4) (As := [.int i]) (rest := []) B0 hw hS (c_P_stateOf_E hl G f xo ez eo bu nw0 na0 nq0 nr0 nw1 na1 nq1 nr1 bs bp bh bf bl bg S0 S1 gw0 ga0 gw1 ga1 n a cg x sa pk fl gv gh gl hC hL0 hL1 i hi) mV_X4_stateOf qM_L_46 rfl k_xo rfl rfl hl9.1 (Nat.le_of_ble_eq_true rfl) ⟨⟨Nat.le_of_ble_eq_true rfl, Nat.le_of_ble_eq_true rfl⟩, Nat.le_of_ble_eq_true rfl, Nat.le_of_ble_eq_true rfl⟩ dL_stateOf_2 (fun E ce q9 f1 H locs hPX hw hS hce hcv hcl => ?_) (fun v f1 H locs hP hw hS => ?_)
  · obtain ⟨eE9, hC8, hk8⟩ := hPX
    subst eE9
    refine hp_catch (name := eI) B0 [] _ _ (htab.trans rfl) (fun z hz => nomatch hz) rfl (by decide) qC_L_14 oC_eI hce hcv hcl ?_
    refine W.eq (g2 := F0 m 9 ls [.ref q9]) rfl ?_
    refine lv_astore_n (lv' := [(3, .ref q9), (0, .ref xo), (1, .int i)]) hx hb dL_stateOf_9 rfl hl9 (by decide) rfl (fun ls hl9 => ?_)
    refine lv_bipush (v := (-71)) hx hb dL_stateOf_10 (by decide) ?_
    exact hp_iret (v := (-71)) B0 hw hS hr ⟨Nat.le_of_ble_eq_true rfl, Nat.le_of_ble_eq_true rfl⟩ dL_stateOf_12 (⟨rfl, hC8, hk8⟩)
  · exact hP.elim

set_option maxHeartbeats 4000000 in
set_option maxRecDepth 100000 in
theorem c_V_underWay_E {l : Launch} (hl : l.stackTraces = false) (G : hG) (f : hM) (xo ez eo bu nw0 na0 nq0 nr0 nw1 na1 nq1 nr1 bs bp bh bf bl bg : Nat) (S0 : ES) (S1 : ES) (gw0 : Nat → Int32) (ga0 : Nat → Int32) (gw1 : Nat → Int32) (ga1 : Nat → Int32) (n : Nat) (a : Nat) (cg : Nat) (x : Nat) (sa : Nat → Nat) (pk : Nat → Nat) (fl : Nat → Nat) (gv : Nat → Nat) (gh : Nat → Int32) (gl : Nat → Int32) (hC : CXW G f xo ez eo bu nw0 na0 nq0 nr0 nw1 na1 nq1 nr1 bs bp bh bf bl bg S0 S1 gw0 ga0 gw1 ga1 n a cg x sa pk fl gv gh gl) (hL0 : S0.2.2.2.2.2.2.2.2.length < 3000) (hL1 : S1.2.2.2.2.2.2.2.2.length < 3000) (i : Int32) (hi : ¬ sE i) : CT l yL_underWay (.codeWith yL_underWay cL_underWay 4 (some .int) [(0, 6, 9, 14)]) 8 124 1 6 G [.ref xo, .int i] f (fun v f1 => v = some (.int (-71)) ∧ CXW G f1 xo ez eo bu nw0 na0 nq0 nr0 nw1 na1 nq1 nr1 bs bp bh bf bl bg S0 S1 gw0 ga0 gw1 ga1 n a cg x sa pk fl gv gh gl ∧ hKn [xo, ez, eo, bu, nw0, na0, nq0, nr0, nw1, na1, nq1, nr1, bs, bp, bh, bf, bl, bg] f f1) (fun E f1 => False) := by
  refine hp_startH hl (own := RL) (by decide) rfl (Nat.le_of_ble_eq_true rfl) ?_
  intro p e s m args below meth c B0 hr htab hw hS ls hl9
  have hx := B0.1
  have hb := B0.2.1
  have hl9 : lv_has ls 4 [(0, .ref xo), (1, .int i)] := hl9
  have k_xo : f xo = some (.inr (4, [.ref ez, .ref eo, .ref bu])) := by obtain ⟨_, _, h9⟩ := hC; exact h9.1
  refine lv_aload_n hx hb dL_underWay_0 rfl (lv_at hl9 0 rfl) ?_
  refine lv_iload_n hx hb dL_underWay_1 rfl (lv_at hl9 1 rfl) ?_
  refine hp_V (ci := 4) (As := [.int i]) (rest := []) B0 hw hS (c_P_underWay_E hl G f xo ez eo bu nw0 na0 nq0 nr0 nw1 na1 nq1 nr1 bs bp bh bf bl bg S0 S1 gw0 ga0 gw1 ga1 n a cg x sa pk fl gv gh gl hC hL0 hL1 i hi) mV_X4_underWay qM_L_52 rfl k_xo rfl rfl hl9.1 (Nat.le_of_ble_eq_true rfl) ⟨⟨Nat.le_of_ble_eq_true rfl, Nat.le_of_ble_eq_true rfl⟩, Nat.le_of_ble_eq_true rfl, Nat.le_of_ble_eq_true rfl⟩ dL_underWay_2 (fun E ce q9 f1 H locs hPX hw hS hce hcv hcl => ?_) (fun v f1 H locs hP hw hS => ?_)
  · obtain ⟨eE9, hC8, hk8⟩ := hPX
    subst eE9
    refine hp_catch (name := eI) B0 [] _ _ (htab.trans rfl) (fun z hz => nomatch hz) rfl (by decide) qC_L_14 oC_eI hce hcv hcl ?_
    refine W.eq (g2 := F0 m 9 ls [.ref q9]) rfl ?_
    refine lv_astore_n (lv' := [(3, .ref q9), (0, .ref xo), (1, .int i)]) hx hb dL_underWay_9 rfl hl9 (by decide) rfl (fun ls hl9 => ?_)
    refine lv_bipush (v := (-71)) hx hb dL_underWay_10 (by decide) ?_
    exact hp_iret (v := (-71)) B0 hw hS hr ⟨Nat.le_of_ble_eq_true rfl, Nat.le_of_ble_eq_true rfl⟩ dL_underWay_12 (⟨rfl, hC8, hk8⟩)
  · exact hP.elim

set_option maxHeartbeats 4000000 in
set_option maxRecDepth 100000 in
theorem c_V_asked_E {l : Launch} (hl : l.stackTraces = false) (G : hG) (f : hM) (xo ez eo bu nw0 na0 nq0 nr0 nw1 na1 nq1 nr1 bs bp bh bf bl bg : Nat) (S0 : ES) (S1 : ES) (gw0 : Nat → Int32) (ga0 : Nat → Int32) (gw1 : Nat → Int32) (ga1 : Nat → Int32) (n : Nat) (a : Nat) (cg : Nat) (x : Nat) (sa : Nat → Nat) (pk : Nat → Nat) (fl : Nat → Nat) (gv : Nat → Nat) (gh : Nat → Int32) (gl : Nat → Int32) (hC : CXW G f xo ez eo bu nw0 na0 nq0 nr0 nw1 na1 nq1 nr1 bs bp bh bf bl bg S0 S1 gw0 ga0 gw1 ga1 n a cg x sa pk fl gv gh gl) (hL0 : S0.2.2.2.2.2.2.2.2.length < 3000) (hL1 : S1.2.2.2.2.2.2.2.2.length < 3000) (i o : Int32) (hi : ¬ sE i) : CT l yL_asked (.codeWith yL_asked cL_asked 5 (some .int) [(0, 7, 10, 14)]) 8 126 1 6 G [.ref xo, .int i, .int o] f (fun v f1 => v = some (.int (-71)) ∧ CXW G f1 xo ez eo bu nw0 na0 nq0 nr0 nw1 na1 nq1 nr1 bs bp bh bf bl bg S0 S1 gw0 ga0 gw1 ga1 n a cg x sa pk fl gv gh gl ∧ hKn [xo, ez, eo, bu, nw0, na0, nq0, nr0, nw1, na1, nq1, nr1, bs, bp, bh, bf, bl, bg] f f1) (fun E f1 => False) := by
  refine hp_startH hl (own := RL) (by decide) rfl (Nat.le_of_ble_eq_true rfl) ?_
  intro p e s m args below meth c B0 hr htab hw hS ls hl9
  have hx := B0.1
  have hb := B0.2.1
  have hl9 : lv_has ls 5 [(0, .ref xo), (1, .int i), (2, .int o)] := hl9
  have k_xo : f xo = some (.inr (4, [.ref ez, .ref eo, .ref bu])) := by obtain ⟨_, _, h9⟩ := hC; exact h9.1
  refine lv_aload_n hx hb dL_asked_0 rfl (lv_at hl9 0 rfl) ?_
  refine lv_iload_n hx hb dL_asked_1 rfl (lv_at hl9 1 rfl) ?_
  refine lv_iload_n hx hb dL_asked_2 rfl (lv_at hl9 2 rfl) ?_
  refine hp_V (ci := 4) (As := [.int i, .int o]) (rest := []) B0 hw hS (c_P_asked_E hl G f xo ez eo bu nw0 na0 nq0 nr0 nw1 na1 nq1 nr1 bs bp bh bf bl bg S0 S1 gw0 ga0 gw1 ga1 n a cg x sa pk fl gv gh gl hC hL0 hL1 i o hi) mV_X4_asked qM_L_49 rfl k_xo rfl rfl hl9.1 (Nat.le_of_ble_eq_true rfl) ⟨⟨Nat.le_of_ble_eq_true rfl, Nat.le_of_ble_eq_true rfl⟩, Nat.le_of_ble_eq_true rfl, Nat.le_of_ble_eq_true rfl⟩ dL_asked_3 (fun E ce q9 f1 H locs hPX hw hS hce hcv hcl => ?_) (fun v f1 H locs hP hw hS => ?_)
  · obtain ⟨eE9, hC8, hk8⟩ := hPX
    subst eE9
    refine hp_catch (name := eI) B0 [] _ _ (htab.trans rfl) (fun z hz => nomatch hz) rfl (by decide) qC_L_14 oC_eI hce hcv hcl ?_
    refine W.eq (g2 := F0 m 10 ls [.ref q9]) rfl ?_
    refine lv_astore (lv' := [(4, .ref q9), (0, .ref xo), (1, .int i), (2, .int o)]) hx hb dL_asked_10 hl9 (by decide) rfl (fun ls hl9 => ?_)
    refine lv_bipush (v := (-71)) hx hb dL_asked_12 (by decide) ?_
    exact hp_iret (v := (-71)) B0 hw hS hr ⟨Nat.le_of_ble_eq_true rfl, Nat.le_of_ble_eq_true rfl⟩ dL_asked_14 (⟨rfl, hC8, hk8⟩)
  · exact hP.elim

set_option maxHeartbeats 4000000 in
set_option maxRecDepth 100000 in
theorem c_V_pass_A {l : Launch} (hl : l.stackTraces = false) (G : hG) (f : hM) (xo ez eo bu nw0 na0 nq0 nr0 nw1 na1 nq1 nr1 bs bp bh bf bl bg : Nat) (S0 : ES) (S1 : ES) (gw0 : Nat → Int32) (ga0 : Nat → Int32) (gw1 : Nat → Int32) (ga1 : Nat → Int32) (n : Nat) (a : Nat) (cg : Nat) (x : Nat) (sa : Nat → Nat) (pk : Nat → Nat) (fl : Nat → Nat) (gv : Nat → Nat) (gh : Nat → Int32) (gl : Nat → Int32) (hC : CXW G f xo ez eo bu nw0 na0 nq0 nr0 nw1 na1 nq1 nr1 bs bp bh bf bl bg S0 S1 gw0 ga0 gw1 ga1 n a cg x sa pk fl gv gh gl) (hL0 : S0.2.2.2.2.2.2.2.2.length < 3000) (hL1 : S1.2.2.2.2.2.2.2.2.length < 3000) (xv : Int32) (hv : ¬ (1 ≤ xv.toInt ∧ xv.toInt ≤ 50)) : CT l yL_pass (.codeWith yL_pass cL_pass 4 (some .int) [(0, 6, 9, 16)]) 7 105 1 6 G [.ref xo, .int xv] f (fun v f1 => v = some (.int (-72)) ∧ CXW G f1 xo ez eo bu nw0 na0 nq0 nr0 nw1 na1 nq1 nr1 bs bp bh bf bl bg S0 S1 gw0 ga0 gw1 ga1 n a cg x sa pk fl gv gh gl ∧ hKn [xo, ez, eo, bu, nw0, na0, nq0, nr0, nw1, na1, nq1, nr1, bs, bp, bh, bf, bl, bg] f f1) (fun E f1 => False) := by
  refine hp_startH hl (own := RL) (by decide) rfl (Nat.le_of_ble_eq_true rfl) ?_
  intro p e s m args below meth c B0 hr htab hw hS ls hl9
  have hx := B0.1
  have hb := B0.2.1
  have hl9 : lv_has ls 4 [(0, .ref xo), (1, .int xv)] := hl9
  have k_xo : f xo = some (.inr (4, [.ref ez, .ref eo, .ref bu])) := by obtain ⟨_, _, h9⟩ := hC; exact h9.1
  refine lv_aload_n hx hb dL_pass_0 rfl (lv_at hl9 0 rfl) ?_
  refine lv_iload_n hx hb dL_pass_1 rfl (lv_at hl9 1 rfl) ?_
  refine hp_V (ci := 4) (As := [.int xv]) (rest := []) B0 hw hS (c_P_pass_A hl G f xo ez eo bu nw0 na0 nq0 nr0 nw1 na1 nq1 nr1 bs bp bh bf bl bg S0 S1 gw0 ga0 gw1 ga1 n a cg x sa pk fl gv gh gl hC hL0 hL1 xv hv) mV_X4_pass qM_L_43 rfl k_xo rfl rfl hl9.1 (Nat.le_of_ble_eq_true rfl) ⟨⟨Nat.le_of_ble_eq_true rfl, Nat.le_of_ble_eq_true rfl⟩, Nat.le_of_ble_eq_true rfl, Nat.le_of_ble_eq_true rfl⟩ dL_pass_2 (fun E ce q9 f1 H locs hPX hw hS hce hcv hcl => ?_) (fun v f1 H locs hP hw hS => ?_)
  · obtain ⟨eE9, hC8, hk8⟩ := hPX
    subst eE9
    refine hp_catch (name := eA) B0 [] _ _ (htab.trans rfl) (fun z hz => nomatch hz) rfl (by decide) qC_L_16 oC_eA hce hcv hcl ?_
    refine W.eq (g2 := F0 m 9 ls [.ref q9]) rfl ?_
    refine lv_astore_n (lv' := [(3, .ref q9), (0, .ref xo), (1, .int xv)]) hx hb dL_pass_9 rfl hl9 (by decide) rfl (fun ls hl9 => ?_)
    refine lv_bipush (v := (-72)) hx hb dL_pass_10 (by decide) ?_
    exact hp_iret (v := (-72)) B0 hw hS hr ⟨Nat.le_of_ble_eq_true rfl, Nat.le_of_ble_eq_true rfl⟩ dL_pass_12 (⟨rfl, hC8, hk8⟩)
  · exact hP.elim

set_option maxHeartbeats 4000000 in
set_option maxRecDepth 100000 in
theorem c_V_pass_ok {l : Launch} (hl : l.stackTraces = false) (G : hG) (f : hM) (xo ez eo bu nw0 na0 nq0 nr0 nw1 na1 nq1 nr1 bs bp bh bf bl bg : Nat) (S0 : ES) (S1 : ES) (gw0 : Nat → Int32) (ga0 : Nat → Int32) (gw1 : Nat → Int32) (ga1 : Nat → Int32) (n : Nat) (a : Nat) (cg : Nat) (x : Nat) (sa : Nat → Nat) (pk : Nat → Nat) (fl : Nat → Nat) (gv : Nat → Nat) (gh : Nat → Int32) (gl : Nat → Int32) (hC : CXW G f xo ez eo bu nw0 na0 nq0 nr0 nw1 na1 nq1 nr1 bs bp bh bf bl bg S0 S1 gw0 ga0 gw1 ga1 n a cg x sa pk fl gv gh gl) (hL0 : S0.2.2.2.2.2.2.2.2.length < 3000) (hL1 : S1.2.2.2.2.2.2.2.2.length < 3000) (T : Nat) (hT1 : 1 ≤ T) (hT2 : T ≤ 50) : CT l yL_pass (.codeWith yL_pass cL_pass 4 (some .int) [(0, 6, 9, 16)]) 5 100 200 1100 G [.ref xo, .int (nI T)] f (fun v f1 => v = some (.int ((passF T (S0, S1, 0)).2.2)) ∧ CXW G f1 xo ez eo bu nw0 na0 nq0 nr0 nw1 na1 nq1 nr1 bs bp bh bf bl bg ((passF T (S0, S1, 0)).1) ((passF T (S0, S1, 0)).2.1) gw0 ga0 gw1 ga1 n a cg x sa pk fl gv gh gl ∧ hKn [xo, ez, eo, bu, nw0, na0, nq0, nr0, nw1, na1, nq1, nr1, bs, bp, bh, bf, bl, bg] f f1) (fun E f1 => False) := by
  refine hp_startH hl (own := RL) (by decide) rfl (Nat.le_of_ble_eq_true rfl) ?_
  intro p e s m args below meth c B0 hr htab hw hS ls hl9
  have hx := B0.1
  have hb := B0.2.1
  have hl9 : lv_has ls 4 [(0, .ref xo), (1, .int (nI T))] := hl9
  have k_xo : f xo = some (.inr (4, [.ref ez, .ref eo, .ref bu])) := by obtain ⟨_, _, h9⟩ := hC; exact h9.1
  refine lv_aload_n hx hb dL_pass_0 rfl (lv_at hl9 0 rfl) ?_
  refine lv_iload_n hx hb dL_pass_1 rfl (lv_at hl9 1 rfl) ?_
  refine hp_V (ci := 4) (As := [.int (nI T)]) (rest := []) B0 hw hS (c_P_pass_ok hl G f xo ez eo bu nw0 na0 nq0 nr0 nw1 na1 nq1 nr1 bs bp bh bf bl bg S0 S1 gw0 ga0 gw1 ga1 n a cg x sa pk fl gv gh gl hC hL0 hL1 T hT1 hT2) mV_X4_pass qM_L_43 rfl k_xo rfl rfl hl9.1 (Nat.le_of_ble_eq_true rfl) ⟨⟨Nat.le_of_ble_eq_true rfl, Nat.le_of_ble_eq_true rfl⟩, Nat.le_of_ble_eq_true rfl, Nat.le_of_ble_eq_true rfl⟩ dL_pass_2 (fun E ce q9 f1 H locs hPX hw hS hce hcv hcl => ?_) (fun v f1 H locs hP hw hS => ?_)
  · exact hPX.elim
  · obtain ⟨ev9, hC8, hk8⟩ := hP
    subst ev9
    refine W.eq (g2 := F0 m 5 ls [.int ((passF T (S0, S1, 0)).2.2)]) rfl ?_
    refine lv_istore_n (lv' := [(2, .int ((passF T (S0, S1, 0)).2.2)), (0, .ref xo), (1, .int (nI T))]) hx hb dL_pass_5 rfl hl9 (by decide) rfl (fun ls hl9 => ?_)
    refine lv_goto (tgt := 13) hx hb dL_pass_6 (by decide) ?_
    refine lv_iload_n hx hb dL_pass_13 rfl (lv_at hl9 0 rfl) ?_
    exact hp_iret (v := ((passF T (S0, S1, 0)).2.2)) B0 hw hS hr ⟨Nat.le_of_ble_eq_true rfl, Nat.le_of_ble_eq_true rfl⟩ dL_pass_14 (⟨rfl, hC8, hk8⟩)

set_option maxHeartbeats 4000000 in
set_option maxRecDepth 100000 in
theorem c_V_send_ok {l : Launch} (hl : l.stackTraces = false) (G : hG) (f : hM) (xo ez eo bu nw0 na0 nq0 nr0 nw1 na1 nq1 nr1 bs bp bh bf bl bg : Nat) (S0 : ES) (S1 : ES) (gw0 : Nat → Int32) (ga0 : Nat → Int32) (gw1 : Nat → Int32) (ga1 : Nat → Int32) (n : Nat) (a : Nat) (cg : Nat) (x : Nat) (sa : Nat → Nat) (pk : Nat → Nat) (fl : Nat → Nat) (gv : Nat → Nat) (gh : Nat → Int32) (gl : Nat → Int32) (hC : CXW G f xo ez eo bu nw0 na0 nq0 nr0 nw1 na1 nq1 nr1 bs bp bh bf bl bg S0 S1 gw0 ga0 gw1 ga1 n a cg x sa pk fl gv gh gl) (hL0 : S0.2.2.2.2.2.2.2.2.length < 3000) (hL1 : S1.2.2.2.2.2.2.2.2.length < 3000) (k : Nat) (hk1 : 1 ≤ k) (hk4 : k ≤ 4) (hn : n < 60) : CT l yL_send (.codeWith yL_send cL_send 4 (some .int) [(0, 6, 9, 16), (0, 6, 13, 29)]) 2 44 0 0 G [.ref xo, .int (nI k)] f (fun v f1 => v = some (.int (nI a)) ∧ CXW G f1 xo ez eo bu nw0 na0 nq0 nr0 nw1 na1 nq1 nr1 bs bp bh bf bl bg S0 S1 gw0 ga0 gw1 ga1 (n + 1) (a + k) cg x (va_up sa (n + 1) (a + k)) (pkA pk n a k) fl gv gh gl ∧ hKn [xo, ez, eo, bu, nw0, na0, nq0, nr0, nw1, na1, nq1, nr1, bs, bp, bh, bf, bl, bg] f f1) (fun E f1 => False) := by
  refine hp_startH hl (own := RL) (by decide) rfl (Nat.le_of_ble_eq_true rfl) ?_
  intro p e s m args below meth c B0 hr htab hw hS ls hl9
  have hx := B0.1
  have hb := B0.2.1
  have hl9 : lv_has ls 4 [(0, .ref xo), (1, .int (nI k))] := hl9
  have k_xo : f xo = some (.inr (4, [.ref ez, .ref eo, .ref bu])) := by obtain ⟨_, _, h9⟩ := hC; exact h9.1
  refine lv_aload_n hx hb dL_send_0 rfl (lv_at hl9 0 rfl) ?_
  refine lv_iload_n hx hb dL_send_1 rfl (lv_at hl9 1 rfl) ?_
  refine hp_V (ci := 4) (As := [.int (nI k)]) (rest := []) B0 hw hS (c_P_send_ok hl G f xo ez eo bu nw0 na0 nq0 nr0 nw1 na1 nq1 nr1 bs bp bh bf bl bg S0 S1 gw0 ga0 gw1 ga1 n a cg x sa pk fl gv gh gl hC hL0 hL1 k hk1 hk4 hn) mV_X4_send qM_L_55 rfl k_xo rfl rfl hl9.1 (Nat.le_of_ble_eq_true rfl) ⟨⟨Nat.le_of_ble_eq_true rfl, Nat.le_of_ble_eq_true rfl⟩, Nat.le_of_ble_eq_true rfl, Nat.le_of_ble_eq_true rfl⟩ dL_send_2 (fun E ce q9 f1 H locs hPX hw hS hce hcv hcl => ?_) (fun v f1 H locs hP hw hS => ?_)
  · exact hPX.elim
  · obtain ⟨ev9, hC8, hk8⟩ := hP
    subst ev9
    refine W.eq (g2 := F0 m 5 ls [.int (nI a)]) rfl ?_
    refine lv_istore_n (lv' := [(2, .int (nI a)), (0, .ref xo), (1, .int (nI k))]) hx hb dL_send_5 rfl hl9 (by decide) rfl (fun ls hl9 => ?_)
    refine lv_goto (tgt := 17) hx hb dL_send_6 (by decide) ?_
    refine lv_iload_n hx hb dL_send_17 rfl (lv_at hl9 0 rfl) ?_
    exact hp_iret (v := (nI a)) B0 hw hS hr ⟨Nat.le_of_ble_eq_true rfl, Nat.le_of_ble_eq_true rfl⟩ dL_send_18 (⟨rfl, hC8, hk8⟩)

set_option maxHeartbeats 4000000 in
set_option maxRecDepth 100000 in
theorem c_V_send_A {l : Launch} (hl : l.stackTraces = false) (G : hG) (f : hM) (xo ez eo bu nw0 na0 nq0 nr0 nw1 na1 nq1 nr1 bs bp bh bf bl bg : Nat) (S0 : ES) (S1 : ES) (gw0 : Nat → Int32) (ga0 : Nat → Int32) (gw1 : Nat → Int32) (ga1 : Nat → Int32) (n : Nat) (a : Nat) (cg : Nat) (x : Nat) (sa : Nat → Nat) (pk : Nat → Nat) (fl : Nat → Nat) (gv : Nat → Nat) (gh : Nat → Int32) (gl : Nat → Int32) (hC : CXW G f xo ez eo bu nw0 na0 nq0 nr0 nw1 na1 nq1 nr1 bs bp bh bf bl bg S0 S1 gw0 ga0 gw1 ga1 n a cg x sa pk fl gv gh gl) (hL0 : S0.2.2.2.2.2.2.2.2.length < 3000) (hL1 : S1.2.2.2.2.2.2.2.2.length < 3000) (xv : Int32) (hv : ¬ (1 ≤ xv.toInt ∧ xv.toInt ≤ 4)) : CT l yL_send (.codeWith yL_send cL_send 4 (some .int) [(0, 6, 9, 16), (0, 6, 13, 29)]) 7 103 1 6 G [.ref xo, .int xv] f (fun v f1 => v = some (.int (-72)) ∧ CXW G f1 xo ez eo bu nw0 na0 nq0 nr0 nw1 na1 nq1 nr1 bs bp bh bf bl bg S0 S1 gw0 ga0 gw1 ga1 n a cg x sa pk fl gv gh gl ∧ hKn [xo, ez, eo, bu, nw0, na0, nq0, nr0, nw1, na1, nq1, nr1, bs, bp, bh, bf, bl, bg] f f1) (fun E f1 => False) := by
  refine hp_startH hl (own := RL) (by decide) rfl (Nat.le_of_ble_eq_true rfl) ?_
  intro p e s m args below meth c B0 hr htab hw hS ls hl9
  have hx := B0.1
  have hb := B0.2.1
  have hl9 : lv_has ls 4 [(0, .ref xo), (1, .int xv)] := hl9
  have k_xo : f xo = some (.inr (4, [.ref ez, .ref eo, .ref bu])) := by obtain ⟨_, _, h9⟩ := hC; exact h9.1
  refine lv_aload_n hx hb dL_send_0 rfl (lv_at hl9 0 rfl) ?_
  refine lv_iload_n hx hb dL_send_1 rfl (lv_at hl9 1 rfl) ?_
  refine hp_V (ci := 4) (As := [.int xv]) (rest := []) B0 hw hS (c_P_send_A hl G f xo ez eo bu nw0 na0 nq0 nr0 nw1 na1 nq1 nr1 bs bp bh bf bl bg S0 S1 gw0 ga0 gw1 ga1 n a cg x sa pk fl gv gh gl hC hL0 hL1 xv hv) mV_X4_send qM_L_55 rfl k_xo rfl rfl hl9.1 (Nat.le_of_ble_eq_true rfl) ⟨⟨Nat.le_of_ble_eq_true rfl, Nat.le_of_ble_eq_true rfl⟩, Nat.le_of_ble_eq_true rfl, Nat.le_of_ble_eq_true rfl⟩ dL_send_2 (fun E ce q9 f1 H locs hPX hw hS hce hcv hcl => ?_) (fun v f1 H locs hP hw hS => ?_)
  · obtain ⟨eE9, hC8, hk8⟩ := hPX
    subst eE9
    refine hp_catch (name := eA) B0 [] _ _ (htab.trans rfl) (fun z hz => nomatch hz) rfl (by decide) qC_L_16 oC_eA hce hcv hcl ?_
    refine W.eq (g2 := F0 m 9 ls [.ref q9]) rfl ?_
    refine lv_astore_n (lv' := [(3, .ref q9), (0, .ref xo), (1, .int xv)]) hx hb dL_send_9 rfl hl9 (by decide) rfl (fun ls hl9 => ?_)
    refine lv_bipush (v := (-72)) hx hb dL_send_10 (by decide) ?_
    exact hp_iret (v := (-72)) B0 hw hS hr ⟨Nat.le_of_ble_eq_true rfl, Nat.le_of_ble_eq_true rfl⟩ dL_send_12 (⟨rfl, hC8, hk8⟩)
  · exact hP.elim

set_option maxHeartbeats 4000000 in
set_option maxRecDepth 100000 in
theorem c_V_come_ok {l : Launch} (hl : l.stackTraces = false) (G : hG) (f : hM) (xo ez eo bu nw0 na0 nq0 nr0 nw1 na1 nq1 nr1 bs bp bh bf bl bg : Nat) (S0 : ES) (S1 : ES) (gw0 : Nat → Int32) (ga0 : Nat → Int32) (gw1 : Nat → Int32) (ga1 : Nat → Int32) (n : Nat) (a : Nat) (cg : Nat) (x : Nat) (sa : Nat → Nat) (pk : Nat → Nat) (fl : Nat → Nat) (gv : Nat → Nat) (gh : Nat → Int32) (gl : Nat → Int32) (hC : CXW G f xo ez eo bu nw0 na0 nq0 nr0 nw1 na1 nq1 nr1 bs bp bh bf bl bg S0 S1 gw0 ga0 gw1 ga1 n a cg x sa pk fl gv gh gl) (hL0 : S0.2.2.2.2.2.2.2.2.length < 3000) (hL1 : S1.2.2.2.2.2.2.2.2.length < 3000) (j : Nat) (hj : j < 3) (hpl : fl j < a) : CT l yL_come (.codeWith yL_come cL_come 4 (some .int) [(0, 6, 9, 14), (0, 6, 13, 29)]) 6 126 0 0 G [.ref xo, .int (nI j)] f (fun v f1 => v = some (.int (nI (bRun a sa pk (upd gh (fl j) 1) (bnd (upd gl j (nI (fl j)))) 240 cg x gv).1 - nI cg)) ∧ CXW G f1 xo ez eo bu nw0 na0 nq0 nr0 nw1 na1 nq1 nr1 bs bp bh bf bl bg S0 S1 gw0 ga0 gw1 ga1 n a ((bRun a sa pk (upd gh (fl j) 1) (bnd (upd gl j (nI (fl j)))) 240 cg x gv).1) ((bRun a sa pk (upd gh (fl j) 1) (bnd (upd gl j (nI (fl j)))) 240 cg x gv).2.1) sa pk (va_up fl j (fl j + 3)) ((bRun a sa pk (upd gh (fl j) 1) (bnd (upd gl j (nI (fl j)))) 240 cg x gv).2.2) (upd gh (fl j) 1) (upd gl j (nI (fl j))) ∧ hKn [xo, ez, eo, bu, nw0, na0, nq0, nr0, nw1, na1, nq1, nr1, bs, bp, bh, bf, bl, bg] f f1) (fun E f1 => False) := by
  refine hp_startH hl (own := RL) (by decide) rfl (Nat.le_of_ble_eq_true rfl) ?_
  intro p e s m args below meth c B0 hr htab hw hS ls hl9
  have hx := B0.1
  have hb := B0.2.1
  have hl9 : lv_has ls 4 [(0, .ref xo), (1, .int (nI j))] := hl9
  have k_xo : f xo = some (.inr (4, [.ref ez, .ref eo, .ref bu])) := by obtain ⟨_, _, h9⟩ := hC; exact h9.1
  refine lv_aload_n hx hb dL_come_0 rfl (lv_at hl9 0 rfl) ?_
  refine lv_iload_n hx hb dL_come_1 rfl (lv_at hl9 1 rfl) ?_
  refine hp_V (ci := 4) (As := [.int (nI j)]) (rest := []) B0 hw hS (c_P_come_ok hl G f xo ez eo bu nw0 na0 nq0 nr0 nw1 na1 nq1 nr1 bs bp bh bf bl bg S0 S1 gw0 ga0 gw1 ga1 n a cg x sa pk fl gv gh gl hC hL0 hL1 j hj hpl) mV_X4_come qM_L_58 rfl k_xo rfl rfl hl9.1 (Nat.le_of_ble_eq_true rfl) ⟨⟨Nat.le_of_ble_eq_true rfl, Nat.le_of_ble_eq_true rfl⟩, Nat.le_of_ble_eq_true rfl, Nat.le_of_ble_eq_true rfl⟩ dL_come_2 (fun E ce q9 f1 H locs hPX hw hS hce hcv hcl => ?_) (fun v f1 H locs hP hw hS => ?_)
  · exact hPX.elim
  · obtain ⟨ev9, hC8, hk8⟩ := hP
    subst ev9
    refine W.eq (g2 := F0 m 5 ls [.int (nI (bRun a sa pk (upd gh (fl j) 1) (bnd (upd gl j (nI (fl j)))) 240 cg x gv).1 - nI cg)]) rfl ?_
    refine lv_istore_n (lv' := [(2, .int (nI (bRun a sa pk (upd gh (fl j) 1) (bnd (upd gl j (nI (fl j)))) 240 cg x gv).1 - nI cg)), (0, .ref xo), (1, .int (nI j))]) hx hb dL_come_5 rfl hl9 (by decide) rfl (fun ls hl9 => ?_)
    refine lv_goto (tgt := 17) hx hb dL_come_6 (by decide) ?_
    refine lv_iload_n hx hb dL_come_17 rfl (lv_at hl9 0 rfl) ?_
    exact hp_iret (v := (nI (bRun a sa pk (upd gh (fl j) 1) (bnd (upd gl j (nI (fl j)))) 240 cg x gv).1 - nI cg)) B0 hw hS hr ⟨Nat.le_of_ble_eq_true rfl, Nat.le_of_ble_eq_true rfl⟩ dL_come_18 (⟨rfl, hC8, hk8⟩)

set_option maxHeartbeats 4000000 in
set_option maxRecDepth 100000 in
theorem c_V_drop_ok {l : Launch} (hl : l.stackTraces = false) (G : hG) (f : hM) (xo ez eo bu nw0 na0 nq0 nr0 nw1 na1 nq1 nr1 bs bp bh bf bl bg : Nat) (S0 : ES) (S1 : ES) (gw0 : Nat → Int32) (ga0 : Nat → Int32) (gw1 : Nat → Int32) (ga1 : Nat → Int32) (n : Nat) (a : Nat) (cg : Nat) (x : Nat) (sa : Nat → Nat) (pk : Nat → Nat) (fl : Nat → Nat) (gv : Nat → Nat) (gh : Nat → Int32) (gl : Nat → Int32) (hC : CXW G f xo ez eo bu nw0 na0 nq0 nr0 nw1 na1 nq1 nr1 bs bp bh bf bl bg S0 S1 gw0 ga0 gw1 ga1 n a cg x sa pk fl gv gh gl) (hL0 : S0.2.2.2.2.2.2.2.2.length < 3000) (hL1 : S1.2.2.2.2.2.2.2.2.length < 3000) (j : Nat) (hj : j < 3) (hpl : fl j < a) : CT l yL_drop (.codeWith yL_drop cL_drop 4 (some .int) [(0, 6, 9, 14), (0, 6, 13, 29)]) 3 63 0 0 G [.ref xo, .int (nI j)] f (fun v f1 => v = some (.int (nI (fl j))) ∧ CXW G f1 xo ez eo bu nw0 na0 nq0 nr0 nw1 na1 nq1 nr1 bs bp bh bf bl bg S0 S1 gw0 ga0 gw1 ga1 n a cg x sa pk (va_up fl j (fl j + 3)) gv gh gl ∧ hKn [xo, ez, eo, bu, nw0, na0, nq0, nr0, nw1, na1, nq1, nr1, bs, bp, bh, bf, bl, bg] f f1) (fun E f1 => False) := by
  refine hp_startH hl (own := RL) (by decide) rfl (Nat.le_of_ble_eq_true rfl) ?_
  intro p e s m args below meth c B0 hr htab hw hS ls hl9
  have hx := B0.1
  have hb := B0.2.1
  have hl9 : lv_has ls 4 [(0, .ref xo), (1, .int (nI j))] := hl9
  have k_xo : f xo = some (.inr (4, [.ref ez, .ref eo, .ref bu])) := by obtain ⟨_, _, h9⟩ := hC; exact h9.1
  refine lv_aload_n hx hb dL_drop_0 rfl (lv_at hl9 0 rfl) ?_
  refine lv_iload_n hx hb dL_drop_1 rfl (lv_at hl9 1 rfl) ?_
  refine hp_V (ci := 4) (As := [.int (nI j)]) (rest := []) B0 hw hS (c_P_drop_ok hl G f xo ez eo bu nw0 na0 nq0 nr0 nw1 na1 nq1 nr1 bs bp bh bf bl bg S0 S1 gw0 ga0 gw1 ga1 n a cg x sa pk fl gv gh gl hC hL0 hL1 j hj hpl) mV_X4_drop qM_L_61 rfl k_xo rfl rfl hl9.1 (Nat.le_of_ble_eq_true rfl) ⟨⟨Nat.le_of_ble_eq_true rfl, Nat.le_of_ble_eq_true rfl⟩, Nat.le_of_ble_eq_true rfl, Nat.le_of_ble_eq_true rfl⟩ dL_drop_2 (fun E ce q9 f1 H locs hPX hw hS hce hcv hcl => ?_) (fun v f1 H locs hP hw hS => ?_)
  · exact hPX.elim
  · obtain ⟨ev9, hC8, hk8⟩ := hP
    subst ev9
    refine W.eq (g2 := F0 m 5 ls [.int (nI (fl j))]) rfl ?_
    refine lv_istore_n (lv' := [(2, .int (nI (fl j))), (0, .ref xo), (1, .int (nI j))]) hx hb dL_drop_5 rfl hl9 (by decide) rfl (fun ls hl9 => ?_)
    refine lv_goto (tgt := 17) hx hb dL_drop_6 (by decide) ?_
    refine lv_iload_n hx hb dL_drop_17 rfl (lv_at hl9 0 rfl) ?_
    exact hp_iret (v := (nI (fl j))) B0 hw hS hr ⟨Nat.le_of_ble_eq_true rfl, Nat.le_of_ble_eq_true rfl⟩ dL_drop_18 (⟨rfl, hC8, hk8⟩)

set_option maxHeartbeats 4000000 in
set_option maxRecDepth 100000 in
theorem c_V_come_S {l : Launch} (hl : l.stackTraces = false) (G : hG) (f : hM) (xo ez eo bu nw0 na0 nq0 nr0 nw1 na1 nq1 nr1 bs bp bh bf bl bg : Nat) (S0 : ES) (S1 : ES) (gw0 : Nat → Int32) (ga0 : Nat → Int32) (gw1 : Nat → Int32) (ga1 : Nat → Int32) (n : Nat) (a : Nat) (cg : Nat) (x : Nat) (sa : Nat → Nat) (pk : Nat → Nat) (fl : Nat → Nat) (gv : Nat → Nat) (gh : Nat → Int32) (gl : Nat → Int32) (hC : CXW G f xo ez eo bu nw0 na0 nq0 nr0 nw1 na1 nq1 nr1 bs bp bh bf bl bg S0 S1 gw0 ga0 gw1 ga1 n a cg x sa pk fl gv gh gl) (hL0 : S0.2.2.2.2.2.2.2.2.length < 3000) (hL1 : S1.2.2.2.2.2.2.2.2.length < 3000) (j : Nat) (hj : j < 3) (hpl : ¬ fl j < a) : CT l yL_come (.codeWith yL_come cL_come 4 (some .int) [(0, 6, 9, 14), (0, 6, 13, 29)]) 8 124 1 6 G [.ref xo, .int (nI j)] f (fun v f1 => v = some (.int (-73)) ∧ CXW G f1 xo ez eo bu nw0 na0 nq0 nr0 nw1 na1 nq1 nr1 bs bp bh bf bl bg S0 S1 gw0 ga0 gw1 ga1 n a cg x sa pk fl gv gh gl ∧ hKn [xo, ez, eo, bu, nw0, na0, nq0, nr0, nw1, na1, nq1, nr1, bs, bp, bh, bf, bl, bg] f f1) (fun E f1 => False) := by
  refine hp_startH hl (own := RL) (by decide) rfl (Nat.le_of_ble_eq_true rfl) ?_
  intro p e s m args below meth c B0 hr htab hw hS ls hl9
  have hx := B0.1
  have hb := B0.2.1
  have hl9 : lv_has ls 4 [(0, .ref xo), (1, .int (nI j))] := hl9
  have k_xo : f xo = some (.inr (4, [.ref ez, .ref eo, .ref bu])) := by obtain ⟨_, _, h9⟩ := hC; exact h9.1
  refine lv_aload_n hx hb dL_come_0 rfl (lv_at hl9 0 rfl) ?_
  refine lv_iload_n hx hb dL_come_1 rfl (lv_at hl9 1 rfl) ?_
  refine hp_V (ci := 4) (As := [.int (nI j)]) (rest := []) B0 hw hS (c_P_come_S hl G f xo ez eo bu nw0 na0 nq0 nr0 nw1 na1 nq1 nr1 bs bp bh bf bl bg S0 S1 gw0 ga0 gw1 ga1 n a cg x sa pk fl gv gh gl hC hL0 hL1 j hj hpl) mV_X4_come qM_L_58 rfl k_xo rfl rfl hl9.1 (Nat.le_of_ble_eq_true rfl) ⟨⟨Nat.le_of_ble_eq_true rfl, Nat.le_of_ble_eq_true rfl⟩, Nat.le_of_ble_eq_true rfl, Nat.le_of_ble_eq_true rfl⟩ dL_come_2 (fun E ce q9 f1 H locs hPX hw hS hce hcv hcl => ?_) (fun v f1 H locs hP hw hS => ?_)
  · obtain ⟨eE9, hC8, hk8⟩ := hPX
    subst eE9
    refine hp_catch (name := eS) B0 [_] _ _ (htab.trans rfl) (fun z hz => Or.inr (by rcases List.mem_singleton.mp hz with rfl; exact ⟨by decide, eI, qC_L_14, List.mem_of_getElem? (i := 4) rfl⟩)) rfl (by decide) qC_L_29 oC_eS hce hcv hcl ?_
    refine W.eq (g2 := F0 m 13 ls [.ref q9]) rfl ?_
    refine lv_astore_n (lv' := [(3, .ref q9), (0, .ref xo), (1, .int (nI j))]) hx hb dL_come_13 rfl hl9 (by decide) rfl (fun ls hl9 => ?_)
    refine lv_bipush (v := (-73)) hx hb dL_come_14 (by decide) ?_
    exact hp_iret (v := (-73)) B0 hw hS hr ⟨Nat.le_of_ble_eq_true rfl, Nat.le_of_ble_eq_true rfl⟩ dL_come_16 (⟨rfl, hC8, hk8⟩)
  · exact hP.elim

set_option maxHeartbeats 4000000 in
set_option maxRecDepth 100000 in
theorem c_V_come_L {l : Launch} (hl : l.stackTraces = false) (G : hG) (f : hM) (xo ez eo bu nw0 na0 nq0 nr0 nw1 na1 nq1 nr1 bs bp bh bf bl bg : Nat) (S0 : ES) (S1 : ES) (gw0 : Nat → Int32) (ga0 : Nat → Int32) (gw1 : Nat → Int32) (ga1 : Nat → Int32) (n : Nat) (a : Nat) (cg : Nat) (x : Nat) (sa : Nat → Nat) (pk : Nat → Nat) (fl : Nat → Nat) (gv : Nat → Nat) (gh : Nat → Int32) (gl : Nat → Int32) (hC : CXW G f xo ez eo bu nw0 na0 nq0 nr0 nw1 na1 nq1 nr1 bs bp bh bf bl bg S0 S1 gw0 ga0 gw1 ga1 n a cg x sa pk fl gv gh gl) (hL0 : S0.2.2.2.2.2.2.2.2.length < 3000) (hL1 : S1.2.2.2.2.2.2.2.2.length < 3000) (xv : Int32) (hv : ¬ sL xv) : CT l yL_come (.codeWith yL_come cL_come 4 (some .int) [(0, 6, 9, 14), (0, 6, 13, 29)]) 8 124 1 6 G [.ref xo, .int xv] f (fun v f1 => v = some (.int (-71)) ∧ CXW G f1 xo ez eo bu nw0 na0 nq0 nr0 nw1 na1 nq1 nr1 bs bp bh bf bl bg S0 S1 gw0 ga0 gw1 ga1 n a cg x sa pk fl gv gh gl ∧ hKn [xo, ez, eo, bu, nw0, na0, nq0, nr0, nw1, na1, nq1, nr1, bs, bp, bh, bf, bl, bg] f f1) (fun E f1 => False) := by
  refine hp_startH hl (own := RL) (by decide) rfl (Nat.le_of_ble_eq_true rfl) ?_
  intro p e s m args below meth c B0 hr htab hw hS ls hl9
  have hx := B0.1
  have hb := B0.2.1
  have hl9 : lv_has ls 4 [(0, .ref xo), (1, .int xv)] := hl9
  have k_xo : f xo = some (.inr (4, [.ref ez, .ref eo, .ref bu])) := by obtain ⟨_, _, h9⟩ := hC; exact h9.1
  refine lv_aload_n hx hb dL_come_0 rfl (lv_at hl9 0 rfl) ?_
  refine lv_iload_n hx hb dL_come_1 rfl (lv_at hl9 1 rfl) ?_
  refine hp_V (ci := 4) (As := [.int xv]) (rest := []) B0 hw hS (c_P_come_L hl G f xo ez eo bu nw0 na0 nq0 nr0 nw1 na1 nq1 nr1 bs bp bh bf bl bg S0 S1 gw0 ga0 gw1 ga1 n a cg x sa pk fl gv gh gl hC hL0 hL1 xv hv) mV_X4_come qM_L_58 rfl k_xo rfl rfl hl9.1 (Nat.le_of_ble_eq_true rfl) ⟨⟨Nat.le_of_ble_eq_true rfl, Nat.le_of_ble_eq_true rfl⟩, Nat.le_of_ble_eq_true rfl, Nat.le_of_ble_eq_true rfl⟩ dL_come_2 (fun E ce q9 f1 H locs hPX hw hS hce hcv hcl => ?_) (fun v f1 H locs hP hw hS => ?_)
  · obtain ⟨eE9, hC8, hk8⟩ := hPX
    subst eE9
    refine hp_catch (name := eI) B0 [] _ _ (htab.trans rfl) (fun z hz => nomatch hz) rfl (by decide) qC_L_14 oC_eI hce hcv hcl ?_
    refine W.eq (g2 := F0 m 9 ls [.ref q9]) rfl ?_
    refine lv_astore_n (lv' := [(3, .ref q9), (0, .ref xo), (1, .int xv)]) hx hb dL_come_9 rfl hl9 (by decide) rfl (fun ls hl9 => ?_)
    refine lv_bipush (v := (-71)) hx hb dL_come_10 (by decide) ?_
    exact hp_iret (v := (-71)) B0 hw hS hr ⟨Nat.le_of_ble_eq_true rfl, Nat.le_of_ble_eq_true rfl⟩ dL_come_12 (⟨rfl, hC8, hk8⟩)
  · exact hP.elim

set_option maxHeartbeats 4000000 in
set_option maxRecDepth 100000 in
theorem c_V_drop_S {l : Launch} (hl : l.stackTraces = false) (G : hG) (f : hM) (xo ez eo bu nw0 na0 nq0 nr0 nw1 na1 nq1 nr1 bs bp bh bf bl bg : Nat) (S0 : ES) (S1 : ES) (gw0 : Nat → Int32) (ga0 : Nat → Int32) (gw1 : Nat → Int32) (ga1 : Nat → Int32) (n : Nat) (a : Nat) (cg : Nat) (x : Nat) (sa : Nat → Nat) (pk : Nat → Nat) (fl : Nat → Nat) (gv : Nat → Nat) (gh : Nat → Int32) (gl : Nat → Int32) (hC : CXW G f xo ez eo bu nw0 na0 nq0 nr0 nw1 na1 nq1 nr1 bs bp bh bf bl bg S0 S1 gw0 ga0 gw1 ga1 n a cg x sa pk fl gv gh gl) (hL0 : S0.2.2.2.2.2.2.2.2.length < 3000) (hL1 : S1.2.2.2.2.2.2.2.2.length < 3000) (j : Nat) (hj : j < 3) (hpl : ¬ fl j < a) : CT l yL_drop (.codeWith yL_drop cL_drop 4 (some .int) [(0, 6, 9, 14), (0, 6, 13, 29)]) 8 124 1 6 G [.ref xo, .int (nI j)] f (fun v f1 => v = some (.int (-73)) ∧ CXW G f1 xo ez eo bu nw0 na0 nq0 nr0 nw1 na1 nq1 nr1 bs bp bh bf bl bg S0 S1 gw0 ga0 gw1 ga1 n a cg x sa pk fl gv gh gl ∧ hKn [xo, ez, eo, bu, nw0, na0, nq0, nr0, nw1, na1, nq1, nr1, bs, bp, bh, bf, bl, bg] f f1) (fun E f1 => False) := by
  refine hp_startH hl (own := RL) (by decide) rfl (Nat.le_of_ble_eq_true rfl) ?_
  intro p e s m args below meth c B0 hr htab hw hS ls hl9
  have hx := B0.1
  have hb := B0.2.1
  have hl9 : lv_has ls 4 [(0, .ref xo), (1, .int (nI j))] := hl9
  have k_xo : f xo = some (.inr (4, [.ref ez, .ref eo, .ref bu])) := by obtain ⟨_, _, h9⟩ := hC; exact h9.1
  refine lv_aload_n hx hb dL_drop_0 rfl (lv_at hl9 0 rfl) ?_
  refine lv_iload_n hx hb dL_drop_1 rfl (lv_at hl9 1 rfl) ?_
  refine hp_V (ci := 4) (As := [.int (nI j)]) (rest := []) B0 hw hS (c_P_drop_S hl G f xo ez eo bu nw0 na0 nq0 nr0 nw1 na1 nq1 nr1 bs bp bh bf bl bg S0 S1 gw0 ga0 gw1 ga1 n a cg x sa pk fl gv gh gl hC hL0 hL1 j hj hpl) mV_X4_drop qM_L_61 rfl k_xo rfl rfl hl9.1 (Nat.le_of_ble_eq_true rfl) ⟨⟨Nat.le_of_ble_eq_true rfl, Nat.le_of_ble_eq_true rfl⟩, Nat.le_of_ble_eq_true rfl, Nat.le_of_ble_eq_true rfl⟩ dL_drop_2 (fun E ce q9 f1 H locs hPX hw hS hce hcv hcl => ?_) (fun v f1 H locs hP hw hS => ?_)
  · obtain ⟨eE9, hC8, hk8⟩ := hPX
    subst eE9
    refine hp_catch (name := eS) B0 [_] _ _ (htab.trans rfl) (fun z hz => Or.inr (by rcases List.mem_singleton.mp hz with rfl; exact ⟨by decide, eI, qC_L_14, List.mem_of_getElem? (i := 4) rfl⟩)) rfl (by decide) qC_L_29 oC_eS hce hcv hcl ?_
    refine W.eq (g2 := F0 m 13 ls [.ref q9]) rfl ?_
    refine lv_astore_n (lv' := [(3, .ref q9), (0, .ref xo), (1, .int (nI j))]) hx hb dL_drop_13 rfl hl9 (by decide) rfl (fun ls hl9 => ?_)
    refine lv_bipush (v := (-73)) hx hb dL_drop_14 (by decide) ?_
    exact hp_iret (v := (-73)) B0 hw hS hr ⟨Nat.le_of_ble_eq_true rfl, Nat.le_of_ble_eq_true rfl⟩ dL_drop_16 (⟨rfl, hC8, hk8⟩)
  · exact hP.elim

set_option maxHeartbeats 4000000 in
set_option maxRecDepth 100000 in
theorem c_V_drop_L {l : Launch} (hl : l.stackTraces = false) (G : hG) (f : hM) (xo ez eo bu nw0 na0 nq0 nr0 nw1 na1 nq1 nr1 bs bp bh bf bl bg : Nat) (S0 : ES) (S1 : ES) (gw0 : Nat → Int32) (ga0 : Nat → Int32) (gw1 : Nat → Int32) (ga1 : Nat → Int32) (n : Nat) (a : Nat) (cg : Nat) (x : Nat) (sa : Nat → Nat) (pk : Nat → Nat) (fl : Nat → Nat) (gv : Nat → Nat) (gh : Nat → Int32) (gl : Nat → Int32) (hC : CXW G f xo ez eo bu nw0 na0 nq0 nr0 nw1 na1 nq1 nr1 bs bp bh bf bl bg S0 S1 gw0 ga0 gw1 ga1 n a cg x sa pk fl gv gh gl) (hL0 : S0.2.2.2.2.2.2.2.2.length < 3000) (hL1 : S1.2.2.2.2.2.2.2.2.length < 3000) (xv : Int32) (hv : ¬ sL xv) : CT l yL_drop (.codeWith yL_drop cL_drop 4 (some .int) [(0, 6, 9, 14), (0, 6, 13, 29)]) 8 124 1 6 G [.ref xo, .int xv] f (fun v f1 => v = some (.int (-71)) ∧ CXW G f1 xo ez eo bu nw0 na0 nq0 nr0 nw1 na1 nq1 nr1 bs bp bh bf bl bg S0 S1 gw0 ga0 gw1 ga1 n a cg x sa pk fl gv gh gl ∧ hKn [xo, ez, eo, bu, nw0, na0, nq0, nr0, nw1, na1, nq1, nr1, bs, bp, bh, bf, bl, bg] f f1) (fun E f1 => False) := by
  refine hp_startH hl (own := RL) (by decide) rfl (Nat.le_of_ble_eq_true rfl) ?_
  intro p e s m args below meth c B0 hr htab hw hS ls hl9
  have hx := B0.1
  have hb := B0.2.1
  have hl9 : lv_has ls 4 [(0, .ref xo), (1, .int xv)] := hl9
  have k_xo : f xo = some (.inr (4, [.ref ez, .ref eo, .ref bu])) := by obtain ⟨_, _, h9⟩ := hC; exact h9.1
  refine lv_aload_n hx hb dL_drop_0 rfl (lv_at hl9 0 rfl) ?_
  refine lv_iload_n hx hb dL_drop_1 rfl (lv_at hl9 1 rfl) ?_
  refine hp_V (ci := 4) (As := [.int xv]) (rest := []) B0 hw hS (c_P_drop_L hl G f xo ez eo bu nw0 na0 nq0 nr0 nw1 na1 nq1 nr1 bs bp bh bf bl bg S0 S1 gw0 ga0 gw1 ga1 n a cg x sa pk fl gv gh gl hC hL0 hL1 xv hv) mV_X4_drop qM_L_61 rfl k_xo rfl rfl hl9.1 (Nat.le_of_ble_eq_true rfl) ⟨⟨Nat.le_of_ble_eq_true rfl, Nat.le_of_ble_eq_true rfl⟩, Nat.le_of_ble_eq_true rfl, Nat.le_of_ble_eq_true rfl⟩ dL_drop_2 (fun E ce q9 f1 H locs hPX hw hS hce hcv hcl => ?_) (fun v f1 H locs hP hw hS => ?_)
  · obtain ⟨eE9, hC8, hk8⟩ := hPX
    subst eE9
    refine hp_catch (name := eI) B0 [] _ _ (htab.trans rfl) (fun z hz => nomatch hz) rfl (by decide) qC_L_14 oC_eI hce hcv hcl ?_
    refine W.eq (g2 := F0 m 9 ls [.ref q9]) rfl ?_
    refine lv_astore_n (lv' := [(3, .ref q9), (0, .ref xo), (1, .int xv)]) hx hb dL_drop_9 rfl hl9 (by decide) rfl (fun ls hl9 => ?_)
    refine lv_bipush (v := (-71)) hx hb dL_drop_10 (by decide) ?_
    exact hp_iret (v := (-71)) B0 hw hS hr ⟨Nat.le_of_ble_eq_true rfl, Nat.le_of_ble_eq_true rfl⟩ dL_drop_12 (⟨rfl, hC8, hk8⟩)
  · exact hP.elim

set_option maxHeartbeats 4000000 in
set_option maxRecDepth 100000 in
theorem c_V_givenAt_ok {l : Launch} (hl : l.stackTraces = false) (G : hG) (f : hM) (xo ez eo bu nw0 na0 nq0 nr0 nw1 na1 nq1 nr1 bs bp bh bf bl bg : Nat) (S0 : ES) (S1 : ES) (gw0 : Nat → Int32) (ga0 : Nat → Int32) (gw1 : Nat → Int32) (ga1 : Nat → Int32) (n : Nat) (a : Nat) (cg : Nat) (x : Nat) (sa : Nat → Nat) (pk : Nat → Nat) (fl : Nat → Nat) (gv : Nat → Nat) (gh : Nat → Int32) (gl : Nat → Int32) (hC : CXW G f xo ez eo bu nw0 na0 nq0 nr0 nw1 na1 nq1 nr1 bs bp bh bf bl bg S0 S1 gw0 ga0 gw1 ga1 n a cg x sa pk fl gv gh gl) (hL0 : S0.2.2.2.2.2.2.2.2.length < 3000) (hL1 : S1.2.2.2.2.2.2.2.2.length < 3000) (j : Nat) (hj : j < cg) : CT l yL_givenAt (.codeWith yL_givenAt cL_givenAt 4 (some .int) [(0, 6, 9, 14)]) 1 21 0 0 G [.ref xo, .int (nI j)] f (fun v f1 => v = some (.int (nI (gv j))) ∧ CXW G f1 xo ez eo bu nw0 na0 nq0 nr0 nw1 na1 nq1 nr1 bs bp bh bf bl bg S0 S1 gw0 ga0 gw1 ga1 n a cg x sa pk fl gv gh gl ∧ hKn [xo, ez, eo, bu, nw0, na0, nq0, nr0, nw1, na1, nq1, nr1, bs, bp, bh, bf, bl, bg] f f1) (fun E f1 => False) := by
  refine hp_startH hl (own := RL) (by decide) rfl (Nat.le_of_ble_eq_true rfl) ?_
  intro p e s m args below meth c B0 hr htab hw hS ls hl9
  have hx := B0.1
  have hb := B0.2.1
  have hl9 : lv_has ls 4 [(0, .ref xo), (1, .int (nI j))] := hl9
  have k_xo : f xo = some (.inr (4, [.ref ez, .ref eo, .ref bu])) := by obtain ⟨_, _, h9⟩ := hC; exact h9.1
  refine lv_aload_n hx hb dL_givenAt_0 rfl (lv_at hl9 0 rfl) ?_
  refine lv_iload_n hx hb dL_givenAt_1 rfl (lv_at hl9 1 rfl) ?_
  refine hp_V (ci := 4) (As := [.int (nI j)]) (rest := []) B0 hw hS (c_P_givenAt_ok hl G f xo ez eo bu nw0 na0 nq0 nr0 nw1 na1 nq1 nr1 bs bp bh bf bl bg S0 S1 gw0 ga0 gw1 ga1 n a cg x sa pk fl gv gh gl hC hL0 hL1 j hj) mV_X4_givenAt qM_L_64 rfl k_xo rfl rfl hl9.1 (Nat.le_of_ble_eq_true rfl) ⟨⟨Nat.le_of_ble_eq_true rfl, Nat.le_of_ble_eq_true rfl⟩, Nat.le_of_ble_eq_true rfl, Nat.le_of_ble_eq_true rfl⟩ dL_givenAt_2 (fun E ce q9 f1 H locs hPX hw hS hce hcv hcl => ?_) (fun v f1 H locs hP hw hS => ?_)
  · exact hPX.elim
  · obtain ⟨ev9, hC8, hk8⟩ := hP
    subst ev9
    refine W.eq (g2 := F0 m 5 ls [.int (nI (gv j))]) rfl ?_
    refine lv_istore_n (lv' := [(2, .int (nI (gv j))), (0, .ref xo), (1, .int (nI j))]) hx hb dL_givenAt_5 rfl hl9 (by decide) rfl (fun ls hl9 => ?_)
    refine lv_goto (tgt := 13) hx hb dL_givenAt_6 (by decide) ?_
    refine lv_iload_n hx hb dL_givenAt_13 rfl (lv_at hl9 0 rfl) ?_
    exact hp_iret (v := (nI (gv j))) B0 hw hS hr ⟨Nat.le_of_ble_eq_true rfl, Nat.le_of_ble_eq_true rfl⟩ dL_givenAt_14 (⟨rfl, hC8, hk8⟩)

set_option maxHeartbeats 4000000 in
set_option maxRecDepth 100000 in
theorem c_V_givenAt_I {l : Launch} (hl : l.stackTraces = false) (G : hG) (f : hM) (xo ez eo bu nw0 na0 nq0 nr0 nw1 na1 nq1 nr1 bs bp bh bf bl bg : Nat) (S0 : ES) (S1 : ES) (gw0 : Nat → Int32) (ga0 : Nat → Int32) (gw1 : Nat → Int32) (ga1 : Nat → Int32) (n : Nat) (a : Nat) (cg : Nat) (x : Nat) (sa : Nat → Nat) (pk : Nat → Nat) (fl : Nat → Nat) (gv : Nat → Nat) (gh : Nat → Int32) (gl : Nat → Int32) (hC : CXW G f xo ez eo bu nw0 na0 nq0 nr0 nw1 na1 nq1 nr1 bs bp bh bf bl bg S0 S1 gw0 ga0 gw1 ga1 n a cg x sa pk fl gv gh gl) (hL0 : S0.2.2.2.2.2.2.2.2.length < 3000) (hL1 : S1.2.2.2.2.2.2.2.2.length < 3000) (xv : Int32) (hv : ¬ (0 ≤ xv.toInt ∧ xv.toInt < (cg : Int))) : CT l yL_givenAt (.codeWith yL_givenAt cL_givenAt 4 (some .int) [(0, 6, 9, 14)]) 7 103 1 6 G [.ref xo, .int xv] f (fun v f1 => v = some (.int (-71)) ∧ CXW G f1 xo ez eo bu nw0 na0 nq0 nr0 nw1 na1 nq1 nr1 bs bp bh bf bl bg S0 S1 gw0 ga0 gw1 ga1 n a cg x sa pk fl gv gh gl ∧ hKn [xo, ez, eo, bu, nw0, na0, nq0, nr0, nw1, na1, nq1, nr1, bs, bp, bh, bf, bl, bg] f f1) (fun E f1 => False) := by
  refine hp_startH hl (own := RL) (by decide) rfl (Nat.le_of_ble_eq_true rfl) ?_
  intro p e s m args below meth c B0 hr htab hw hS ls hl9
  have hx := B0.1
  have hb := B0.2.1
  have hl9 : lv_has ls 4 [(0, .ref xo), (1, .int xv)] := hl9
  have k_xo : f xo = some (.inr (4, [.ref ez, .ref eo, .ref bu])) := by obtain ⟨_, _, h9⟩ := hC; exact h9.1
  refine lv_aload_n hx hb dL_givenAt_0 rfl (lv_at hl9 0 rfl) ?_
  refine lv_iload_n hx hb dL_givenAt_1 rfl (lv_at hl9 1 rfl) ?_
  refine hp_V (ci := 4) (As := [.int xv]) (rest := []) B0 hw hS (c_P_givenAt_I hl G f xo ez eo bu nw0 na0 nq0 nr0 nw1 na1 nq1 nr1 bs bp bh bf bl bg S0 S1 gw0 ga0 gw1 ga1 n a cg x sa pk fl gv gh gl hC hL0 hL1 xv hv) mV_X4_givenAt qM_L_64 rfl k_xo rfl rfl hl9.1 (Nat.le_of_ble_eq_true rfl) ⟨⟨Nat.le_of_ble_eq_true rfl, Nat.le_of_ble_eq_true rfl⟩, Nat.le_of_ble_eq_true rfl, Nat.le_of_ble_eq_true rfl⟩ dL_givenAt_2 (fun E ce q9 f1 H locs hPX hw hS hce hcv hcl => ?_) (fun v f1 H locs hP hw hS => ?_)
  · obtain ⟨eE9, hC8, hk8⟩ := hPX
    subst eE9
    refine hp_catch (name := eI) B0 [] _ _ (htab.trans rfl) (fun z hz => nomatch hz) rfl (by decide) qC_L_14 oC_eI hce hcv hcl ?_
    refine W.eq (g2 := F0 m 9 ls [.ref q9]) rfl ?_
    refine lv_astore_n (lv' := [(3, .ref q9), (0, .ref xo), (1, .int xv)]) hx hb dL_givenAt_9 rfl hl9 (by decide) rfl (fun ls hl9 => ?_)
    refine lv_bipush (v := (-71)) hx hb dL_givenAt_10 (by decide) ?_
    exact hp_iret (v := (-71)) B0 hw hS hr ⟨Nat.le_of_ble_eq_true rfl, Nat.le_of_ble_eq_true rfl⟩ dL_givenAt_12 (⟨rfl, hC8, hk8⟩)
  · exact hP.elim

