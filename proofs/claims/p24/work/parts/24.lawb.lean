def g10 (tk : Nat → Nat) (gl : Nat → Int32) (a n x c : Nat) : Nat → Int32 := fun i => if i < 3 then nI (tk i) else if i < 6 then gl (i - 3) else if i = 6 then nI a else if i = 7 then nI n else if i = 8 then nI x else if i = 9 then nI c else 0
theorem g10_t {tk : Nat → Nat} {gl : Nat → Int32} {a n x c j v : Nat} (hj : j < 3) : upd (g10 tk gl a n x c) j (nI v) = g10 (va_up tk j v) gl a n x c := by
  funext i
  simp only [upd, g10, va_up]
  by_cases e : i = j
  · rw [if_pos e, if_pos (by omega), if_pos e]
  · rw [if_neg e, if_neg e]
theorem g10_l {tk : Nat → Nat} {gl : Nat → Int32} {a n x c j : Nat} {v : Int32} (hj : j < 3) : upd (g10 tk gl a n x c) (3 + j) v = g10 tk (upd gl j v) a n x c := by
  funext i
  simp only [upd, g10]
  by_cases e : i = 3 + j
  · rw [if_pos e, if_neg (by omega), if_pos (by omega), if_pos (by omega)]
  · rw [if_neg e]
    by_cases l : i < 3
    · rw [if_pos l, if_pos l]
    · rw [if_neg l, if_neg l]
      by_cases l2 : i < 6
      · rw [if_pos l2, if_pos l2, if_neg (by omega)]
      · rw [if_neg l2, if_neg l2]
theorem g10_6 {tk : Nat → Nat} {gl : Nat → Int32} {a n x c v : Nat} : upd (g10 tk gl a n x c) 6 (nI v) = g10 tk gl v n x c := by
  funext i; simp only [upd, g10]; by_cases h : i = 6 <;> simp [h]
theorem g10_7 {tk : Nat → Nat} {gl : Nat → Int32} {a n x c v : Nat} : upd (g10 tk gl a n x c) 7 (nI v) = g10 tk gl a v x c := by
  funext i; simp only [upd, g10]; by_cases h : i = 7 <;> simp [h]
theorem g10_8 {tk : Nat → Nat} {gl : Nat → Int32} {a n x c v : Nat} : upd (g10 tk gl a n x c) 8 (nI v) = g10 tk gl a n v c := by
  funext i; simp only [upd, g10]; by_cases h : i = 8 <;> simp [h]
theorem g10_9 {tk : Nat → Nat} {gl : Nat → Int32} {a n x c v : Nat} : upd (g10 tk gl a n x c) 9 (nI v) = g10 tk gl a n x v := by
  funext i; simp only [upd, g10]; by_cases h : i = 9 <;> simp [h]
/-- the pieces that have come, as bits -/
def HB (hn : Nat) (gh : Nat → Int32) : Prop := hn < 2 ^ 60 ∧ ∀ i, i < 60 → (hn / 2 ^ i % 2 = 1 ↔ ¬ gh i = 0)
set_option maxHeartbeats 4000000 in
set_option maxRecDepth 100000 in
theorem c_L_isTold {l : Launch} (hl : l.stackTraces = false) (G : hG) (f : hM) (xo ez eo bu nw0 na0 nq0 nr0 nw1 na1 nq1 nr1 bs bp bh bf bl bg : Nat) (S0 : ES) (S1 : ES) (gw0 : Nat → Int32) (ga0 : Nat → Int32) (gw1 : Nat → Int32) (ga1 : Nat → Int32) (n : Nat) (a : Nat) (cg : Nat) (x : Nat) (sa : Nat → Nat) (pk : Nat → Nat) (fl : Nat → Nat) (gv : Nat → Nat) (gh : Nat → Int32) (gl : Nat → Int32) (hC : CXW G f xo ez eo bu nw0 na0 nq0 nr0 nw1 na1 nq1 nr1 bs bp bh bf bl bg S0 S1 gw0 ga0 gw1 ga1 n a cg x sa pk fl gv gh gl) (lq le lr lg : Nat) (hdis : ∀ p, p ∈ [xo, ez, eo, bu, nw0, na0, nq0, nr0, nw1, na1, nq1, nr1, bs, bp, bh, bf, bl, bg] → p ∉ [lq, le, lr, lg]) (hdos : ∀ p, p ∈ [lq, le, lr, lg] → p ∉ [xo, ez, eo, bu, nw0, na0, nq0, nr0, nw1, na1, nq1, nr1, bs, bp, bh, bf, bl, bg]) (b : Nat) (gw2 ga2 gw3 ga3 : Nat → Int32) (hInv : INV b S0 S1 gw2 ga2 gw3 ga3) (hl0 : S0.2.2.2.2.2.2.2.2.length ≤ 52) (hl1 : S1.2.2.2.2.2.2.2.2.length ≤ 52) (tk : Nat → Nat) (k_lq : f lq = some (.inl (cI G, 12, .inl (j6 S0.2.2.2.2.2.2.2.1 S1.2.2.2.2.2.2.2.1)))) (k_le : f le = some (.inl (cI G, 16, .inl (jE (eS S0) (eS S1))))) (k_lr : f lr = some (.inl (cI G, 60, .inl (nf gv)))) (k_lg : f lg = some (.inl (cI G, 10, .inl (g10 tk gl a n x cg)))) : CT l yL_isTold (.code yL_isTold cL_isTold 8 (some .boolean)) 9 150 45 270 G [.ref xo, .ref lq, .ref le, .ref lr, .ref lg] f (fun v f1 => v = some (.int 1) ∧ CXW G f1 xo ez eo bu nw0 na0 nq0 nr0 nw1 na1 nq1 nr1 bs bp bh bf bl bg S0 S1 gw0 ga0 gw1 ga1 n a cg x sa pk fl gv gh gl ∧ hKn [xo, ez, eo, bu, nw0, na0, nq0, nr0, nw1, na1, nq1, nr1, bs, bp, bh, bf, bl, bg] f f1) (fun E f1 => False) := by
  refine hp_start hl (own := RL) (by decide) rfl (Nat.le_of_ble_eq_true rfl) ?_
  intro p e s m args below meth c B0 hr hnm hout hw hS ls hl9
  have hx := B0.1
  have hb := B0.2.1
  have hl9 : lv_has ls 8 [(0, .ref xo), (1, .ref lq), (2, .ref le), (3, .ref lr), (4, .ref lg)] := hl9
  have n_lq_le : lq ≠ le := hneL k_lq k_le (Nat.ne_of_beq_eq_false rfl)
  have n_lq_lr : lq ≠ lr := hneL k_lq k_lr (Nat.ne_of_beq_eq_false rfl)
  have n_lq_lg : lq ≠ lg := hneL k_lq k_lg (Nat.ne_of_beq_eq_false rfl)
  have n_le_lr : le ≠ lr := hneL k_le k_lr (Nat.ne_of_beq_eq_false rfl)
  have n_le_lg : le ≠ lg := hneL k_le k_lg (Nat.ne_of_beq_eq_false rfl)
  have n_lr_lg : lr ≠ lg := hneL k_lr k_lg (Nat.ne_of_beq_eq_false rfl)
  obtain ⟨hSo0, hSo1, -, -, -, -⟩ := id hInv
  have hc60 : cg ≤ 60 := by obtain ⟨_, _, h9⟩ := hC; exact (h9.2.2.2.2.2.2.2.2.2.2.2.2.2.2.1).cc
  have hlp0 := hSo0.2.2.2.1
  have hlp1 := hSo1.2.2.2.1
  have k_xo : f xo = some (.inr (4, [.ref ez, .ref eo, .ref bu])) := by obtain ⟨_, _, h9⟩ := hC; exact h9.1
  refine lv_iconst (v := 0) hx hb dL_isTold_0 (by decide) ?_
  refine lv_istore (lv' := [(5, .int 0), (0, .ref xo), (1, .ref lq), (2, .ref le), (3, .ref lr), (4, .ref lg)]) hx hb dL_isTold_1 hl9 (by decide) rfl (fun ls hl9 => ?_)
  refine lv_iload hx hb dL_isTold_3 (lv_at hl9 0 rfl) ?_
  refine lv_iconst (v := 2) hx hb dL_isTold_5 (by decide) ?_
  refine lv_icmp_ge (tgt := 146) hx hb dL_isTold_6 (by decide) (fun c9 => absurd c9 (by decide)) (fun _ => ?_)
  refine lv_bipush (v := 8) hx hb dL_isTold_9 (by decide) ?_
  refine lv_iload hx hb dL_isTold_11 (lv_at hl9 0 rfl) ?_
  refine lv_imul hx hb dL_isTold_13 ?_
  refine hp_c (v := 0) (by decide) ?_
  refine lv_istore (lv' := [(6, .int 0), (5, .int 0), (0, .ref xo), (1, .ref lq), (2, .ref le), (3, .ref lr), (4, .ref lg)]) hx hb dL_isTold_14 hl9 (by decide) rfl (fun ls hl9 => ?_)
  refine lv_aload_n hx hb dL_isTold_16 rfl (lv_at hl9 2 rfl) ?_
  refine lv_iload hx hb dL_isTold_17 (lv_at hl9 1 rfl) ?_
  refine hp_SH (As := [.ref xo, .int 0]) (rest := []) B0 hw hS (c_V_stateOf_0 hl G f xo ez eo bu nw0 na0 nq0 nr0 nw1 na1 nq1 nr1 bs bp bh bf bl bg S0 S1 gw0 ga0 gw1 ga1 n a cg x sa pk fl gv gh gl hC (Nat.lt_of_le_of_lt hl0 (by decide)) (Nat.lt_of_le_of_lt hl1 (by decide)) ) mH_L_stateOf qM_L_141 rfl rfl hl9.1 (Nat.le_of_ble_eq_true rfl) ⟨⟨Nat.le_of_ble_eq_true rfl, Nat.le_of_ble_eq_true rfl⟩, Nat.le_of_ble_eq_true rfl, Nat.le_of_ble_eq_true rfl⟩ dL_isTold_19 (fun E ce q9 f1 H locs hPX hw hS hce hcv hcl => ?_) (fun v f1 H locs hP hw hS => ?_)
  · exact hPX.elim
  · obtain ⟨ev9, hC2, k3⟩ := hP
    subst ev9
    have hC2 : CXW G f1 xo ez eo bu nw0 na0 nq0 nr0 nw1 na1 nq1 nr1 bs bp bh bf bl bg S0 S1 gw0 ga0 gw1 ga1 n a cg x sa pk fl gv gh gl := hC2
    refine W.eq (g2 := F0 m 22 ls [.int (S0.1)]) rfl ?_
    refine lv_aload_n hx hb dL_isTold_22 rfl (lv_at hl9 4 rfl) ?_
    refine lv_iload hx hb dL_isTold_23 (lv_at hl9 0 rfl) ?_
    have h4 : f1 le = some (.inl (cI G, 16, .inl (jE (eS S0) (eS S1)))) := k3 _ _ k_le (Nat.ne_of_beq_eq_false rfl) (hdos _ (List.mem_cons_of_mem _ List.mem_cons_self))
    refine hp_iald B0 hw h4 (by unfold vp_in; decide) dL_isTold_25 ?_
    refine hp_c (v := S0.1) (rfl) ?_
    refine lv_icmp_ne (tgt := 99) hx hb dL_isTold_26 (by decide) (fun c9 => absurd rfl c9) (fun _ => ?_)
    refine lv_aload_n hx hb dL_isTold_29 rfl (lv_at hl9 2 rfl) ?_
    refine lv_iload hx hb dL_isTold_30 (lv_at hl9 1 rfl) ?_
    have h5 : f1 xo = some (.inr (4, [.ref ez, .ref eo, .ref bu])) := by obtain ⟨_, _, h9⟩ := hC2; exact h9.1
    refine hp_V (ci := 4) (As := [.int 0]) (rest := []) B0 hw hS (c_P_requests_0 hl G f1 xo ez eo bu nw0 na0 nq0 nr0 nw1 na1 nq1 nr1 bs bp bh bf bl bg S0 S1 gw0 ga0 gw1 ga1 n a cg x sa pk fl gv gh gl hC2 (Nat.lt_of_le_of_lt hl0 (by decide)) (Nat.lt_of_le_of_lt hl1 (by decide))) mV_X4_requests qM_L_143 rfl h5 rfl rfl hl9.1 (Nat.le_of_ble_eq_true rfl) ⟨⟨Nat.le_of_ble_eq_true rfl, Nat.le_of_ble_eq_true rfl⟩, Nat.le_of_ble_eq_true rfl, Nat.le_of_ble_eq_true rfl⟩ dL_isTold_32 (fun E ce q9 f6 H locs hPX hw hS hce hcv hcl => ?_) (fun v f6 H locs hP hw hS => ?_)
    · exact hPX.elim
    · obtain ⟨ev9, hC7, k8⟩ := hP
      subst ev9
      refine W.eq (g2 := F0 m 35 ls [.int S0.2.2.1]) rfl ?_
      refine lv_aload_n hx hb dL_isTold_35 rfl (lv_at hl9 4 rfl) ?_
      refine lv_iload hx hb dL_isTold_36 (lv_at hl9 0 rfl) ?_
      refine lv_iconst (v := 2) hx hb dL_isTold_38 (by decide) ?_
      refine lv_iadd hx hb dL_isTold_39 ?_
      refine hp_c (v := 2) (by decide) ?_
      have h9 : f6 le = some (.inl (cI G, 16, .inl (jE (eS S0) (eS S1)))) := k8 _ _ h4 (Nat.ne_of_beq_eq_false rfl) (hdos _ (List.mem_cons_of_mem _ List.mem_cons_self))
      refine hp_iald B0 hw h9 (by unfold vp_in; decide) dL_isTold_40 ?_
      refine hp_c (v := S0.2.2.1) (rfl) ?_
      refine lv_icmp_ne (tgt := 99) hx hb dL_isTold_41 (by decide) (fun c9 => absurd rfl c9) (fun _ => ?_)
      refine lv_aload_n hx hb dL_isTold_44 rfl (lv_at hl9 2 rfl) ?_
      refine lv_iload hx hb dL_isTold_45 (lv_at hl9 1 rfl) ?_
      have h10 : f6 xo = some (.inr (4, [.ref ez, .ref eo, .ref bu])) := by obtain ⟨_, _, h9⟩ := hC7; exact h9.1
      refine hp_V (ci := 4) (As := [.int 0]) (rest := []) B0 hw hS (c_P_isLooped_0 hl G f6 xo ez eo bu nw0 na0 nq0 nr0 nw1 na1 nq1 nr1 bs bp bh bf bl bg S0 S1 gw0 ga0 gw1 ga1 n a cg x sa pk fl gv gh gl hC7 (Nat.lt_of_le_of_lt hl0 (by decide)) (Nat.lt_of_le_of_lt hl1 (by decide))) mV_X4_isLooped qM_L_146 rfl h10 rfl rfl hl9.1 (Nat.le_of_ble_eq_true rfl) ⟨⟨Nat.le_of_ble_eq_true rfl, Nat.le_of_ble_eq_true rfl⟩, Nat.le_of_ble_eq_true rfl, Nat.le_of_ble_eq_true rfl⟩ dL_isTold_47 (fun E ce q9 f11 H locs hPX hw hS hce hcv hcl => ?_) (fun v f11 H locs hP hw hS => ?_)
      · exact hPX.elim
      · obtain ⟨ev9, hC12, k13⟩ := hP
        subst ev9
        refine W.eq (g2 := F0 m 50 ls [.int S0.2.2.2.2.1]) rfl ?_
        refine lv_aload_n hx hb dL_isTold_50 rfl (lv_at hl9 4 rfl) ?_
        refine lv_iload hx hb dL_isTold_51 (lv_at hl9 0 rfl) ?_
        refine lv_iconst (v := 4) hx hb dL_isTold_53 (by decide) ?_
        refine lv_iadd hx hb dL_isTold_54 ?_
        refine hp_c (v := 4) (by decide) ?_
        have h14 : f11 le = some (.inl (cI G, 16, .inl (jE (eS S0) (eS S1)))) := k13 _ _ h9 (Nat.ne_of_beq_eq_false rfl) (hdos _ (List.mem_cons_of_mem _ List.mem_cons_self))
        refine hp_iald B0 hw h14 (by unfold vp_in; decide) dL_isTold_55 ?_
        refine hp_c (v := S0.2.2.2.2.1) (rfl) ?_
        refine lv_iconst (v := 1) hx hb dL_isTold_56 (by decide) ?_
        refine lv_icmp_ne (tgt := 64) hx hb dL_isTold_57 (by decide) (fun c15 => ?_) (fun c15 => ?_)
        · refine lv_iconst (v := 0) hx hb dL_isTold_64 (by decide) ?_
          refine lv_icmp_ne (tgt := 99) hx hb dL_isTold_65 (by decide) (fun c9 => absurd (hlp0.resolve_right c15) c9) (fun _ => ?_)
          refine lv_aload_n hx hb dL_isTold_68 rfl (lv_at hl9 2 rfl) ?_
          refine lv_iload hx hb dL_isTold_69 (lv_at hl9 1 rfl) ?_
          refine hp_SH (As := [.ref xo, .int 0]) (rest := []) B0 hw hS (c_V_underWay_0 hl G f11 xo ez eo bu nw0 na0 nq0 nr0 nw1 na1 nq1 nr1 bs bp bh bf bl bg S0 S1 gw0 ga0 gw1 ga1 n a cg x sa pk fl gv gh gl hC12 (Nat.lt_of_le_of_lt hl0 (by decide)) (Nat.lt_of_le_of_lt hl1 (by decide)) ) mH_L_underWay qM_L_150 rfl rfl hl9.1 (Nat.le_of_ble_eq_true rfl) ⟨⟨Nat.le_of_ble_eq_true rfl, Nat.le_of_ble_eq_true rfl⟩, Nat.le_of_ble_eq_true rfl, Nat.le_of_ble_eq_true rfl⟩ dL_isTold_71 (fun E ce q9 f16 H locs hPX hw hS hce hcv hcl => ?_) (fun v f16 H locs hP hw hS => ?_)
          · exact hPX.elim
          · obtain ⟨ev9, hC17, k18⟩ := hP
            subst ev9
            have hC17 : CXW G f16 xo ez eo bu nw0 na0 nq0 nr0 nw1 na1 nq1 nr1 bs bp bh bf bl bg S0 S1 gw0 ga0 gw1 ga1 n a cg x sa pk fl gv gh gl := hC17
            refine W.eq (g2 := F0 m 74 ls [.int ((nI S0.2.2.2.2.2.2.2.2.length))]) rfl ?_
            refine lv_aload_n hx hb dL_isTold_74 rfl (lv_at hl9 4 rfl) ?_
            refine lv_iload hx hb dL_isTold_75 (lv_at hl9 0 rfl) ?_
            refine lv_bipush (v := 7) hx hb dL_isTold_77 (by decide) ?_
            refine lv_iadd hx hb dL_isTold_79 ?_
            refine hp_c (v := 7) (by decide) ?_
            have h19 : f16 le = some (.inl (cI G, 16, .inl (jE (eS S0) (eS S1)))) := k18 _ _ h14 (Nat.ne_of_beq_eq_false rfl) (hdos _ (List.mem_cons_of_mem _ List.mem_cons_self))
            refine hp_iald B0 hw h19 (by unfold vp_in; decide) dL_isTold_80 ?_
            refine hp_c (v := (nI S0.2.2.2.2.2.2.2.2.length)) (rfl) ?_
            refine lv_icmp_ne (tgt := 99) hx hb dL_isTold_81 (by decide) (fun c9 => absurd rfl c9) (fun _ => ?_)
            refine lv_aload_n hx hb dL_isTold_84 rfl (lv_at hl9 2 rfl) ?_
            refine lv_iload hx hb dL_isTold_85 (lv_at hl9 1 rfl) ?_
            have h20 : f16 xo = some (.inr (4, [.ref ez, .ref eo, .ref bu])) := by obtain ⟨_, _, h9⟩ := hC17; exact h9.1
            refine hp_V (ci := 4) (As := [.int 0]) (rest := []) B0 hw hS (c_P_missed_0 hl G f16 xo ez eo bu nw0 na0 nq0 nr0 nw1 na1 nq1 nr1 bs bp bh bf bl bg S0 S1 gw0 ga0 gw1 ga1 n a cg x sa pk fl gv gh gl hC17 (Nat.lt_of_le_of_lt hl0 (by decide)) (Nat.lt_of_le_of_lt hl1 (by decide))) mV_X4_missed qM_L_152 rfl h20 rfl rfl hl9.1 (Nat.le_of_ble_eq_true rfl) ⟨⟨Nat.le_of_ble_eq_true rfl, Nat.le_of_ble_eq_true rfl⟩, Nat.le_of_ble_eq_true rfl, Nat.le_of_ble_eq_true rfl⟩ dL_isTold_87 (fun E ce q9 f21 H locs hPX hw hS hce hcv hcl => ?_) (fun v f21 H locs hP hw hS => ?_)
            · exact hPX.elim
            · obtain ⟨ev9, hC22, k23⟩ := hP
              subst ev9
              refine W.eq (g2 := F0 m 90 ls [.int S0.2.2.2.2.2.1]) rfl ?_
              refine lv_aload_n hx hb dL_isTold_90 rfl (lv_at hl9 4 rfl) ?_
              refine lv_iload hx hb dL_isTold_91 (lv_at hl9 0 rfl) ?_
              refine lv_iconst (v := 5) hx hb dL_isTold_93 (by decide) ?_
              refine lv_iadd hx hb dL_isTold_94 ?_
              refine hp_c (v := 5) (by decide) ?_
              have h24 : f21 le = some (.inl (cI G, 16, .inl (jE (eS S0) (eS S1)))) := k23 _ _ h19 (Nat.ne_of_beq_eq_false rfl) (hdos _ (List.mem_cons_of_mem _ List.mem_cons_self))
              refine hp_iald B0 hw h24 (by unfold vp_in; decide) dL_isTold_95 ?_
              refine hp_c (v := S0.2.2.2.2.2.1) (rfl) ?_
              refine lv_icmp_eq (tgt := 101) hx hb dL_isTold_96 (by decide) (fun _ => ?_) (fun c9 => absurd rfl c9)
              refine lv_iconst (v := 0) hx hb dL_isTold_101 (by decide) ?_
              refine lv_istore (lv' := [(7, .int 0), (6, .int 0), (5, .int 0), (0, .ref xo), (1, .ref lq), (2, .ref le), (3, .ref lr), (4, .ref lg)]) hx hb dL_isTold_102 hl9 (by decide) rfl (fun ls hl9 => ?_)
              refine lv_iload hx hb dL_isTold_104 (lv_at hl9 0 rfl) ?_
              refine lv_bipush (v := 6) hx hb dL_isTold_106 (by decide) ?_
              refine lv_icmp_ge (tgt := 140) hx hb dL_isTold_108 (by decide) (fun c9 => absurd c9 (by decide)) (fun _ => ?_)
              refine lv_aload_n hx hb dL_isTold_111 rfl (lv_at hl9 3 rfl) ?_
              refine lv_iload hx hb dL_isTold_112 (lv_at hl9 2 rfl) ?_
              refine lv_iload hx hb dL_isTold_114 (lv_at hl9 0 rfl) ?_
              refine hp_SH (As := [.ref xo, .int 0, .int 0]) (rest := []) B0 hw hS (c_V_asked_0 hl G f21 xo ez eo bu nw0 na0 nq0 nr0 nw1 na1 nq1 nr1 bs bp bh bf bl bg S0 S1 gw0 ga0 gw1 ga1 n a cg x sa pk fl gv gh gl hC22 (Nat.lt_of_le_of_lt hl0 (by decide)) (Nat.lt_of_le_of_lt hl1 (by decide)) 0 (by decide)) mH_L_asked qM_L_155 rfl rfl hl9.1 (Nat.le_of_ble_eq_true rfl) ⟨⟨Nat.le_of_ble_eq_true rfl, Nat.le_of_ble_eq_true rfl⟩, Nat.le_of_ble_eq_true rfl, Nat.le_of_ble_eq_true rfl⟩ dL_isTold_116 (fun E ce q9 f25 H locs hPX hw hS hce hcv hcl => ?_) (fun v f25 H locs hP hw hS => ?_)
              · exact hPX.elim
              · obtain ⟨ev9, hC26, k27⟩ := hP
                subst ev9
                have hC26 : CXW G f25 xo ez eo bu nw0 na0 nq0 nr0 nw1 na1 nq1 nr1 bs bp bh bf bl bg S0 S1 gw0 ga0 gw1 ga1 n a cg x sa pk fl gv gh gl := hC26
                refine W.eq (g2 := F0 m 119 ls [.int ((S0.2.2.2.2.2.2.2.1 0))]) rfl ?_
                refine lv_aload_n hx hb dL_isTold_119 rfl (lv_at hl9 4 rfl) ?_
                refine lv_bipush (v := 6) hx hb dL_isTold_120 (by decide) ?_
                refine lv_iload hx hb dL_isTold_122 (lv_at hl9 2 rfl) ?_
                refine lv_imul hx hb dL_isTold_124 ?_
                refine hp_c (v := 0) (by decide) ?_
                refine lv_iload hx hb dL_isTold_125 (lv_at hl9 0 rfl) ?_
                refine lv_iadd hx hb dL_isTold_127 ?_
                refine hp_c (v := 0) (by decide) ?_
                have h28 : f1 lq = some (.inl (cI G, 12, .inl (j6 S0.2.2.2.2.2.2.2.1 S1.2.2.2.2.2.2.2.1))) := k3 _ _ k_lq (Nat.ne_of_beq_eq_false rfl) (hdos _ List.mem_cons_self)
                have h29 : f6 lq = some (.inl (cI G, 12, .inl (j6 S0.2.2.2.2.2.2.2.1 S1.2.2.2.2.2.2.2.1))) := k8 _ _ h28 (Nat.ne_of_beq_eq_false rfl) (hdos _ List.mem_cons_self)
                have h30 : f11 lq = some (.inl (cI G, 12, .inl (j6 S0.2.2.2.2.2.2.2.1 S1.2.2.2.2.2.2.2.1))) := k13 _ _ h29 (Nat.ne_of_beq_eq_false rfl) (hdos _ List.mem_cons_self)
                have h31 : f16 lq = some (.inl (cI G, 12, .inl (j6 S0.2.2.2.2.2.2.2.1 S1.2.2.2.2.2.2.2.1))) := k18 _ _ h30 (Nat.ne_of_beq_eq_false rfl) (hdos _ List.mem_cons_self)
                have h32 : f21 lq = some (.inl (cI G, 12, .inl (j6 S0.2.2.2.2.2.2.2.1 S1.2.2.2.2.2.2.2.1))) := k23 _ _ h31 (Nat.ne_of_beq_eq_false rfl) (hdos _ List.mem_cons_self)
                have h33 : f25 lq = some (.inl (cI G, 12, .inl (j6 S0.2.2.2.2.2.2.2.1 S1.2.2.2.2.2.2.2.1))) := k27 _ _ h32 (Nat.ne_of_beq_eq_false rfl) (hdos _ List.mem_cons_self)
                refine hp_iald B0 hw h33 (by unfold vp_in; decide) dL_isTold_128 ?_
                refine hp_c (v := (S0.2.2.2.2.2.2.2.1 0)) (rfl) ?_
                refine lv_icmp_eq (tgt := 134) hx hb dL_isTold_129 (by decide) (fun _ => ?_) (fun c9 => absurd rfl c9)
                refine lv_iinc (v := 1) (lv' := [(7, .int 1), (6, .int 0), (5, .int 0), (0, .ref xo), (1, .ref lq), (2, .ref le), (3, .ref lr), (4, .ref lg)]) hx hb dL_isTold_134 hl9 (k := 0) rfl (by decide) (by decide) rfl (fun ls hl9 => ?_)
                refine lv_goto (tgt := 104) hx hb dL_isTold_137 (by decide) ?_
                refine lv_iload hx hb dL_isTold_104 (lv_at hl9 0 rfl) ?_
                refine lv_bipush (v := 6) hx hb dL_isTold_106 (by decide) ?_
                refine lv_icmp_ge (tgt := 140) hx hb dL_isTold_108 (by decide) (fun c9 => absurd c9 (by decide)) (fun _ => ?_)
                refine lv_aload_n hx hb dL_isTold_111 rfl (lv_at hl9 3 rfl) ?_
                refine lv_iload hx hb dL_isTold_112 (lv_at hl9 2 rfl) ?_
                refine lv_iload hx hb dL_isTold_114 (lv_at hl9 0 rfl) ?_
                refine hp_SH (As := [.ref xo, .int 0, .int 1]) (rest := []) B0 hw hS (c_V_asked_0 hl G f25 xo ez eo bu nw0 na0 nq0 nr0 nw1 na1 nq1 nr1 bs bp bh bf bl bg S0 S1 gw0 ga0 gw1 ga1 n a cg x sa pk fl gv gh gl hC26 (Nat.lt_of_le_of_lt hl0 (by decide)) (Nat.lt_of_le_of_lt hl1 (by decide)) 1 (by decide)) mH_L_asked qM_L_155 rfl rfl hl9.1 (Nat.le_of_ble_eq_true rfl) ⟨⟨Nat.le_of_ble_eq_true rfl, Nat.le_of_ble_eq_true rfl⟩, Nat.le_of_ble_eq_true rfl, Nat.le_of_ble_eq_true rfl⟩ dL_isTold_116 (fun E ce q9 f34 H locs hPX hw hS hce hcv hcl => ?_) (fun v f34 H locs hP hw hS => ?_)
                · exact hPX.elim
                · obtain ⟨ev9, hC35, k36⟩ := hP
                  subst ev9
                  have hC35 : CXW G f34 xo ez eo bu nw0 na0 nq0 nr0 nw1 na1 nq1 nr1 bs bp bh bf bl bg S0 S1 gw0 ga0 gw1 ga1 n a cg x sa pk fl gv gh gl := hC35
                  refine W.eq (g2 := F0 m 119 ls [.int ((S0.2.2.2.2.2.2.2.1 1))]) rfl ?_
                  refine lv_aload_n hx hb dL_isTold_119 rfl (lv_at hl9 4 rfl) ?_
                  refine lv_bipush (v := 6) hx hb dL_isTold_120 (by decide) ?_
                  refine lv_iload hx hb dL_isTold_122 (lv_at hl9 2 rfl) ?_
                  refine lv_imul hx hb dL_isTold_124 ?_
                  refine hp_c (v := 0) (by decide) ?_
                  refine lv_iload hx hb dL_isTold_125 (lv_at hl9 0 rfl) ?_
                  refine lv_iadd hx hb dL_isTold_127 ?_
                  refine hp_c (v := 1) (by decide) ?_
                  have h37 : f34 lq = some (.inl (cI G, 12, .inl (j6 S0.2.2.2.2.2.2.2.1 S1.2.2.2.2.2.2.2.1))) := k36 _ _ h33 (Nat.ne_of_beq_eq_false rfl) (hdos _ List.mem_cons_self)
                  refine hp_iald B0 hw h37 (by unfold vp_in; decide) dL_isTold_128 ?_
                  refine hp_c (v := (S0.2.2.2.2.2.2.2.1 1)) (rfl) ?_
                  refine lv_icmp_eq (tgt := 134) hx hb dL_isTold_129 (by decide) (fun _ => ?_) (fun c9 => absurd rfl c9)
                  refine lv_iinc (v := 2) (lv' := [(7, .int 2), (6, .int 0), (5, .int 0), (0, .ref xo), (1, .ref lq), (2, .ref le), (3, .ref lr), (4, .ref lg)]) hx hb dL_isTold_134 hl9 (k := 0) rfl (by decide) (by decide) rfl (fun ls hl9 => ?_)
                  refine lv_goto (tgt := 104) hx hb dL_isTold_137 (by decide) ?_
                  refine lv_iload hx hb dL_isTold_104 (lv_at hl9 0 rfl) ?_
                  refine lv_bipush (v := 6) hx hb dL_isTold_106 (by decide) ?_
                  refine lv_icmp_ge (tgt := 140) hx hb dL_isTold_108 (by decide) (fun c9 => absurd c9 (by decide)) (fun _ => ?_)
                  refine lv_aload_n hx hb dL_isTold_111 rfl (lv_at hl9 3 rfl) ?_
                  refine lv_iload hx hb dL_isTold_112 (lv_at hl9 2 rfl) ?_
                  refine lv_iload hx hb dL_isTold_114 (lv_at hl9 0 rfl) ?_
                  refine hp_SH (As := [.ref xo, .int 0, .int 2]) (rest := []) B0 hw hS (c_V_asked_0 hl G f34 xo ez eo bu nw0 na0 nq0 nr0 nw1 na1 nq1 nr1 bs bp bh bf bl bg S0 S1 gw0 ga0 gw1 ga1 n a cg x sa pk fl gv gh gl hC35 (Nat.lt_of_le_of_lt hl0 (by decide)) (Nat.lt_of_le_of_lt hl1 (by decide)) 2 (by decide)) mH_L_asked qM_L_155 rfl rfl hl9.1 (Nat.le_of_ble_eq_true rfl) ⟨⟨Nat.le_of_ble_eq_true rfl, Nat.le_of_ble_eq_true rfl⟩, Nat.le_of_ble_eq_true rfl, Nat.le_of_ble_eq_true rfl⟩ dL_isTold_116 (fun E ce q9 f38 H locs hPX hw hS hce hcv hcl => ?_) (fun v f38 H locs hP hw hS => ?_)
                  · exact hPX.elim
                  · obtain ⟨ev9, hC39, k40⟩ := hP
                    subst ev9
                    have hC39 : CXW G f38 xo ez eo bu nw0 na0 nq0 nr0 nw1 na1 nq1 nr1 bs bp bh bf bl bg S0 S1 gw0 ga0 gw1 ga1 n a cg x sa pk fl gv gh gl := hC39
                    refine W.eq (g2 := F0 m 119 ls [.int ((S0.2.2.2.2.2.2.2.1 2))]) rfl ?_
                    refine lv_aload_n hx hb dL_isTold_119 rfl (lv_at hl9 4 rfl) ?_
                    refine lv_bipush (v := 6) hx hb dL_isTold_120 (by decide) ?_
                    refine lv_iload hx hb dL_isTold_122 (lv_at hl9 2 rfl) ?_
                    refine lv_imul hx hb dL_isTold_124 ?_
                    refine hp_c (v := 0) (by decide) ?_
                    refine lv_iload hx hb dL_isTold_125 (lv_at hl9 0 rfl) ?_
                    refine lv_iadd hx hb dL_isTold_127 ?_
                    refine hp_c (v := 2) (by decide) ?_
                    have h41 : f38 lq = some (.inl (cI G, 12, .inl (j6 S0.2.2.2.2.2.2.2.1 S1.2.2.2.2.2.2.2.1))) := k40 _ _ h37 (Nat.ne_of_beq_eq_false rfl) (hdos _ List.mem_cons_self)
                    refine hp_iald B0 hw h41 (by unfold vp_in; decide) dL_isTold_128 ?_
                    refine hp_c (v := (S0.2.2.2.2.2.2.2.1 2)) (rfl) ?_
                    refine lv_icmp_eq (tgt := 134) hx hb dL_isTold_129 (by decide) (fun _ => ?_) (fun c9 => absurd rfl c9)
                    refine lv_iinc (v := 3) (lv' := [(7, .int 3), (6, .int 0), (5, .int 0), (0, .ref xo), (1, .ref lq), (2, .ref le), (3, .ref lr), (4, .ref lg)]) hx hb dL_isTold_134 hl9 (k := 0) rfl (by decide) (by decide) rfl (fun ls hl9 => ?_)
                    refine lv_goto (tgt := 104) hx hb dL_isTold_137 (by decide) ?_
                    refine lv_iload hx hb dL_isTold_104 (lv_at hl9 0 rfl) ?_
                    refine lv_bipush (v := 6) hx hb dL_isTold_106 (by decide) ?_
                    refine lv_icmp_ge (tgt := 140) hx hb dL_isTold_108 (by decide) (fun c9 => absurd c9 (by decide)) (fun _ => ?_)
                    refine lv_aload_n hx hb dL_isTold_111 rfl (lv_at hl9 3 rfl) ?_
                    refine lv_iload hx hb dL_isTold_112 (lv_at hl9 2 rfl) ?_
                    refine lv_iload hx hb dL_isTold_114 (lv_at hl9 0 rfl) ?_
                    refine hp_SH (As := [.ref xo, .int 0, .int 3]) (rest := []) B0 hw hS (c_V_asked_0 hl G f38 xo ez eo bu nw0 na0 nq0 nr0 nw1 na1 nq1 nr1 bs bp bh bf bl bg S0 S1 gw0 ga0 gw1 ga1 n a cg x sa pk fl gv gh gl hC39 (Nat.lt_of_le_of_lt hl0 (by decide)) (Nat.lt_of_le_of_lt hl1 (by decide)) 3 (by decide)) mH_L_asked qM_L_155 rfl rfl hl9.1 (Nat.le_of_ble_eq_true rfl) ⟨⟨Nat.le_of_ble_eq_true rfl, Nat.le_of_ble_eq_true rfl⟩, Nat.le_of_ble_eq_true rfl, Nat.le_of_ble_eq_true rfl⟩ dL_isTold_116 (fun E ce q9 f42 H locs hPX hw hS hce hcv hcl => ?_) (fun v f42 H locs hP hw hS => ?_)
                    · exact hPX.elim
                    · obtain ⟨ev9, hC43, k44⟩ := hP
                      subst ev9
                      have hC43 : CXW G f42 xo ez eo bu nw0 na0 nq0 nr0 nw1 na1 nq1 nr1 bs bp bh bf bl bg S0 S1 gw0 ga0 gw1 ga1 n a cg x sa pk fl gv gh gl := hC43
                      refine W.eq (g2 := F0 m 119 ls [.int ((S0.2.2.2.2.2.2.2.1 3))]) rfl ?_
                      refine lv_aload_n hx hb dL_isTold_119 rfl (lv_at hl9 4 rfl) ?_
                      refine lv_bipush (v := 6) hx hb dL_isTold_120 (by decide) ?_
                      refine lv_iload hx hb dL_isTold_122 (lv_at hl9 2 rfl) ?_
                      refine lv_imul hx hb dL_isTold_124 ?_
                      refine hp_c (v := 0) (by decide) ?_
                      refine lv_iload hx hb dL_isTold_125 (lv_at hl9 0 rfl) ?_
                      refine lv_iadd hx hb dL_isTold_127 ?_
                      refine hp_c (v := 3) (by decide) ?_
                      have h45 : f42 lq = some (.inl (cI G, 12, .inl (j6 S0.2.2.2.2.2.2.2.1 S1.2.2.2.2.2.2.2.1))) := k44 _ _ h41 (Nat.ne_of_beq_eq_false rfl) (hdos _ List.mem_cons_self)
                      refine hp_iald B0 hw h45 (by unfold vp_in; decide) dL_isTold_128 ?_
                      refine hp_c (v := (S0.2.2.2.2.2.2.2.1 3)) (rfl) ?_
                      refine lv_icmp_eq (tgt := 134) hx hb dL_isTold_129 (by decide) (fun _ => ?_) (fun c9 => absurd rfl c9)
                      refine lv_iinc (v := 4) (lv' := [(7, .int 4), (6, .int 0), (5, .int 0), (0, .ref xo), (1, .ref lq), (2, .ref le), (3, .ref lr), (4, .ref lg)]) hx hb dL_isTold_134 hl9 (k := 0) rfl (by decide) (by decide) rfl (fun ls hl9 => ?_)
                      refine lv_goto (tgt := 104) hx hb dL_isTold_137 (by decide) ?_
                      refine lv_iload hx hb dL_isTold_104 (lv_at hl9 0 rfl) ?_
                      refine lv_bipush (v := 6) hx hb dL_isTold_106 (by decide) ?_
                      refine lv_icmp_ge (tgt := 140) hx hb dL_isTold_108 (by decide) (fun c9 => absurd c9 (by decide)) (fun _ => ?_)
                      refine lv_aload_n hx hb dL_isTold_111 rfl (lv_at hl9 3 rfl) ?_
                      refine lv_iload hx hb dL_isTold_112 (lv_at hl9 2 rfl) ?_
                      refine lv_iload hx hb dL_isTold_114 (lv_at hl9 0 rfl) ?_
                      refine hp_SH (As := [.ref xo, .int 0, .int 4]) (rest := []) B0 hw hS (c_V_asked_0 hl G f42 xo ez eo bu nw0 na0 nq0 nr0 nw1 na1 nq1 nr1 bs bp bh bf bl bg S0 S1 gw0 ga0 gw1 ga1 n a cg x sa pk fl gv gh gl hC43 (Nat.lt_of_le_of_lt hl0 (by decide)) (Nat.lt_of_le_of_lt hl1 (by decide)) 4 (by decide)) mH_L_asked qM_L_155 rfl rfl hl9.1 (Nat.le_of_ble_eq_true rfl) ⟨⟨Nat.le_of_ble_eq_true rfl, Nat.le_of_ble_eq_true rfl⟩, Nat.le_of_ble_eq_true rfl, Nat.le_of_ble_eq_true rfl⟩ dL_isTold_116 (fun E ce q9 f46 H locs hPX hw hS hce hcv hcl => ?_) (fun v f46 H locs hP hw hS => ?_)
                      · exact hPX.elim
                      · obtain ⟨ev9, hC47, k48⟩ := hP
                        subst ev9
                        have hC47 : CXW G f46 xo ez eo bu nw0 na0 nq0 nr0 nw1 na1 nq1 nr1 bs bp bh bf bl bg S0 S1 gw0 ga0 gw1 ga1 n a cg x sa pk fl gv gh gl := hC47
                        refine W.eq (g2 := F0 m 119 ls [.int ((S0.2.2.2.2.2.2.2.1 4))]) rfl ?_
                        refine lv_aload_n hx hb dL_isTold_119 rfl (lv_at hl9 4 rfl) ?_
                        refine lv_bipush (v := 6) hx hb dL_isTold_120 (by decide) ?_
                        refine lv_iload hx hb dL_isTold_122 (lv_at hl9 2 rfl) ?_
                        refine lv_imul hx hb dL_isTold_124 ?_
                        refine hp_c (v := 0) (by decide) ?_
                        refine lv_iload hx hb dL_isTold_125 (lv_at hl9 0 rfl) ?_
                        refine lv_iadd hx hb dL_isTold_127 ?_
                        refine hp_c (v := 4) (by decide) ?_
                        have h49 : f46 lq = some (.inl (cI G, 12, .inl (j6 S0.2.2.2.2.2.2.2.1 S1.2.2.2.2.2.2.2.1))) := k48 _ _ h45 (Nat.ne_of_beq_eq_false rfl) (hdos _ List.mem_cons_self)
                        refine hp_iald B0 hw h49 (by unfold vp_in; decide) dL_isTold_128 ?_
                        refine hp_c (v := (S0.2.2.2.2.2.2.2.1 4)) (rfl) ?_
                        refine lv_icmp_eq (tgt := 134) hx hb dL_isTold_129 (by decide) (fun _ => ?_) (fun c9 => absurd rfl c9)
                        refine lv_iinc (v := 5) (lv' := [(7, .int 5), (6, .int 0), (5, .int 0), (0, .ref xo), (1, .ref lq), (2, .ref le), (3, .ref lr), (4, .ref lg)]) hx hb dL_isTold_134 hl9 (k := 0) rfl (by decide) (by decide) rfl (fun ls hl9 => ?_)
                        refine lv_goto (tgt := 104) hx hb dL_isTold_137 (by decide) ?_
                        refine lv_iload hx hb dL_isTold_104 (lv_at hl9 0 rfl) ?_
                        refine lv_bipush (v := 6) hx hb dL_isTold_106 (by decide) ?_
                        refine lv_icmp_ge (tgt := 140) hx hb dL_isTold_108 (by decide) (fun c9 => absurd c9 (by decide)) (fun _ => ?_)
                        refine lv_aload_n hx hb dL_isTold_111 rfl (lv_at hl9 3 rfl) ?_
                        refine lv_iload hx hb dL_isTold_112 (lv_at hl9 2 rfl) ?_
                        refine lv_iload hx hb dL_isTold_114 (lv_at hl9 0 rfl) ?_
                        refine hp_SH (As := [.ref xo, .int 0, .int 5]) (rest := []) B0 hw hS (c_V_asked_0 hl G f46 xo ez eo bu nw0 na0 nq0 nr0 nw1 na1 nq1 nr1 bs bp bh bf bl bg S0 S1 gw0 ga0 gw1 ga1 n a cg x sa pk fl gv gh gl hC47 (Nat.lt_of_le_of_lt hl0 (by decide)) (Nat.lt_of_le_of_lt hl1 (by decide)) 5 (by decide)) mH_L_asked qM_L_155 rfl rfl hl9.1 (Nat.le_of_ble_eq_true rfl) ⟨⟨Nat.le_of_ble_eq_true rfl, Nat.le_of_ble_eq_true rfl⟩, Nat.le_of_ble_eq_true rfl, Nat.le_of_ble_eq_true rfl⟩ dL_isTold_116 (fun E ce q9 f50 H locs hPX hw hS hce hcv hcl => ?_) (fun v f50 H locs hP hw hS => ?_)
                        · exact hPX.elim
                        · obtain ⟨ev9, hC51, k52⟩ := hP
                          subst ev9
                          have hC51 : CXW G f50 xo ez eo bu nw0 na0 nq0 nr0 nw1 na1 nq1 nr1 bs bp bh bf bl bg S0 S1 gw0 ga0 gw1 ga1 n a cg x sa pk fl gv gh gl := hC51
                          refine W.eq (g2 := F0 m 119 ls [.int ((S0.2.2.2.2.2.2.2.1 5))]) rfl ?_
                          refine lv_aload_n hx hb dL_isTold_119 rfl (lv_at hl9 4 rfl) ?_
                          refine lv_bipush (v := 6) hx hb dL_isTold_120 (by decide) ?_
                          refine lv_iload hx hb dL_isTold_122 (lv_at hl9 2 rfl) ?_
                          refine lv_imul hx hb dL_isTold_124 ?_
                          refine hp_c (v := 0) (by decide) ?_
                          refine lv_iload hx hb dL_isTold_125 (lv_at hl9 0 rfl) ?_
                          refine lv_iadd hx hb dL_isTold_127 ?_
                          refine hp_c (v := 5) (by decide) ?_
                          have h53 : f50 lq = some (.inl (cI G, 12, .inl (j6 S0.2.2.2.2.2.2.2.1 S1.2.2.2.2.2.2.2.1))) := k52 _ _ h49 (Nat.ne_of_beq_eq_false rfl) (hdos _ List.mem_cons_self)
                          refine hp_iald B0 hw h53 (by unfold vp_in; decide) dL_isTold_128 ?_
                          refine hp_c (v := (S0.2.2.2.2.2.2.2.1 5)) (rfl) ?_
                          refine lv_icmp_eq (tgt := 134) hx hb dL_isTold_129 (by decide) (fun _ => ?_) (fun c9 => absurd rfl c9)
                          refine lv_iinc (v := 6) (lv' := [(7, .int 6), (6, .int 0), (5, .int 0), (0, .ref xo), (1, .ref lq), (2, .ref le), (3, .ref lr), (4, .ref lg)]) hx hb dL_isTold_134 hl9 (k := 0) rfl (by decide) (by decide) rfl (fun ls hl9 => ?_)
                          refine lv_goto (tgt := 104) hx hb dL_isTold_137 (by decide) ?_
                          refine lv_iload hx hb dL_isTold_104 (lv_at hl9 0 rfl) ?_
                          refine lv_bipush (v := 6) hx hb dL_isTold_106 (by decide) ?_
                          refine lv_icmp_ge (tgt := 140) hx hb dL_isTold_108 (by decide) (fun _ => ?_) (fun c9 => absurd (by decide) c9)
                          refine lv_iinc (v := 1) (lv' := [(5, .int 1), (7, .int 6), (6, .int 0), (0, .ref xo), (1, .ref lq), (2, .ref le), (3, .ref lr), (4, .ref lg)]) hx hb dL_isTold_140 hl9 (k := 2) rfl (by decide) (by decide) rfl (fun ls hl9 => ?_)
                          refine lv_goto (tgt := 3) hx hb dL_isTold_143 (by decide) ?_
                          refine lv_iload hx hb dL_isTold_3 (lv_at hl9 0 rfl) ?_
                          refine lv_iconst (v := 2) hx hb dL_isTold_5 (by decide) ?_
                          refine lv_icmp_ge (tgt := 146) hx hb dL_isTold_6 (by decide) (fun c9 => absurd c9 (by decide)) (fun _ => ?_)
                          refine lv_bipush (v := 8) hx hb dL_isTold_9 (by decide) ?_
                          refine lv_iload hx hb dL_isTold_11 (lv_at hl9 0 rfl) ?_
                          refine lv_imul hx hb dL_isTold_13 ?_
                          refine hp_c (v := 8) (by decide) ?_
                          refine lv_istore (lv' := [(6, .int 8), (5, .int 1), (7, .int 6), (0, .ref xo), (1, .ref lq), (2, .ref le), (3, .ref lr), (4, .ref lg)]) hx hb dL_isTold_14 hl9 (by decide) rfl (fun ls hl9 => ?_)
                          refine lv_aload_n hx hb dL_isTold_16 rfl (lv_at hl9 3 rfl) ?_
                          refine lv_iload hx hb dL_isTold_17 (lv_at hl9 1 rfl) ?_
                          refine hp_SH (As := [.ref xo, .int 1]) (rest := []) B0 hw hS (c_V_stateOf_1 hl G f50 xo ez eo bu nw0 na0 nq0 nr0 nw1 na1 nq1 nr1 bs bp bh bf bl bg S0 S1 gw0 ga0 gw1 ga1 n a cg x sa pk fl gv gh gl hC51 (Nat.lt_of_le_of_lt hl0 (by decide)) (Nat.lt_of_le_of_lt hl1 (by decide)) ) mH_L_stateOf qM_L_141 rfl rfl hl9.1 (Nat.le_of_ble_eq_true rfl) ⟨⟨Nat.le_of_ble_eq_true rfl, Nat.le_of_ble_eq_true rfl⟩, Nat.le_of_ble_eq_true rfl, Nat.le_of_ble_eq_true rfl⟩ dL_isTold_19 (fun E ce q9 f54 H locs hPX hw hS hce hcv hcl => ?_) (fun v f54 H locs hP hw hS => ?_)
                          · exact hPX.elim
                          · obtain ⟨ev9, hC55, k56⟩ := hP
                            subst ev9
                            have hC55 : CXW G f54 xo ez eo bu nw0 na0 nq0 nr0 nw1 na1 nq1 nr1 bs bp bh bf bl bg S0 S1 gw0 ga0 gw1 ga1 n a cg x sa pk fl gv gh gl := hC55
                            refine W.eq (g2 := F0 m 22 ls [.int (S1.1)]) rfl ?_
                            refine lv_aload_n hx hb dL_isTold_22 rfl (lv_at hl9 5 rfl) ?_
                            refine lv_iload hx hb dL_isTold_23 (lv_at hl9 0 rfl) ?_
                            have h57 : f25 le = some (.inl (cI G, 16, .inl (jE (eS S0) (eS S1)))) := k27 _ _ h24 (Nat.ne_of_beq_eq_false rfl) (hdos _ (List.mem_cons_of_mem _ List.mem_cons_self))
                            have h58 : f34 le = some (.inl (cI G, 16, .inl (jE (eS S0) (eS S1)))) := k36 _ _ h57 (Nat.ne_of_beq_eq_false rfl) (hdos _ (List.mem_cons_of_mem _ List.mem_cons_self))
                            have h59 : f38 le = some (.inl (cI G, 16, .inl (jE (eS S0) (eS S1)))) := k40 _ _ h58 (Nat.ne_of_beq_eq_false rfl) (hdos _ (List.mem_cons_of_mem _ List.mem_cons_self))
                            have h60 : f42 le = some (.inl (cI G, 16, .inl (jE (eS S0) (eS S1)))) := k44 _ _ h59 (Nat.ne_of_beq_eq_false rfl) (hdos _ (List.mem_cons_of_mem _ List.mem_cons_self))
                            have h61 : f46 le = some (.inl (cI G, 16, .inl (jE (eS S0) (eS S1)))) := k48 _ _ h60 (Nat.ne_of_beq_eq_false rfl) (hdos _ (List.mem_cons_of_mem _ List.mem_cons_self))
                            have h62 : f50 le = some (.inl (cI G, 16, .inl (jE (eS S0) (eS S1)))) := k52 _ _ h61 (Nat.ne_of_beq_eq_false rfl) (hdos _ (List.mem_cons_of_mem _ List.mem_cons_self))
                            have h63 : f54 le = some (.inl (cI G, 16, .inl (jE (eS S0) (eS S1)))) := k56 _ _ h62 (Nat.ne_of_beq_eq_false rfl) (hdos _ (List.mem_cons_of_mem _ List.mem_cons_self))
                            refine hp_iald B0 hw h63 (by unfold vp_in; decide) dL_isTold_25 ?_
                            refine hp_c (v := S1.1) (rfl) ?_
                            refine lv_icmp_ne (tgt := 99) hx hb dL_isTold_26 (by decide) (fun c9 => absurd rfl c9) (fun _ => ?_)
                            refine lv_aload_n hx hb dL_isTold_29 rfl (lv_at hl9 3 rfl) ?_
                            refine lv_iload hx hb dL_isTold_30 (lv_at hl9 1 rfl) ?_
                            have h64 : f54 xo = some (.inr (4, [.ref ez, .ref eo, .ref bu])) := by obtain ⟨_, _, h9⟩ := hC55; exact h9.1
                            refine hp_V (ci := 4) (As := [.int 1]) (rest := []) B0 hw hS (c_P_requests_1 hl G f54 xo ez eo bu nw0 na0 nq0 nr0 nw1 na1 nq1 nr1 bs bp bh bf bl bg S0 S1 gw0 ga0 gw1 ga1 n a cg x sa pk fl gv gh gl hC55 (Nat.lt_of_le_of_lt hl0 (by decide)) (Nat.lt_of_le_of_lt hl1 (by decide))) mV_X4_requests qM_L_143 rfl h64 rfl rfl hl9.1 (Nat.le_of_ble_eq_true rfl) ⟨⟨Nat.le_of_ble_eq_true rfl, Nat.le_of_ble_eq_true rfl⟩, Nat.le_of_ble_eq_true rfl, Nat.le_of_ble_eq_true rfl⟩ dL_isTold_32 (fun E ce q9 f65 H locs hPX hw hS hce hcv hcl => ?_) (fun v f65 H locs hP hw hS => ?_)
                            · exact hPX.elim
                            · obtain ⟨ev9, hC66, k67⟩ := hP
                              subst ev9
                              refine W.eq (g2 := F0 m 35 ls [.int S1.2.2.1]) rfl ?_
                              refine lv_aload_n hx hb dL_isTold_35 rfl (lv_at hl9 5 rfl) ?_
                              refine lv_iload hx hb dL_isTold_36 (lv_at hl9 0 rfl) ?_
                              refine lv_iconst (v := 2) hx hb dL_isTold_38 (by decide) ?_
                              refine lv_iadd hx hb dL_isTold_39 ?_
                              refine hp_c (v := 10) (by decide) ?_
                              have h68 : f65 le = some (.inl (cI G, 16, .inl (jE (eS S0) (eS S1)))) := k67 _ _ h63 (Nat.ne_of_beq_eq_false rfl) (hdos _ (List.mem_cons_of_mem _ List.mem_cons_self))
                              refine hp_iald B0 hw h68 (by unfold vp_in; decide) dL_isTold_40 ?_
                              refine hp_c (v := S1.2.2.1) (rfl) ?_
                              refine lv_icmp_ne (tgt := 99) hx hb dL_isTold_41 (by decide) (fun c9 => absurd rfl c9) (fun _ => ?_)
                              refine lv_aload_n hx hb dL_isTold_44 rfl (lv_at hl9 3 rfl) ?_
                              refine lv_iload hx hb dL_isTold_45 (lv_at hl9 1 rfl) ?_
                              have h69 : f65 xo = some (.inr (4, [.ref ez, .ref eo, .ref bu])) := by obtain ⟨_, _, h9⟩ := hC66; exact h9.1
                              refine hp_V (ci := 4) (As := [.int 1]) (rest := []) B0 hw hS (c_P_isLooped_1 hl G f65 xo ez eo bu nw0 na0 nq0 nr0 nw1 na1 nq1 nr1 bs bp bh bf bl bg S0 S1 gw0 ga0 gw1 ga1 n a cg x sa pk fl gv gh gl hC66 (Nat.lt_of_le_of_lt hl0 (by decide)) (Nat.lt_of_le_of_lt hl1 (by decide))) mV_X4_isLooped qM_L_146 rfl h69 rfl rfl hl9.1 (Nat.le_of_ble_eq_true rfl) ⟨⟨Nat.le_of_ble_eq_true rfl, Nat.le_of_ble_eq_true rfl⟩, Nat.le_of_ble_eq_true rfl, Nat.le_of_ble_eq_true rfl⟩ dL_isTold_47 (fun E ce q9 f70 H locs hPX hw hS hce hcv hcl => ?_) (fun v f70 H locs hP hw hS => ?_)
                              · exact hPX.elim
                              · obtain ⟨ev9, hC71, k72⟩ := hP
                                subst ev9
                                refine W.eq (g2 := F0 m 50 ls [.int S1.2.2.2.2.1]) rfl ?_
                                refine lv_aload_n hx hb dL_isTold_50 rfl (lv_at hl9 5 rfl) ?_
                                refine lv_iload hx hb dL_isTold_51 (lv_at hl9 0 rfl) ?_
                                refine lv_iconst (v := 4) hx hb dL_isTold_53 (by decide) ?_
                                refine lv_iadd hx hb dL_isTold_54 ?_
                                refine hp_c (v := 12) (by decide) ?_
                                have h73 : f70 le = some (.inl (cI G, 16, .inl (jE (eS S0) (eS S1)))) := k72 _ _ h68 (Nat.ne_of_beq_eq_false rfl) (hdos _ (List.mem_cons_of_mem _ List.mem_cons_self))
                                refine hp_iald B0 hw h73 (by unfold vp_in; decide) dL_isTold_55 ?_
                                refine hp_c (v := S1.2.2.2.2.1) (rfl) ?_
                                refine lv_iconst (v := 1) hx hb dL_isTold_56 (by decide) ?_
                                refine lv_icmp_ne (tgt := 64) hx hb dL_isTold_57 (by decide) (fun c74 => ?_) (fun c74 => ?_)
                                · refine lv_iconst (v := 0) hx hb dL_isTold_64 (by decide) ?_
                                  refine lv_icmp_ne (tgt := 99) hx hb dL_isTold_65 (by decide) (fun c9 => absurd (hlp1.resolve_right c74) c9) (fun _ => ?_)
                                  refine lv_aload_n hx hb dL_isTold_68 rfl (lv_at hl9 3 rfl) ?_
                                  refine lv_iload hx hb dL_isTold_69 (lv_at hl9 1 rfl) ?_
                                  refine hp_SH (As := [.ref xo, .int 1]) (rest := []) B0 hw hS (c_V_underWay_1 hl G f70 xo ez eo bu nw0 na0 nq0 nr0 nw1 na1 nq1 nr1 bs bp bh bf bl bg S0 S1 gw0 ga0 gw1 ga1 n a cg x sa pk fl gv gh gl hC71 (Nat.lt_of_le_of_lt hl0 (by decide)) (Nat.lt_of_le_of_lt hl1 (by decide)) ) mH_L_underWay qM_L_150 rfl rfl hl9.1 (Nat.le_of_ble_eq_true rfl) ⟨⟨Nat.le_of_ble_eq_true rfl, Nat.le_of_ble_eq_true rfl⟩, Nat.le_of_ble_eq_true rfl, Nat.le_of_ble_eq_true rfl⟩ dL_isTold_71 (fun E ce q9 f75 H locs hPX hw hS hce hcv hcl => ?_) (fun v f75 H locs hP hw hS => ?_)
                                  · exact hPX.elim
                                  · obtain ⟨ev9, hC76, k77⟩ := hP
                                    subst ev9
                                    have hC76 : CXW G f75 xo ez eo bu nw0 na0 nq0 nr0 nw1 na1 nq1 nr1 bs bp bh bf bl bg S0 S1 gw0 ga0 gw1 ga1 n a cg x sa pk fl gv gh gl := hC76
                                    refine W.eq (g2 := F0 m 74 ls [.int ((nI S1.2.2.2.2.2.2.2.2.length))]) rfl ?_
                                    refine lv_aload_n hx hb dL_isTold_74 rfl (lv_at hl9 5 rfl) ?_
                                    refine lv_iload hx hb dL_isTold_75 (lv_at hl9 0 rfl) ?_
                                    refine lv_bipush (v := 7) hx hb dL_isTold_77 (by decide) ?_
                                    refine lv_iadd hx hb dL_isTold_79 ?_
                                    refine hp_c (v := 15) (by decide) ?_
                                    have h78 : f75 le = some (.inl (cI G, 16, .inl (jE (eS S0) (eS S1)))) := k77 _ _ h73 (Nat.ne_of_beq_eq_false rfl) (hdos _ (List.mem_cons_of_mem _ List.mem_cons_self))
                                    refine hp_iald B0 hw h78 (by unfold vp_in; decide) dL_isTold_80 ?_
                                    refine hp_c (v := (nI S1.2.2.2.2.2.2.2.2.length)) (rfl) ?_
                                    refine lv_icmp_ne (tgt := 99) hx hb dL_isTold_81 (by decide) (fun c9 => absurd rfl c9) (fun _ => ?_)
                                    refine lv_aload_n hx hb dL_isTold_84 rfl (lv_at hl9 3 rfl) ?_
                                    refine lv_iload hx hb dL_isTold_85 (lv_at hl9 1 rfl) ?_
                                    have h79 : f75 xo = some (.inr (4, [.ref ez, .ref eo, .ref bu])) := by obtain ⟨_, _, h9⟩ := hC76; exact h9.1
                                    refine hp_V (ci := 4) (As := [.int 1]) (rest := []) B0 hw hS (c_P_missed_1 hl G f75 xo ez eo bu nw0 na0 nq0 nr0 nw1 na1 nq1 nr1 bs bp bh bf bl bg S0 S1 gw0 ga0 gw1 ga1 n a cg x sa pk fl gv gh gl hC76 (Nat.lt_of_le_of_lt hl0 (by decide)) (Nat.lt_of_le_of_lt hl1 (by decide))) mV_X4_missed qM_L_152 rfl h79 rfl rfl hl9.1 (Nat.le_of_ble_eq_true rfl) ⟨⟨Nat.le_of_ble_eq_true rfl, Nat.le_of_ble_eq_true rfl⟩, Nat.le_of_ble_eq_true rfl, Nat.le_of_ble_eq_true rfl⟩ dL_isTold_87 (fun E ce q9 f80 H locs hPX hw hS hce hcv hcl => ?_) (fun v f80 H locs hP hw hS => ?_)
                                    · exact hPX.elim
                                    · obtain ⟨ev9, hC81, k82⟩ := hP
                                      subst ev9
                                      refine W.eq (g2 := F0 m 90 ls [.int S1.2.2.2.2.2.1]) rfl ?_
                                      refine lv_aload_n hx hb dL_isTold_90 rfl (lv_at hl9 5 rfl) ?_
                                      refine lv_iload hx hb dL_isTold_91 (lv_at hl9 0 rfl) ?_
                                      refine lv_iconst (v := 5) hx hb dL_isTold_93 (by decide) ?_
                                      refine lv_iadd hx hb dL_isTold_94 ?_
                                      refine hp_c (v := 13) (by decide) ?_
                                      have h83 : f80 le = some (.inl (cI G, 16, .inl (jE (eS S0) (eS S1)))) := k82 _ _ h78 (Nat.ne_of_beq_eq_false rfl) (hdos _ (List.mem_cons_of_mem _ List.mem_cons_self))
                                      refine hp_iald B0 hw h83 (by unfold vp_in; decide) dL_isTold_95 ?_
                                      refine hp_c (v := S1.2.2.2.2.2.1) (rfl) ?_
                                      refine lv_icmp_eq (tgt := 101) hx hb dL_isTold_96 (by decide) (fun _ => ?_) (fun c9 => absurd rfl c9)
                                      refine lv_iconst (v := 0) hx hb dL_isTold_101 (by decide) ?_
                                      refine lv_istore (lv' := [(7, .int 0), (6, .int 8), (5, .int 1), (0, .ref xo), (1, .ref lq), (2, .ref le), (3, .ref lr), (4, .ref lg)]) hx hb dL_isTold_102 hl9 (by decide) rfl (fun ls hl9 => ?_)
                                      refine lv_iload hx hb dL_isTold_104 (lv_at hl9 0 rfl) ?_
                                      refine lv_bipush (v := 6) hx hb dL_isTold_106 (by decide) ?_
                                      refine lv_icmp_ge (tgt := 140) hx hb dL_isTold_108 (by decide) (fun c9 => absurd c9 (by decide)) (fun _ => ?_)
                                      refine lv_aload_n hx hb dL_isTold_111 rfl (lv_at hl9 3 rfl) ?_
                                      refine lv_iload hx hb dL_isTold_112 (lv_at hl9 2 rfl) ?_
                                      refine lv_iload hx hb dL_isTold_114 (lv_at hl9 0 rfl) ?_
                                      refine hp_SH (As := [.ref xo, .int 1, .int 0]) (rest := []) B0 hw hS (c_V_asked_1 hl G f80 xo ez eo bu nw0 na0 nq0 nr0 nw1 na1 nq1 nr1 bs bp bh bf bl bg S0 S1 gw0 ga0 gw1 ga1 n a cg x sa pk fl gv gh gl hC81 (Nat.lt_of_le_of_lt hl0 (by decide)) (Nat.lt_of_le_of_lt hl1 (by decide)) 0 (by decide)) mH_L_asked qM_L_155 rfl rfl hl9.1 (Nat.le_of_ble_eq_true rfl) ⟨⟨Nat.le_of_ble_eq_true rfl, Nat.le_of_ble_eq_true rfl⟩, Nat.le_of_ble_eq_true rfl, Nat.le_of_ble_eq_true rfl⟩ dL_isTold_116 (fun E ce q9 f84 H locs hPX hw hS hce hcv hcl => ?_) (fun v f84 H locs hP hw hS => ?_)
                                      · exact hPX.elim
                                      · obtain ⟨ev9, hC85, k86⟩ := hP
                                        subst ev9
                                        have hC85 : CXW G f84 xo ez eo bu nw0 na0 nq0 nr0 nw1 na1 nq1 nr1 bs bp bh bf bl bg S0 S1 gw0 ga0 gw1 ga1 n a cg x sa pk fl gv gh gl := hC85
                                        refine W.eq (g2 := F0 m 119 ls [.int ((S1.2.2.2.2.2.2.2.1 0))]) rfl ?_
                                        refine lv_aload_n hx hb dL_isTold_119 rfl (lv_at hl9 4 rfl) ?_
                                        refine lv_bipush (v := 6) hx hb dL_isTold_120 (by decide) ?_
                                        refine lv_iload hx hb dL_isTold_122 (lv_at hl9 2 rfl) ?_
                                        refine lv_imul hx hb dL_isTold_124 ?_
                                        refine hp_c (v := 6) (by decide) ?_
                                        refine lv_iload hx hb dL_isTold_125 (lv_at hl9 0 rfl) ?_
                                        refine lv_iadd hx hb dL_isTold_127 ?_
                                        refine hp_c (v := 6) (by decide) ?_
                                        have h87 : f54 lq = some (.inl (cI G, 12, .inl (j6 S0.2.2.2.2.2.2.2.1 S1.2.2.2.2.2.2.2.1))) := k56 _ _ h53 (Nat.ne_of_beq_eq_false rfl) (hdos _ List.mem_cons_self)
                                        have h88 : f65 lq = some (.inl (cI G, 12, .inl (j6 S0.2.2.2.2.2.2.2.1 S1.2.2.2.2.2.2.2.1))) := k67 _ _ h87 (Nat.ne_of_beq_eq_false rfl) (hdos _ List.mem_cons_self)
                                        have h89 : f70 lq = some (.inl (cI G, 12, .inl (j6 S0.2.2.2.2.2.2.2.1 S1.2.2.2.2.2.2.2.1))) := k72 _ _ h88 (Nat.ne_of_beq_eq_false rfl) (hdos _ List.mem_cons_self)
                                        have h90 : f75 lq = some (.inl (cI G, 12, .inl (j6 S0.2.2.2.2.2.2.2.1 S1.2.2.2.2.2.2.2.1))) := k77 _ _ h89 (Nat.ne_of_beq_eq_false rfl) (hdos _ List.mem_cons_self)
                                        have h91 : f80 lq = some (.inl (cI G, 12, .inl (j6 S0.2.2.2.2.2.2.2.1 S1.2.2.2.2.2.2.2.1))) := k82 _ _ h90 (Nat.ne_of_beq_eq_false rfl) (hdos _ List.mem_cons_self)
                                        have h92 : f84 lq = some (.inl (cI G, 12, .inl (j6 S0.2.2.2.2.2.2.2.1 S1.2.2.2.2.2.2.2.1))) := k86 _ _ h91 (Nat.ne_of_beq_eq_false rfl) (hdos _ List.mem_cons_self)
                                        refine hp_iald B0 hw h92 (by unfold vp_in; decide) dL_isTold_128 ?_
                                        refine hp_c (v := (S1.2.2.2.2.2.2.2.1 0)) (rfl) ?_
                                        refine lv_icmp_eq (tgt := 134) hx hb dL_isTold_129 (by decide) (fun _ => ?_) (fun c9 => absurd rfl c9)
                                        refine lv_iinc (v := 1) (lv' := [(7, .int 1), (6, .int 8), (5, .int 1), (0, .ref xo), (1, .ref lq), (2, .ref le), (3, .ref lr), (4, .ref lg)]) hx hb dL_isTold_134 hl9 (k := 0) rfl (by decide) (by decide) rfl (fun ls hl9 => ?_)
                                        refine lv_goto (tgt := 104) hx hb dL_isTold_137 (by decide) ?_
                                        refine lv_iload hx hb dL_isTold_104 (lv_at hl9 0 rfl) ?_
                                        refine lv_bipush (v := 6) hx hb dL_isTold_106 (by decide) ?_
                                        refine lv_icmp_ge (tgt := 140) hx hb dL_isTold_108 (by decide) (fun c9 => absurd c9 (by decide)) (fun _ => ?_)
                                        refine lv_aload_n hx hb dL_isTold_111 rfl (lv_at hl9 3 rfl) ?_
                                        refine lv_iload hx hb dL_isTold_112 (lv_at hl9 2 rfl) ?_
                                        refine lv_iload hx hb dL_isTold_114 (lv_at hl9 0 rfl) ?_
                                        refine hp_SH (As := [.ref xo, .int 1, .int 1]) (rest := []) B0 hw hS (c_V_asked_1 hl G f84 xo ez eo bu nw0 na0 nq0 nr0 nw1 na1 nq1 nr1 bs bp bh bf bl bg S0 S1 gw0 ga0 gw1 ga1 n a cg x sa pk fl gv gh gl hC85 (Nat.lt_of_le_of_lt hl0 (by decide)) (Nat.lt_of_le_of_lt hl1 (by decide)) 1 (by decide)) mH_L_asked qM_L_155 rfl rfl hl9.1 (Nat.le_of_ble_eq_true rfl) ⟨⟨Nat.le_of_ble_eq_true rfl, Nat.le_of_ble_eq_true rfl⟩, Nat.le_of_ble_eq_true rfl, Nat.le_of_ble_eq_true rfl⟩ dL_isTold_116 (fun E ce q9 f93 H locs hPX hw hS hce hcv hcl => ?_) (fun v f93 H locs hP hw hS => ?_)
                                        · exact hPX.elim
                                        · obtain ⟨ev9, hC94, k95⟩ := hP
                                          subst ev9
                                          have hC94 : CXW G f93 xo ez eo bu nw0 na0 nq0 nr0 nw1 na1 nq1 nr1 bs bp bh bf bl bg S0 S1 gw0 ga0 gw1 ga1 n a cg x sa pk fl gv gh gl := hC94
                                          refine W.eq (g2 := F0 m 119 ls [.int ((S1.2.2.2.2.2.2.2.1 1))]) rfl ?_
                                          refine lv_aload_n hx hb dL_isTold_119 rfl (lv_at hl9 4 rfl) ?_
                                          refine lv_bipush (v := 6) hx hb dL_isTold_120 (by decide) ?_
                                          refine lv_iload hx hb dL_isTold_122 (lv_at hl9 2 rfl) ?_
                                          refine lv_imul hx hb dL_isTold_124 ?_
                                          refine hp_c (v := 6) (by decide) ?_
                                          refine lv_iload hx hb dL_isTold_125 (lv_at hl9 0 rfl) ?_
                                          refine lv_iadd hx hb dL_isTold_127 ?_
                                          refine hp_c (v := 7) (by decide) ?_
                                          have h96 : f93 lq = some (.inl (cI G, 12, .inl (j6 S0.2.2.2.2.2.2.2.1 S1.2.2.2.2.2.2.2.1))) := k95 _ _ h92 (Nat.ne_of_beq_eq_false rfl) (hdos _ List.mem_cons_self)
                                          refine hp_iald B0 hw h96 (by unfold vp_in; decide) dL_isTold_128 ?_
                                          refine hp_c (v := (S1.2.2.2.2.2.2.2.1 1)) (rfl) ?_
                                          refine lv_icmp_eq (tgt := 134) hx hb dL_isTold_129 (by decide) (fun _ => ?_) (fun c9 => absurd rfl c9)
                                          refine lv_iinc (v := 2) (lv' := [(7, .int 2), (6, .int 8), (5, .int 1), (0, .ref xo), (1, .ref lq), (2, .ref le), (3, .ref lr), (4, .ref lg)]) hx hb dL_isTold_134 hl9 (k := 0) rfl (by decide) (by decide) rfl (fun ls hl9 => ?_)
                                          refine lv_goto (tgt := 104) hx hb dL_isTold_137 (by decide) ?_
                                          refine lv_iload hx hb dL_isTold_104 (lv_at hl9 0 rfl) ?_
                                          refine lv_bipush (v := 6) hx hb dL_isTold_106 (by decide) ?_
                                          refine lv_icmp_ge (tgt := 140) hx hb dL_isTold_108 (by decide) (fun c9 => absurd c9 (by decide)) (fun _ => ?_)
                                          refine lv_aload_n hx hb dL_isTold_111 rfl (lv_at hl9 3 rfl) ?_
                                          refine lv_iload hx hb dL_isTold_112 (lv_at hl9 2 rfl) ?_
                                          refine lv_iload hx hb dL_isTold_114 (lv_at hl9 0 rfl) ?_
                                          refine hp_SH (As := [.ref xo, .int 1, .int 2]) (rest := []) B0 hw hS (c_V_asked_1 hl G f93 xo ez eo bu nw0 na0 nq0 nr0 nw1 na1 nq1 nr1 bs bp bh bf bl bg S0 S1 gw0 ga0 gw1 ga1 n a cg x sa pk fl gv gh gl hC94 (Nat.lt_of_le_of_lt hl0 (by decide)) (Nat.lt_of_le_of_lt hl1 (by decide)) 2 (by decide)) mH_L_asked qM_L_155 rfl rfl hl9.1 (Nat.le_of_ble_eq_true rfl) ⟨⟨Nat.le_of_ble_eq_true rfl, Nat.le_of_ble_eq_true rfl⟩, Nat.le_of_ble_eq_true rfl, Nat.le_of_ble_eq_true rfl⟩ dL_isTold_116 (fun E ce q9 f97 H locs hPX hw hS hce hcv hcl => ?_) (fun v f97 H locs hP hw hS => ?_)
                                          · exact hPX.elim
                                          · obtain ⟨ev9, hC98, k99⟩ := hP
                                            subst ev9
                                            have hC98 : CXW G f97 xo ez eo bu nw0 na0 nq0 nr0 nw1 na1 nq1 nr1 bs bp bh bf bl bg S0 S1 gw0 ga0 gw1 ga1 n a cg x sa pk fl gv gh gl := hC98
                                            refine W.eq (g2 := F0 m 119 ls [.int ((S1.2.2.2.2.2.2.2.1 2))]) rfl ?_
                                            refine lv_aload_n hx hb dL_isTold_119 rfl (lv_at hl9 4 rfl) ?_
                                            refine lv_bipush (v := 6) hx hb dL_isTold_120 (by decide) ?_
                                            refine lv_iload hx hb dL_isTold_122 (lv_at hl9 2 rfl) ?_
                                            refine lv_imul hx hb dL_isTold_124 ?_
                                            refine hp_c (v := 6) (by decide) ?_
                                            refine lv_iload hx hb dL_isTold_125 (lv_at hl9 0 rfl) ?_
                                            refine lv_iadd hx hb dL_isTold_127 ?_
                                            refine hp_c (v := 8) (by decide) ?_
                                            have h100 : f97 lq = some (.inl (cI G, 12, .inl (j6 S0.2.2.2.2.2.2.2.1 S1.2.2.2.2.2.2.2.1))) := k99 _ _ h96 (Nat.ne_of_beq_eq_false rfl) (hdos _ List.mem_cons_self)
                                            refine hp_iald B0 hw h100 (by unfold vp_in; decide) dL_isTold_128 ?_
                                            refine hp_c (v := (S1.2.2.2.2.2.2.2.1 2)) (rfl) ?_
                                            refine lv_icmp_eq (tgt := 134) hx hb dL_isTold_129 (by decide) (fun _ => ?_) (fun c9 => absurd rfl c9)
                                            refine lv_iinc (v := 3) (lv' := [(7, .int 3), (6, .int 8), (5, .int 1), (0, .ref xo), (1, .ref lq), (2, .ref le), (3, .ref lr), (4, .ref lg)]) hx hb dL_isTold_134 hl9 (k := 0) rfl (by decide) (by decide) rfl (fun ls hl9 => ?_)
                                            refine lv_goto (tgt := 104) hx hb dL_isTold_137 (by decide) ?_
                                            refine lv_iload hx hb dL_isTold_104 (lv_at hl9 0 rfl) ?_
                                            refine lv_bipush (v := 6) hx hb dL_isTold_106 (by decide) ?_
                                            refine lv_icmp_ge (tgt := 140) hx hb dL_isTold_108 (by decide) (fun c9 => absurd c9 (by decide)) (fun _ => ?_)
                                            refine lv_aload_n hx hb dL_isTold_111 rfl (lv_at hl9 3 rfl) ?_
                                            refine lv_iload hx hb dL_isTold_112 (lv_at hl9 2 rfl) ?_
                                            refine lv_iload hx hb dL_isTold_114 (lv_at hl9 0 rfl) ?_
                                            refine hp_SH (As := [.ref xo, .int 1, .int 3]) (rest := []) B0 hw hS (c_V_asked_1 hl G f97 xo ez eo bu nw0 na0 nq0 nr0 nw1 na1 nq1 nr1 bs bp bh bf bl bg S0 S1 gw0 ga0 gw1 ga1 n a cg x sa pk fl gv gh gl hC98 (Nat.lt_of_le_of_lt hl0 (by decide)) (Nat.lt_of_le_of_lt hl1 (by decide)) 3 (by decide)) mH_L_asked qM_L_155 rfl rfl hl9.1 (Nat.le_of_ble_eq_true rfl) ⟨⟨Nat.le_of_ble_eq_true rfl, Nat.le_of_ble_eq_true rfl⟩, Nat.le_of_ble_eq_true rfl, Nat.le_of_ble_eq_true rfl⟩ dL_isTold_116 (fun E ce q9 f101 H locs hPX hw hS hce hcv hcl => ?_) (fun v f101 H locs hP hw hS => ?_)
                                            · exact hPX.elim
                                            · obtain ⟨ev9, hC102, k103⟩ := hP
                                              subst ev9
                                              have hC102 : CXW G f101 xo ez eo bu nw0 na0 nq0 nr0 nw1 na1 nq1 nr1 bs bp bh bf bl bg S0 S1 gw0 ga0 gw1 ga1 n a cg x sa pk fl gv gh gl := hC102
                                              refine W.eq (g2 := F0 m 119 ls [.int ((S1.2.2.2.2.2.2.2.1 3))]) rfl ?_
                                              refine lv_aload_n hx hb dL_isTold_119 rfl (lv_at hl9 4 rfl) ?_
                                              refine lv_bipush (v := 6) hx hb dL_isTold_120 (by decide) ?_
                                              refine lv_iload hx hb dL_isTold_122 (lv_at hl9 2 rfl) ?_
                                              refine lv_imul hx hb dL_isTold_124 ?_
                                              refine hp_c (v := 6) (by decide) ?_
                                              refine lv_iload hx hb dL_isTold_125 (lv_at hl9 0 rfl) ?_
                                              refine lv_iadd hx hb dL_isTold_127 ?_
                                              refine hp_c (v := 9) (by decide) ?_
                                              have h104 : f101 lq = some (.inl (cI G, 12, .inl (j6 S0.2.2.2.2.2.2.2.1 S1.2.2.2.2.2.2.2.1))) := k103 _ _ h100 (Nat.ne_of_beq_eq_false rfl) (hdos _ List.mem_cons_self)
                                              refine hp_iald B0 hw h104 (by unfold vp_in; decide) dL_isTold_128 ?_
                                              refine hp_c (v := (S1.2.2.2.2.2.2.2.1 3)) (rfl) ?_
                                              refine lv_icmp_eq (tgt := 134) hx hb dL_isTold_129 (by decide) (fun _ => ?_) (fun c9 => absurd rfl c9)
                                              refine lv_iinc (v := 4) (lv' := [(7, .int 4), (6, .int 8), (5, .int 1), (0, .ref xo), (1, .ref lq), (2, .ref le), (3, .ref lr), (4, .ref lg)]) hx hb dL_isTold_134 hl9 (k := 0) rfl (by decide) (by decide) rfl (fun ls hl9 => ?_)
                                              refine lv_goto (tgt := 104) hx hb dL_isTold_137 (by decide) ?_
                                              refine lv_iload hx hb dL_isTold_104 (lv_at hl9 0 rfl) ?_
                                              refine lv_bipush (v := 6) hx hb dL_isTold_106 (by decide) ?_
                                              refine lv_icmp_ge (tgt := 140) hx hb dL_isTold_108 (by decide) (fun c9 => absurd c9 (by decide)) (fun _ => ?_)
                                              refine lv_aload_n hx hb dL_isTold_111 rfl (lv_at hl9 3 rfl) ?_
                                              refine lv_iload hx hb dL_isTold_112 (lv_at hl9 2 rfl) ?_
                                              refine lv_iload hx hb dL_isTold_114 (lv_at hl9 0 rfl) ?_
                                              refine hp_SH (As := [.ref xo, .int 1, .int 4]) (rest := []) B0 hw hS (c_V_asked_1 hl G f101 xo ez eo bu nw0 na0 nq0 nr0 nw1 na1 nq1 nr1 bs bp bh bf bl bg S0 S1 gw0 ga0 gw1 ga1 n a cg x sa pk fl gv gh gl hC102 (Nat.lt_of_le_of_lt hl0 (by decide)) (Nat.lt_of_le_of_lt hl1 (by decide)) 4 (by decide)) mH_L_asked qM_L_155 rfl rfl hl9.1 (Nat.le_of_ble_eq_true rfl) ⟨⟨Nat.le_of_ble_eq_true rfl, Nat.le_of_ble_eq_true rfl⟩, Nat.le_of_ble_eq_true rfl, Nat.le_of_ble_eq_true rfl⟩ dL_isTold_116 (fun E ce q9 f105 H locs hPX hw hS hce hcv hcl => ?_) (fun v f105 H locs hP hw hS => ?_)
                                              · exact hPX.elim
                                              · obtain ⟨ev9, hC106, k107⟩ := hP
                                                subst ev9
                                                have hC106 : CXW G f105 xo ez eo bu nw0 na0 nq0 nr0 nw1 na1 nq1 nr1 bs bp bh bf bl bg S0 S1 gw0 ga0 gw1 ga1 n a cg x sa pk fl gv gh gl := hC106
                                                refine W.eq (g2 := F0 m 119 ls [.int ((S1.2.2.2.2.2.2.2.1 4))]) rfl ?_
                                                refine lv_aload_n hx hb dL_isTold_119 rfl (lv_at hl9 4 rfl) ?_
                                                refine lv_bipush (v := 6) hx hb dL_isTold_120 (by decide) ?_
                                                refine lv_iload hx hb dL_isTold_122 (lv_at hl9 2 rfl) ?_
                                                refine lv_imul hx hb dL_isTold_124 ?_
                                                refine hp_c (v := 6) (by decide) ?_
                                                refine lv_iload hx hb dL_isTold_125 (lv_at hl9 0 rfl) ?_
                                                refine lv_iadd hx hb dL_isTold_127 ?_
                                                refine hp_c (v := 10) (by decide) ?_
                                                have h108 : f105 lq = some (.inl (cI G, 12, .inl (j6 S0.2.2.2.2.2.2.2.1 S1.2.2.2.2.2.2.2.1))) := k107 _ _ h104 (Nat.ne_of_beq_eq_false rfl) (hdos _ List.mem_cons_self)
                                                refine hp_iald B0 hw h108 (by unfold vp_in; decide) dL_isTold_128 ?_
                                                refine hp_c (v := (S1.2.2.2.2.2.2.2.1 4)) (rfl) ?_
                                                refine lv_icmp_eq (tgt := 134) hx hb dL_isTold_129 (by decide) (fun _ => ?_) (fun c9 => absurd rfl c9)
                                                refine lv_iinc (v := 5) (lv' := [(7, .int 5), (6, .int 8), (5, .int 1), (0, .ref xo), (1, .ref lq), (2, .ref le), (3, .ref lr), (4, .ref lg)]) hx hb dL_isTold_134 hl9 (k := 0) rfl (by decide) (by decide) rfl (fun ls hl9 => ?_)
                                                refine lv_goto (tgt := 104) hx hb dL_isTold_137 (by decide) ?_
                                                refine lv_iload hx hb dL_isTold_104 (lv_at hl9 0 rfl) ?_
                                                refine lv_bipush (v := 6) hx hb dL_isTold_106 (by decide) ?_
                                                refine lv_icmp_ge (tgt := 140) hx hb dL_isTold_108 (by decide) (fun c9 => absurd c9 (by decide)) (fun _ => ?_)
                                                refine lv_aload_n hx hb dL_isTold_111 rfl (lv_at hl9 3 rfl) ?_
                                                refine lv_iload hx hb dL_isTold_112 (lv_at hl9 2 rfl) ?_
                                                refine lv_iload hx hb dL_isTold_114 (lv_at hl9 0 rfl) ?_
                                                refine hp_SH (As := [.ref xo, .int 1, .int 5]) (rest := []) B0 hw hS (c_V_asked_1 hl G f105 xo ez eo bu nw0 na0 nq0 nr0 nw1 na1 nq1 nr1 bs bp bh bf bl bg S0 S1 gw0 ga0 gw1 ga1 n a cg x sa pk fl gv gh gl hC106 (Nat.lt_of_le_of_lt hl0 (by decide)) (Nat.lt_of_le_of_lt hl1 (by decide)) 5 (by decide)) mH_L_asked qM_L_155 rfl rfl hl9.1 (Nat.le_of_ble_eq_true rfl) ⟨⟨Nat.le_of_ble_eq_true rfl, Nat.le_of_ble_eq_true rfl⟩, Nat.le_of_ble_eq_true rfl, Nat.le_of_ble_eq_true rfl⟩ dL_isTold_116 (fun E ce q9 f109 H locs hPX hw hS hce hcv hcl => ?_) (fun v f109 H locs hP hw hS => ?_)
                                                · exact hPX.elim
                                                · obtain ⟨ev9, hC110, k111⟩ := hP
                                                  subst ev9
                                                  have hC110 : CXW G f109 xo ez eo bu nw0 na0 nq0 nr0 nw1 na1 nq1 nr1 bs bp bh bf bl bg S0 S1 gw0 ga0 gw1 ga1 n a cg x sa pk fl gv gh gl := hC110
                                                  refine W.eq (g2 := F0 m 119 ls [.int ((S1.2.2.2.2.2.2.2.1 5))]) rfl ?_
                                                  refine lv_aload_n hx hb dL_isTold_119 rfl (lv_at hl9 4 rfl) ?_
                                                  refine lv_bipush (v := 6) hx hb dL_isTold_120 (by decide) ?_
                                                  refine lv_iload hx hb dL_isTold_122 (lv_at hl9 2 rfl) ?_
                                                  refine lv_imul hx hb dL_isTold_124 ?_
                                                  refine hp_c (v := 6) (by decide) ?_
                                                  refine lv_iload hx hb dL_isTold_125 (lv_at hl9 0 rfl) ?_
                                                  refine lv_iadd hx hb dL_isTold_127 ?_
                                                  refine hp_c (v := 11) (by decide) ?_
                                                  have h112 : f109 lq = some (.inl (cI G, 12, .inl (j6 S0.2.2.2.2.2.2.2.1 S1.2.2.2.2.2.2.2.1))) := k111 _ _ h108 (Nat.ne_of_beq_eq_false rfl) (hdos _ List.mem_cons_self)
                                                  refine hp_iald B0 hw h112 (by unfold vp_in; decide) dL_isTold_128 ?_
                                                  refine hp_c (v := (S1.2.2.2.2.2.2.2.1 5)) (rfl) ?_
                                                  refine lv_icmp_eq (tgt := 134) hx hb dL_isTold_129 (by decide) (fun _ => ?_) (fun c9 => absurd rfl c9)
                                                  refine lv_iinc (v := 6) (lv' := [(7, .int 6), (6, .int 8), (5, .int 1), (0, .ref xo), (1, .ref lq), (2, .ref le), (3, .ref lr), (4, .ref lg)]) hx hb dL_isTold_134 hl9 (k := 0) rfl (by decide) (by decide) rfl (fun ls hl9 => ?_)
                                                  refine lv_goto (tgt := 104) hx hb dL_isTold_137 (by decide) ?_
                                                  refine lv_iload hx hb dL_isTold_104 (lv_at hl9 0 rfl) ?_
                                                  refine lv_bipush (v := 6) hx hb dL_isTold_106 (by decide) ?_
                                                  refine lv_icmp_ge (tgt := 140) hx hb dL_isTold_108 (by decide) (fun _ => ?_) (fun c9 => absurd (by decide) c9)
                                                  refine lv_iinc (v := 2) (lv' := [(5, .int 2), (7, .int 6), (6, .int 8), (0, .ref xo), (1, .ref lq), (2, .ref le), (3, .ref lr), (4, .ref lg)]) hx hb dL_isTold_140 hl9 (k := 2) rfl (by decide) (by decide) rfl (fun ls hl9 => ?_)
                                                  refine lv_goto (tgt := 3) hx hb dL_isTold_143 (by decide) ?_
                                                  refine lv_iload hx hb dL_isTold_3 (lv_at hl9 0 rfl) ?_
                                                  refine lv_iconst (v := 2) hx hb dL_isTold_5 (by decide) ?_
                                                  refine lv_icmp_ge (tgt := 146) hx hb dL_isTold_6 (by decide) (fun _ => ?_) (fun c9 => absurd (by decide) c9)
                                                  refine lv_iconst (v := 0) hx hb dL_isTold_146 (by decide) ?_
                                                  refine lv_istore (lv' := [(5, .int 0), (7, .int 6), (6, .int 8), (0, .ref xo), (1, .ref lq), (2, .ref le), (3, .ref lr), (4, .ref lg)]) hx hb dL_isTold_147 hl9 (by decide) rfl (fun ls hl9 => ?_)
                                                  refine hp_cs (c2 := 34 + 0 * 0) (s2 := 204 + 0 * 0) rfl rfl ?_
                                                  refine hp_forC (nL := 8) (pc := 149) (fun j f9 lv9 => CXW G f9 xo ez eo bu nw0 na0 nq0 nr0 nw1 na1 nq1 nr1 bs bp bh bf bl bg S0 S1 gw0 ga0 gw1 ga1 n a cg x sa pk fl gv gh gl ∧ hKn [xo, ez, eo, bu, nw0, na0, nq0, nr0, nw1, na1, nq1, nr1, bs, bp, bh, bf, bl, bg] f f9 ∧ lv9 = [(5, .int (nI j)), (0, .ref xo), (1, .ref lq), (2, .ref le), (3, .ref lr), (4, .ref lg)]) cg 34 204 0 0 (fun j f9 lv9 H locs ls hj hI hw hS hl9 ih => ?_) (fun f9 lv9 H locs ls hI hw hS hl9 => ?_) cg 0 (Nat.zero_add _) f109 _ _ _ ls ⟨hC110, ((show hKn [xo, ez, eo, bu, nw0, na0, nq0, nr0, nw1, na1, nq1, nr1, bs, bp, bh, bf, bl, bg] f f1 from (hKn.mono k3 (fun _ h9 => h9))).tr ((show hKn [xo, ez, eo, bu, nw0, na0, nq0, nr0, nw1, na1, nq1, nr1, bs, bp, bh, bf, bl, bg] f1 f6 from (hKn.mono k8 (fun _ h9 => h9))).tr ((show hKn [xo, ez, eo, bu, nw0, na0, nq0, nr0, nw1, na1, nq1, nr1, bs, bp, bh, bf, bl, bg] f6 f11 from (hKn.mono k13 (fun _ h9 => h9))).tr ((show hKn [xo, ez, eo, bu, nw0, na0, nq0, nr0, nw1, na1, nq1, nr1, bs, bp, bh, bf, bl, bg] f11 f16 from (hKn.mono k18 (fun _ h9 => h9))).tr ((show hKn [xo, ez, eo, bu, nw0, na0, nq0, nr0, nw1, na1, nq1, nr1, bs, bp, bh, bf, bl, bg] f16 f21 from (hKn.mono k23 (fun _ h9 => h9))).tr ((show hKn [xo, ez, eo, bu, nw0, na0, nq0, nr0, nw1, na1, nq1, nr1, bs, bp, bh, bf, bl, bg] f21 f25 from (hKn.mono k27 (fun _ h9 => h9))).tr ((show hKn [xo, ez, eo, bu, nw0, na0, nq0, nr0, nw1, na1, nq1, nr1, bs, bp, bh, bf, bl, bg] f25 f34 from (hKn.mono k36 (fun _ h9 => h9))).tr ((show hKn [xo, ez, eo, bu, nw0, na0, nq0, nr0, nw1, na1, nq1, nr1, bs, bp, bh, bf, bl, bg] f34 f38 from (hKn.mono k40 (fun _ h9 => h9))).tr ((show hKn [xo, ez, eo, bu, nw0, na0, nq0, nr0, nw1, na1, nq1, nr1, bs, bp, bh, bf, bl, bg] f38 f42 from (hKn.mono k44 (fun _ h9 => h9))).tr ((show hKn [xo, ez, eo, bu, nw0, na0, nq0, nr0, nw1, na1, nq1, nr1, bs, bp, bh, bf, bl, bg] f42 f46 from (hKn.mono k48 (fun _ h9 => h9))).tr ((show hKn [xo, ez, eo, bu, nw0, na0, nq0, nr0, nw1, na1, nq1, nr1, bs, bp, bh, bf, bl, bg] f46 f50 from (hKn.mono k52 (fun _ h9 => h9))).tr ((show hKn [xo, ez, eo, bu, nw0, na0, nq0, nr0, nw1, na1, nq1, nr1, bs, bp, bh, bf, bl, bg] f50 f54 from (hKn.mono k56 (fun _ h9 => h9))).tr ((show hKn [xo, ez, eo, bu, nw0, na0, nq0, nr0, nw1, na1, nq1, nr1, bs, bp, bh, bf, bl, bg] f54 f65 from (hKn.mono k67 (fun _ h9 => h9))).tr ((show hKn [xo, ez, eo, bu, nw0, na0, nq0, nr0, nw1, na1, nq1, nr1, bs, bp, bh, bf, bl, bg] f65 f70 from (hKn.mono k72 (fun _ h9 => h9))).tr ((show hKn [xo, ez, eo, bu, nw0, na0, nq0, nr0, nw1, na1, nq1, nr1, bs, bp, bh, bf, bl, bg] f70 f75 from (hKn.mono k77 (fun _ h9 => h9))).tr ((show hKn [xo, ez, eo, bu, nw0, na0, nq0, nr0, nw1, na1, nq1, nr1, bs, bp, bh, bf, bl, bg] f75 f80 from (hKn.mono k82 (fun _ h9 => h9))).tr ((show hKn [xo, ez, eo, bu, nw0, na0, nq0, nr0, nw1, na1, nq1, nr1, bs, bp, bh, bf, bl, bg] f80 f84 from (hKn.mono k86 (fun _ h9 => h9))).tr ((show hKn [xo, ez, eo, bu, nw0, na0, nq0, nr0, nw1, na1, nq1, nr1, bs, bp, bh, bf, bl, bg] f84 f93 from (hKn.mono k95 (fun _ h9 => h9))).tr ((show hKn [xo, ez, eo, bu, nw0, na0, nq0, nr0, nw1, na1, nq1, nr1, bs, bp, bh, bf, bl, bg] f93 f97 from (hKn.mono k99 (fun _ h9 => h9))).tr ((show hKn [xo, ez, eo, bu, nw0, na0, nq0, nr0, nw1, na1, nq1, nr1, bs, bp, bh, bf, bl, bg] f97 f101 from (hKn.mono k103 (fun _ h9 => h9))).tr ((show hKn [xo, ez, eo, bu, nw0, na0, nq0, nr0, nw1, na1, nq1, nr1, bs, bp, bh, bf, bl, bg] f101 f105 from (hKn.mono k107 (fun _ h9 => h9))).tr (show hKn [xo, ez, eo, bu, nw0, na0, nq0, nr0, nw1, na1, nq1, nr1, bs, bp, bh, bf, bl, bg] f105 f109 from (hKn.mono k111 (fun _ h9 => h9)))))))))))))))))))))))), rfl⟩ hw hS (lv_sub hl9 [0, 3, 4, 5, 6, 7] rfl)
                                                  · obtain ⟨hC9, hk9, el9⟩ := hI
                                                    rw [el9] at hl9
                                                    refine lv_iload hx hb dL_isTold_149 (lv_at hl9 0 rfl) ?_
                                                    refine lv_aload hx hb dL_isTold_151 (lv_at hl9 5 rfl) ?_
                                                    refine lv_bipush (v := 9) hx hb dL_isTold_153 (by decide) ?_
                                                    have h113 : f9 lg = some (.inl (cI G, 10, .inl (g10 tk gl a n x cg))) := hk9 _ _ k_lg (Nat.ne_of_beq_eq_false rfl) (hdos _ (List.mem_cons_of_mem _ (List.mem_cons_of_mem _ (List.mem_cons_of_mem _ List.mem_cons_self))))
                                                    refine hp_iald B0 hw h113 (by unfold vp_in; decide) dL_isTold_155 ?_
                                                    refine hp_c (v := (nI cg)) (rfl) ?_
                                                    refine lv_icmp_ge (tgt := 180) hx hb dL_isTold_156 (by decide) (fun c9 => absurd c9 (nI_ge hj (by omega))) (fun _ => ?_)
                                                    refine lv_aload_n hx hb dL_isTold_159 rfl (lv_at hl9 1 rfl) ?_
                                                    refine lv_iload hx hb dL_isTold_160 (lv_at hl9 0 rfl) ?_
                                                    refine hp_SH (As := [.ref xo, .int (nI j)]) (rest := []) B0 hw hS (c_V_givenAt_ok hl G f9 xo ez eo bu nw0 na0 nq0 nr0 nw1 na1 nq1 nr1 bs bp bh bf bl bg S0 S1 gw0 ga0 gw1 ga1 n a cg x sa pk fl gv gh gl hC9 (Nat.lt_of_le_of_lt hl0 (by decide)) (Nat.lt_of_le_of_lt hl1 (by decide)) j (by omega)) mH_L_givenAt qM_L_158 rfl rfl hl9.1 (Nat.le_of_ble_eq_true rfl) ⟨⟨Nat.le_of_ble_eq_true rfl, Nat.le_of_ble_eq_true rfl⟩, (by omega), (by omega)⟩ dL_isTold_162 (fun E ce q9 f114 H locs hPX hw hS hce hcv hcl => ?_) (fun v f114 H locs hP hw hS => ?_)
                                                    · exact hPX.elim
                                                    · obtain ⟨ev9, hC115, k116⟩ := hP
                                                      subst ev9
                                                      have hC115 : CXW G f114 xo ez eo bu nw0 na0 nq0 nr0 nw1 na1 nq1 nr1 bs bp bh bf bl bg S0 S1 gw0 ga0 gw1 ga1 n a cg x sa pk fl gv gh gl := hC115
                                                      refine W.eq (g2 := F0 m 165 ls [.int ((nI (gv j)))]) rfl ?_
                                                      refine lv_aload_n hx hb dL_isTold_165 rfl (lv_at hl9 4 rfl) ?_
                                                      refine lv_iload hx hb dL_isTold_166 (lv_at hl9 0 rfl) ?_
                                                      have h117 : f9 lr = some (.inl (cI G, 60, .inl (nf gv))) := hk9 _ _ k_lr (Nat.ne_of_beq_eq_false rfl) (hdos _ (List.mem_cons_of_mem _ (List.mem_cons_of_mem _ List.mem_cons_self)))
                                                      have h118 : f114 lr = some (.inl (cI G, 60, .inl (nf gv))) := k116 _ _ h117 (Nat.ne_of_beq_eq_false rfl) (hdos _ (List.mem_cons_of_mem _ (List.mem_cons_of_mem _ List.mem_cons_self)))
                                                      refine hp_iald B0 hw h118 (vp_in_nI (show j < 60 by omega) (by omega)) dL_isTold_168 ?_
                                                      refine hp_c (v := (nI (gv j))) (nf_at (nI_clamp (by omega))) ?_
                                                      refine lv_icmp_eq (tgt := 174) hx hb dL_isTold_169 (by decide) (fun _ => ?_) (fun c9 => absurd rfl c9)
                                                      refine lv_iinc (v := (nI (j + 1))) (lv' := [(5, .int (nI (j + 1))), (0, .ref xo), (1, .ref lq), (2, .ref le), (3, .ref lr), (4, .ref lg)]) hx hb dL_isTold_174 hl9 (k := 0) rfl (nI_1 j) (by decide) rfl (fun ls hl9 => ?_)
                                                      refine lv_goto (tgt := 149) hx hb dL_isTold_177 (by decide) ?_
                                                      exact hp_cs (by omega) (by omega) (ih _ _ H locs ls ⟨hC115, ((show hKn [xo, ez, eo, bu, nw0, na0, nq0, nr0, nw1, na1, nq1, nr1, bs, bp, bh, bf, bl, bg] f f9 from (hKn.mono hk9 (fun _ h9 => h9))).tr (show hKn [xo, ez, eo, bu, nw0, na0, nq0, nr0, nw1, na1, nq1, nr1, bs, bp, bh, bf, bl, bg] f9 f114 from (hKn.mono k116 (fun _ h9 => h9)))), rfl⟩ hw hS (lv_sub hl9 [0, 1, 2, 3, 4, 5] rfl))
                                                  · obtain ⟨hC9, hk9, el9⟩ := hI
                                                    rw [el9] at hl9
                                                    refine W.widen (k := 34 + 60 * 0) (n := 204 + 60 * 0) (by omega) (by omega) ?_
                                                    refine hp_cs (c2 := 34) (s2 := 204) rfl rfl ?_
                                                    refine lv_iload hx hb dL_isTold_149 (lv_at hl9 0 rfl) ?_
                                                    refine lv_aload hx hb dL_isTold_151 (lv_at hl9 5 rfl) ?_
                                                    refine lv_bipush (v := 9) hx hb dL_isTold_153 (by decide) ?_
                                                    have h119 : f9 lg = some (.inl (cI G, 10, .inl (g10 tk gl a n x cg))) := hk9 _ _ k_lg (Nat.ne_of_beq_eq_false rfl) (hdos _ (List.mem_cons_of_mem _ (List.mem_cons_of_mem _ (List.mem_cons_of_mem _ List.mem_cons_self))))
                                                    refine hp_iald B0 hw h119 (by unfold vp_in; decide) dL_isTold_155 ?_
                                                    refine hp_c (v := (nI cg)) (rfl) ?_
                                                    refine lv_icmp_ge (tgt := 180) hx hb dL_isTold_156 (by decide) (fun _ => ?_) (fun c9 => absurd (nI_le (Nat.le_refl _) (by omega)) c9)
                                                    refine lv_aload_n hx hb dL_isTold_180 rfl (lv_at hl9 1 rfl) ?_
                                                    have h120 : f9 xo = some (.inr (4, [.ref ez, .ref eo, .ref bu])) := by obtain ⟨_, _, h9⟩ := hC9; exact h9.1
                                                    refine hp_V (ci := 4) (As := []) (rest := []) B0 hw hS (c_P_given_ok hl G f9 xo ez eo bu nw0 na0 nq0 nr0 nw1 na1 nq1 nr1 bs bp bh bf bl bg S0 S1 gw0 ga0 gw1 ga1 n a cg x sa pk fl gv gh gl hC9 (Nat.lt_of_le_of_lt hl0 (by decide)) (Nat.lt_of_le_of_lt hl1 (by decide))) mV_X4_given qM_L_160 rfl h120 rfl rfl hl9.1 (Nat.le_of_ble_eq_true rfl) ⟨⟨Nat.le_of_ble_eq_true rfl, Nat.le_of_ble_eq_true rfl⟩, Nat.le_of_ble_eq_true rfl, Nat.le_of_ble_eq_true rfl⟩ dL_isTold_181 (fun E ce q9 f121 H locs hPX hw hS hce hcv hcl => ?_) (fun v f121 H locs hP hw hS => ?_)
                                                    · exact hPX.elim
                                                    · obtain ⟨ev9, hC122, k123⟩ := hP
                                                      subst ev9
                                                      refine W.eq (g2 := F0 m 184 ls [.int (nI cg)]) rfl ?_
                                                      refine lv_aload hx hb dL_isTold_184 (lv_at hl9 5 rfl) ?_
                                                      refine lv_bipush (v := 9) hx hb dL_isTold_186 (by decide) ?_
                                                      have h124 : f121 lg = some (.inl (cI G, 10, .inl (g10 tk gl a n x cg))) := k123 _ _ h119 (Nat.ne_of_beq_eq_false rfl) (hdos _ (List.mem_cons_of_mem _ (List.mem_cons_of_mem _ (List.mem_cons_of_mem _ List.mem_cons_self))))
                                                      refine hp_iald B0 hw h124 (by unfold vp_in; decide) dL_isTold_188 ?_
                                                      refine hp_c (v := (nI cg)) (rfl) ?_
                                                      refine lv_icmp_ne (tgt := 308) hx hb dL_isTold_189 (by decide) (fun c9 => absurd rfl c9) (fun _ => ?_)
                                                      refine lv_aload_n hx hb dL_isTold_192 rfl (lv_at hl9 1 rfl) ?_
                                                      have h125 : f121 xo = some (.inr (4, [.ref ez, .ref eo, .ref bu])) := by obtain ⟨_, _, h9⟩ := hC122; exact h9.1
                                                      refine hp_V (ci := 4) (As := []) (rest := []) B0 hw hS (c_P_next_ok hl G f121 xo ez eo bu nw0 na0 nq0 nr0 nw1 na1 nq1 nr1 bs bp bh bf bl bg S0 S1 gw0 ga0 gw1 ga1 n a cg x sa pk fl gv gh gl hC122 (Nat.lt_of_le_of_lt hl0 (by decide)) (Nat.lt_of_le_of_lt hl1 (by decide))) mV_X4_next qM_L_164 rfl h125 rfl rfl hl9.1 (Nat.le_of_ble_eq_true rfl) ⟨⟨Nat.le_of_ble_eq_true rfl, Nat.le_of_ble_eq_true rfl⟩, Nat.le_of_ble_eq_true rfl, Nat.le_of_ble_eq_true rfl⟩ dL_isTold_193 (fun E ce q9 f126 H locs hPX hw hS hce hcv hcl => ?_) (fun v f126 H locs hP hw hS => ?_)
                                                      · exact hPX.elim
                                                      · obtain ⟨ev9, hC127, k128⟩ := hP
                                                        subst ev9
                                                        refine W.eq (g2 := F0 m 196 ls [.int (nI x)]) rfl ?_
                                                        refine lv_aload hx hb dL_isTold_196 (lv_at hl9 5 rfl) ?_
                                                        refine lv_bipush (v := 8) hx hb dL_isTold_198 (by decide) ?_
                                                        have h129 : f126 lg = some (.inl (cI G, 10, .inl (g10 tk gl a n x cg))) := k128 _ _ h124 (Nat.ne_of_beq_eq_false rfl) (hdos _ (List.mem_cons_of_mem _ (List.mem_cons_of_mem _ (List.mem_cons_of_mem _ List.mem_cons_self))))
                                                        refine hp_iald B0 hw h129 (by unfold vp_in; decide) dL_isTold_200 ?_
                                                        refine hp_c (v := (nI x)) (rfl) ?_
                                                        refine lv_icmp_ne (tgt := 308) hx hb dL_isTold_201 (by decide) (fun c9 => absurd rfl c9) (fun _ => ?_)
                                                        refine lv_aload_n hx hb dL_isTold_204 rfl (lv_at hl9 1 rfl) ?_
                                                        refine lv_aload hx hb dL_isTold_205 (lv_at hl9 5 rfl) ?_
                                                        refine lv_bipush (v := 9) hx hb dL_isTold_207 (by decide) ?_
                                                        refine hp_iald B0 hw h129 (by unfold vp_in; decide) dL_isTold_209 ?_
                                                        refine hp_c (v := (nI cg)) (rfl) ?_
                                                        refine hp_SH (As := [.ref xo, .int (nI cg)]) (rest := []) B0 hw hS (c_V_givenAt_I hl G f126 xo ez eo bu nw0 na0 nq0 nr0 nw1 na1 nq1 nr1 bs bp bh bf bl bg S0 S1 gw0 ga0 gw1 ga1 n a cg x sa pk fl gv gh gl hC127 (Nat.lt_of_le_of_lt hl0 (by decide)) (Nat.lt_of_le_of_lt hl1 (by decide)) (nI cg) (by rw [nI_toInt (by omega)]; omega)) mH_L_givenAt qM_L_158 rfl rfl hl9.1 (Nat.le_of_ble_eq_true rfl) ⟨⟨Nat.le_of_ble_eq_true rfl, Nat.le_of_ble_eq_true rfl⟩, Nat.le_of_ble_eq_true rfl, Nat.le_of_ble_eq_true rfl⟩ dL_isTold_210 (fun E ce q9 f130 H locs hPX hw hS hce hcv hcl => ?_) (fun v f130 H locs hP hw hS => ?_)
                                                        · exact hPX.elim
                                                        · obtain ⟨ev9, hC131, k132⟩ := hP
                                                          subst ev9
                                                          have hC131 : CXW G f130 xo ez eo bu nw0 na0 nq0 nr0 nw1 na1 nq1 nr1 bs bp bh bf bl bg S0 S1 gw0 ga0 gw1 ga1 n a cg x sa pk fl gv gh gl := hC131
                                                          refine W.eq (g2 := F0 m 213 ls [.int (-71)]) rfl ?_
                                                          refine lv_bipush (v := (-71)) hx hb dL_isTold_213 (by decide) ?_
                                                          refine lv_icmp_ne (tgt := 308) hx hb dL_isTold_215 (by decide) (fun c9 => absurd (by decide) c9) (fun _ => ?_)
                                                          refine lv_aload_n hx hb dL_isTold_218 rfl (lv_at hl9 1 rfl) ?_
                                                          refine lv_iconst (v := (-1)) hx hb dL_isTold_219 (by decide) ?_
                                                          refine hp_SH (As := [.ref xo, .int (-1)]) (rest := []) B0 hw hS (c_V_givenAt_I hl G f130 xo ez eo bu nw0 na0 nq0 nr0 nw1 na1 nq1 nr1 bs bp bh bf bl bg S0 S1 gw0 ga0 gw1 ga1 n a cg x sa pk fl gv gh gl hC131 (Nat.lt_of_le_of_lt hl0 (by decide)) (Nat.lt_of_le_of_lt hl1 (by decide)) (-1) (fun h9 => absurd h9.1 (by decide))) mH_L_givenAt qM_L_158 rfl rfl hl9.1 (Nat.le_of_ble_eq_true rfl) ⟨⟨Nat.le_of_ble_eq_true rfl, Nat.le_of_ble_eq_true rfl⟩, Nat.le_of_ble_eq_true rfl, Nat.le_of_ble_eq_true rfl⟩ dL_isTold_220 (fun E ce q9 f133 H locs hPX hw hS hce hcv hcl => ?_) (fun v f133 H locs hP hw hS => ?_)
                                                          · exact hPX.elim
                                                          · obtain ⟨ev9, hC134, k135⟩ := hP
                                                            subst ev9
                                                            have hC134 : CXW G f133 xo ez eo bu nw0 na0 nq0 nr0 nw1 na1 nq1 nr1 bs bp bh bf bl bg S0 S1 gw0 ga0 gw1 ga1 n a cg x sa pk fl gv gh gl := hC134
                                                            refine W.eq (g2 := F0 m 223 ls [.int (-71)]) rfl ?_
                                                            refine lv_bipush (v := (-71)) hx hb dL_isTold_223 (by decide) ?_
                                                            refine lv_icmp_ne (tgt := 308) hx hb dL_isTold_225 (by decide) (fun c9 => absurd (by decide) c9) (fun _ => ?_)
                                                            refine lv_aload_n hx hb dL_isTold_228 rfl (lv_at hl9 1 rfl) ?_
                                                            refine lv_ldc (v := 2147483647) hx hb B0.2.2.2.1 (B0.2.2.2.2.1 _ qK_L_68) dL_isTold_229 ?_
                                                            refine hp_SH (As := [.ref xo, .int 2147483647]) (rest := []) B0 hw hS (c_V_givenAt_I hl G f133 xo ez eo bu nw0 na0 nq0 nr0 nw1 na1 nq1 nr1 bs bp bh bf bl bg S0 S1 gw0 ga0 gw1 ga1 n a cg x sa pk fl gv gh gl hC134 (Nat.lt_of_le_of_lt hl0 (by decide)) (Nat.lt_of_le_of_lt hl1 (by decide)) 2147483647 (fun h9 => by have h8 := h9.2; rw [show (2147483647 : Int32).toInt = 2147483647 from by decide] at h8; omega)) mH_L_givenAt qM_L_158 rfl rfl hl9.1 (Nat.le_of_ble_eq_true rfl) ⟨⟨Nat.le_of_ble_eq_true rfl, Nat.le_of_ble_eq_true rfl⟩, Nat.le_of_ble_eq_true rfl, Nat.le_of_ble_eq_true rfl⟩ dL_isTold_231 (fun E ce q9 f136 H locs hPX hw hS hce hcv hcl => ?_) (fun v f136 H locs hP hw hS => ?_)
                                                            · exact hPX.elim
                                                            · obtain ⟨ev9, hC137, k138⟩ := hP
                                                              subst ev9
                                                              have hC137 : CXW G f136 xo ez eo bu nw0 na0 nq0 nr0 nw1 na1 nq1 nr1 bs bp bh bf bl bg S0 S1 gw0 ga0 gw1 ga1 n a cg x sa pk fl gv gh gl := hC137
                                                              refine W.eq (g2 := F0 m 234 ls [.int (-71)]) rfl ?_
                                                              refine lv_bipush (v := (-71)) hx hb dL_isTold_234 (by decide) ?_
                                                              refine lv_icmp_ne (tgt := 308) hx hb dL_isTold_236 (by decide) (fun c9 => absurd (by decide) c9) (fun _ => ?_)
                                                              refine lv_aload_n hx hb dL_isTold_239 rfl (lv_at hl9 1 rfl) ?_
                                                              refine lv_iconst (v := 2) hx hb dL_isTold_240 (by decide) ?_
                                                              refine hp_SH (As := [.ref xo, .int 2]) (rest := []) B0 hw hS (c_V_stateOf_E hl G f136 xo ez eo bu nw0 na0 nq0 nr0 nw1 na1 nq1 nr1 bs bp bh bf bl bg S0 S1 gw0 ga0 gw1 ga1 n a cg x sa pk fl gv gh gl hC137 (Nat.lt_of_le_of_lt hl0 (by decide)) (Nat.lt_of_le_of_lt hl1 (by decide)) 2 (by decide)) mH_L_stateOf qM_L_141 rfl rfl hl9.1 (Nat.le_of_ble_eq_true rfl) ⟨⟨Nat.le_of_ble_eq_true rfl, Nat.le_of_ble_eq_true rfl⟩, Nat.le_of_ble_eq_true rfl, Nat.le_of_ble_eq_true rfl⟩ dL_isTold_241 (fun E ce q9 f139 H locs hPX hw hS hce hcv hcl => ?_) (fun v f139 H locs hP hw hS => ?_)
                                                              · exact hPX.elim
                                                              · obtain ⟨ev9, hC140, k141⟩ := hP
                                                                subst ev9
                                                                have hC140 : CXW G f139 xo ez eo bu nw0 na0 nq0 nr0 nw1 na1 nq1 nr1 bs bp bh bf bl bg S0 S1 gw0 ga0 gw1 ga1 n a cg x sa pk fl gv gh gl := hC140
                                                                refine W.eq (g2 := F0 m 244 ls [.int (-71)]) rfl ?_
                                                                refine lv_bipush (v := (-71)) hx hb dL_isTold_244 (by decide) ?_
                                                                refine lv_icmp_ne (tgt := 308) hx hb dL_isTold_246 (by decide) (fun c9 => absurd (by decide) c9) (fun _ => ?_)
                                                                refine lv_aload_n hx hb dL_isTold_249 rfl (lv_at hl9 1 rfl) ?_
                                                                refine lv_ldc (v := (-2147483648)) hx hb B0.2.2.2.1 (B0.2.2.2.2.1 _ qK_L_67) dL_isTold_250 ?_
                                                                refine hp_SH (As := [.ref xo, .int (-2147483648)]) (rest := []) B0 hw hS (c_V_stateOf_E hl G f139 xo ez eo bu nw0 na0 nq0 nr0 nw1 na1 nq1 nr1 bs bp bh bf bl bg S0 S1 gw0 ga0 gw1 ga1 n a cg x sa pk fl gv gh gl hC140 (Nat.lt_of_le_of_lt hl0 (by decide)) (Nat.lt_of_le_of_lt hl1 (by decide)) (-2147483648) (by decide)) mH_L_stateOf qM_L_141 rfl rfl hl9.1 (Nat.le_of_ble_eq_true rfl) ⟨⟨Nat.le_of_ble_eq_true rfl, Nat.le_of_ble_eq_true rfl⟩, Nat.le_of_ble_eq_true rfl, Nat.le_of_ble_eq_true rfl⟩ dL_isTold_252 (fun E ce q9 f142 H locs hPX hw hS hce hcv hcl => ?_) (fun v f142 H locs hP hw hS => ?_)
                                                                · exact hPX.elim
                                                                · obtain ⟨ev9, hC143, k144⟩ := hP
                                                                  subst ev9
                                                                  have hC143 : CXW G f142 xo ez eo bu nw0 na0 nq0 nr0 nw1 na1 nq1 nr1 bs bp bh bf bl bg S0 S1 gw0 ga0 gw1 ga1 n a cg x sa pk fl gv gh gl := hC143
                                                                  refine W.eq (g2 := F0 m 255 ls [.int (-71)]) rfl ?_
                                                                  refine lv_bipush (v := (-71)) hx hb dL_isTold_255 (by decide) ?_
                                                                  refine lv_icmp_ne (tgt := 308) hx hb dL_isTold_257 (by decide) (fun c9 => absurd (by decide) c9) (fun _ => ?_)
                                                                  refine lv_aload_n hx hb dL_isTold_260 rfl (lv_at hl9 1 rfl) ?_
                                                                  refine lv_iconst (v := 0) hx hb dL_isTold_261 (by decide) ?_
                                                                  refine lv_bipush (v := 6) hx hb dL_isTold_262 (by decide) ?_
                                                                  refine hp_SH (As := [.ref xo, .int 0, .int 6]) (rest := []) B0 hw hS (c_V_asked_O0 hl G f142 xo ez eo bu nw0 na0 nq0 nr0 nw1 na1 nq1 nr1 bs bp bh bf bl bg S0 S1 gw0 ga0 gw1 ga1 n a cg x sa pk fl gv gh gl hC143 (Nat.lt_of_le_of_lt hl0 (by decide)) (Nat.lt_of_le_of_lt hl1 (by decide)) 6 (by decide)) mH_L_asked qM_L_155 rfl rfl hl9.1 (Nat.le_of_ble_eq_true rfl) ⟨⟨Nat.le_of_ble_eq_true rfl, Nat.le_of_ble_eq_true rfl⟩, Nat.le_of_ble_eq_true rfl, Nat.le_of_ble_eq_true rfl⟩ dL_isTold_264 (fun E ce q9 f145 H locs hPX hw hS hce hcv hcl => ?_) (fun v f145 H locs hP hw hS => ?_)
                                                                  · exact hPX.elim
                                                                  · obtain ⟨ev9, hC146, k147⟩ := hP
                                                                    subst ev9
                                                                    have hC146 : CXW G f145 xo ez eo bu nw0 na0 nq0 nr0 nw1 na1 nq1 nr1 bs bp bh bf bl bg S0 S1 gw0 ga0 gw1 ga1 n a cg x sa pk fl gv gh gl := hC146
                                                                    refine W.eq (g2 := F0 m 267 ls [.int (-71)]) rfl ?_
                                                                    refine lv_bipush (v := (-71)) hx hb dL_isTold_267 (by decide) ?_
                                                                    refine lv_icmp_ne (tgt := 308) hx hb dL_isTold_269 (by decide) (fun c9 => absurd (by decide) c9) (fun _ => ?_)
                                                                    refine lv_aload_n hx hb dL_isTold_272 rfl (lv_at hl9 1 rfl) ?_
                                                                    refine lv_iconst (v := 2) hx hb dL_isTold_273 (by decide) ?_
                                                                    refine lv_iconst (v := 0) hx hb dL_isTold_274 (by decide) ?_
                                                                    refine hp_SH (As := [.ref xo, .int 2, .int 0]) (rest := []) B0 hw hS (c_V_asked_E hl G f145 xo ez eo bu nw0 na0 nq0 nr0 nw1 na1 nq1 nr1 bs bp bh bf bl bg S0 S1 gw0 ga0 gw1 ga1 n a cg x sa pk fl gv gh gl hC146 (Nat.lt_of_le_of_lt hl0 (by decide)) (Nat.lt_of_le_of_lt hl1 (by decide)) 2 0 (by decide)) mH_L_asked qM_L_155 rfl rfl hl9.1 (Nat.le_of_ble_eq_true rfl) ⟨⟨Nat.le_of_ble_eq_true rfl, Nat.le_of_ble_eq_true rfl⟩, Nat.le_of_ble_eq_true rfl, Nat.le_of_ble_eq_true rfl⟩ dL_isTold_275 (fun E ce q9 f148 H locs hPX hw hS hce hcv hcl => ?_) (fun v f148 H locs hP hw hS => ?_)
                                                                    · exact hPX.elim
                                                                    · obtain ⟨ev9, hC149, k150⟩ := hP
                                                                      subst ev9
                                                                      have hC149 : CXW G f148 xo ez eo bu nw0 na0 nq0 nr0 nw1 na1 nq1 nr1 bs bp bh bf bl bg S0 S1 gw0 ga0 gw1 ga1 n a cg x sa pk fl gv gh gl := hC149
                                                                      refine W.eq (g2 := F0 m 278 ls [.int (-71)]) rfl ?_
                                                                      refine lv_bipush (v := (-71)) hx hb dL_isTold_278 (by decide) ?_
                                                                      refine lv_icmp_ne (tgt := 308) hx hb dL_isTold_280 (by decide) (fun c9 => absurd (by decide) c9) (fun _ => ?_)
                                                                      refine lv_aload_n hx hb dL_isTold_283 rfl (lv_at hl9 1 rfl) ?_
                                                                      refine lv_iconst (v := 0) hx hb dL_isTold_284 (by decide) ?_
                                                                      refine lv_iconst (v := (-1)) hx hb dL_isTold_285 (by decide) ?_
                                                                      refine hp_SH (As := [.ref xo, .int 0, .int (-1)]) (rest := []) B0 hw hS (c_V_asked_O0 hl G f148 xo ez eo bu nw0 na0 nq0 nr0 nw1 na1 nq1 nr1 bs bp bh bf bl bg S0 S1 gw0 ga0 gw1 ga1 n a cg x sa pk fl gv gh gl hC149 (Nat.lt_of_le_of_lt hl0 (by decide)) (Nat.lt_of_le_of_lt hl1 (by decide)) (-1) (by decide)) mH_L_asked qM_L_155 rfl rfl hl9.1 (Nat.le_of_ble_eq_true rfl) ⟨⟨Nat.le_of_ble_eq_true rfl, Nat.le_of_ble_eq_true rfl⟩, Nat.le_of_ble_eq_true rfl, Nat.le_of_ble_eq_true rfl⟩ dL_isTold_286 (fun E ce q9 f151 H locs hPX hw hS hce hcv hcl => ?_) (fun v f151 H locs hP hw hS => ?_)
                                                                      · exact hPX.elim
                                                                      · obtain ⟨ev9, hC152, k153⟩ := hP
                                                                        subst ev9
                                                                        have hC152 : CXW G f151 xo ez eo bu nw0 na0 nq0 nr0 nw1 na1 nq1 nr1 bs bp bh bf bl bg S0 S1 gw0 ga0 gw1 ga1 n a cg x sa pk fl gv gh gl := hC152
                                                                        refine W.eq (g2 := F0 m 289 ls [.int (-71)]) rfl ?_
                                                                        refine lv_bipush (v := (-71)) hx hb dL_isTold_289 (by decide) ?_
                                                                        refine lv_icmp_ne (tgt := 308) hx hb dL_isTold_291 (by decide) (fun c9 => absurd (by decide) c9) (fun _ => ?_)
                                                                        refine lv_aload_n hx hb dL_isTold_294 rfl (lv_at hl9 1 rfl) ?_
                                                                        refine lv_iconst (v := (-1)) hx hb dL_isTold_295 (by decide) ?_
                                                                        refine hp_SH (As := [.ref xo, .int (-1)]) (rest := []) B0 hw hS (c_V_underWay_E hl G f151 xo ez eo bu nw0 na0 nq0 nr0 nw1 na1 nq1 nr1 bs bp bh bf bl bg S0 S1 gw0 ga0 gw1 ga1 n a cg x sa pk fl gv gh gl hC152 (Nat.lt_of_le_of_lt hl0 (by decide)) (Nat.lt_of_le_of_lt hl1 (by decide)) (-1) (by decide)) mH_L_underWay qM_L_150 rfl rfl hl9.1 (Nat.le_of_ble_eq_true rfl) ⟨⟨Nat.le_of_ble_eq_true rfl, Nat.le_of_ble_eq_true rfl⟩, Nat.le_of_ble_eq_true rfl, Nat.le_of_ble_eq_true rfl⟩ dL_isTold_296 (fun E ce q9 f154 H locs hPX hw hS hce hcv hcl => ?_) (fun v f154 H locs hP hw hS => ?_)
                                                                        · exact hPX.elim
                                                                        · obtain ⟨ev9, hC155, k156⟩ := hP
                                                                          subst ev9
                                                                          have hC155 : CXW G f154 xo ez eo bu nw0 na0 nq0 nr0 nw1 na1 nq1 nr1 bs bp bh bf bl bg S0 S1 gw0 ga0 gw1 ga1 n a cg x sa pk fl gv gh gl := hC155
                                                                          refine W.eq (g2 := F0 m 299 ls [.int (-71)]) rfl ?_
                                                                          refine lv_bipush (v := (-71)) hx hb dL_isTold_299 (by decide) ?_
                                                                          refine lv_icmp_ne (tgt := 308) hx hb dL_isTold_301 (by decide) (fun c9 => absurd (by decide) c9) (fun _ => ?_)
                                                                          refine lv_iconst (v := 1) hx hb dL_isTold_304 (by decide) ?_
                                                                          refine lv_goto (tgt := 309) hx hb dL_isTold_305 (by decide) ?_
                                                                          exact hp_zret (v := 1) B0 hw hS hr ⟨Nat.le_of_ble_eq_true rfl, Nat.le_of_ble_eq_true rfl⟩ (rfl) dL_isTold_309 (⟨rfl, hC155, ((show hKn [xo, ez, eo, bu, nw0, na0, nq0, nr0, nw1, na1, nq1, nr1, bs, bp, bh, bf, bl, bg] f f9 from (hKn.mono hk9 (fun _ h9 => h9))).tr ((show hKn [xo, ez, eo, bu, nw0, na0, nq0, nr0, nw1, na1, nq1, nr1, bs, bp, bh, bf, bl, bg] f9 f121 from (hKn.mono k123 (fun _ h9 => h9))).tr ((show hKn [xo, ez, eo, bu, nw0, na0, nq0, nr0, nw1, na1, nq1, nr1, bs, bp, bh, bf, bl, bg] f121 f126 from (hKn.mono k128 (fun _ h9 => h9))).tr ((show hKn [xo, ez, eo, bu, nw0, na0, nq0, nr0, nw1, na1, nq1, nr1, bs, bp, bh, bf, bl, bg] f126 f130 from (hKn.mono k132 (fun _ h9 => h9))).tr ((show hKn [xo, ez, eo, bu, nw0, na0, nq0, nr0, nw1, na1, nq1, nr1, bs, bp, bh, bf, bl, bg] f130 f133 from (hKn.mono k135 (fun _ h9 => h9))).tr ((show hKn [xo, ez, eo, bu, nw0, na0, nq0, nr0, nw1, na1, nq1, nr1, bs, bp, bh, bf, bl, bg] f133 f136 from (hKn.mono k138 (fun _ h9 => h9))).tr ((show hKn [xo, ez, eo, bu, nw0, na0, nq0, nr0, nw1, na1, nq1, nr1, bs, bp, bh, bf, bl, bg] f136 f139 from (hKn.mono k141 (fun _ h9 => h9))).tr ((show hKn [xo, ez, eo, bu, nw0, na0, nq0, nr0, nw1, na1, nq1, nr1, bs, bp, bh, bf, bl, bg] f139 f142 from (hKn.mono k144 (fun _ h9 => h9))).tr ((show hKn [xo, ez, eo, bu, nw0, na0, nq0, nr0, nw1, na1, nq1, nr1, bs, bp, bh, bf, bl, bg] f142 f145 from (hKn.mono k147 (fun _ h9 => h9))).tr ((show hKn [xo, ez, eo, bu, nw0, na0, nq0, nr0, nw1, na1, nq1, nr1, bs, bp, bh, bf, bl, bg] f145 f148 from (hKn.mono k150 (fun _ h9 => h9))).tr ((show hKn [xo, ez, eo, bu, nw0, na0, nq0, nr0, nw1, na1, nq1, nr1, bs, bp, bh, bf, bl, bg] f148 f151 from (hKn.mono k153 (fun _ h9 => h9))).tr (show hKn [xo, ez, eo, bu, nw0, na0, nq0, nr0, nw1, na1, nq1, nr1, bs, bp, bh, bf, bl, bg] f151 f154 from (hKn.mono k156 (fun _ h9 => h9))))))))))))))⟩)
                                · refine lv_iconst (v := 1) hx hb dL_isTold_60 (by decide) ?_
                                  refine lv_goto (tgt := 65) hx hb dL_isTold_61 (by decide) ?_
                                  refine lv_icmp_ne (tgt := 99) hx hb dL_isTold_65 (by decide) (fun c9 => absurd c74 c9) (fun _ => ?_)
                                  refine lv_aload_n hx hb dL_isTold_68 rfl (lv_at hl9 3 rfl) ?_
                                  refine lv_iload hx hb dL_isTold_69 (lv_at hl9 1 rfl) ?_
                                  refine hp_SH (As := [.ref xo, .int 1]) (rest := []) B0 hw hS (c_V_underWay_1 hl G f70 xo ez eo bu nw0 na0 nq0 nr0 nw1 na1 nq1 nr1 bs bp bh bf bl bg S0 S1 gw0 ga0 gw1 ga1 n a cg x sa pk fl gv gh gl hC71 (Nat.lt_of_le_of_lt hl0 (by decide)) (Nat.lt_of_le_of_lt hl1 (by decide)) ) mH_L_underWay qM_L_150 rfl rfl hl9.1 (Nat.le_of_ble_eq_true rfl) ⟨⟨Nat.le_of_ble_eq_true rfl, Nat.le_of_ble_eq_true rfl⟩, Nat.le_of_ble_eq_true rfl, Nat.le_of_ble_eq_true rfl⟩ dL_isTold_71 (fun E ce q9 f157 H locs hPX hw hS hce hcv hcl => ?_) (fun v f157 H locs hP hw hS => ?_)
                                  · exact hPX.elim
                                  · obtain ⟨ev9, hC158, k159⟩ := hP
                                    subst ev9
                                    have hC158 : CXW G f157 xo ez eo bu nw0 na0 nq0 nr0 nw1 na1 nq1 nr1 bs bp bh bf bl bg S0 S1 gw0 ga0 gw1 ga1 n a cg x sa pk fl gv gh gl := hC158
                                    refine W.eq (g2 := F0 m 74 ls [.int ((nI S1.2.2.2.2.2.2.2.2.length))]) rfl ?_
                                    refine lv_aload_n hx hb dL_isTold_74 rfl (lv_at hl9 5 rfl) ?_
                                    refine lv_iload hx hb dL_isTold_75 (lv_at hl9 0 rfl) ?_
                                    refine lv_bipush (v := 7) hx hb dL_isTold_77 (by decide) ?_
                                    refine lv_iadd hx hb dL_isTold_79 ?_
                                    refine hp_c (v := 15) (by decide) ?_
                                    have h160 : f157 le = some (.inl (cI G, 16, .inl (jE (eS S0) (eS S1)))) := k159 _ _ h73 (Nat.ne_of_beq_eq_false rfl) (hdos _ (List.mem_cons_of_mem _ List.mem_cons_self))
                                    refine hp_iald B0 hw h160 (by unfold vp_in; decide) dL_isTold_80 ?_
                                    refine hp_c (v := (nI S1.2.2.2.2.2.2.2.2.length)) (rfl) ?_
                                    refine lv_icmp_ne (tgt := 99) hx hb dL_isTold_81 (by decide) (fun c9 => absurd rfl c9) (fun _ => ?_)
                                    refine lv_aload_n hx hb dL_isTold_84 rfl (lv_at hl9 3 rfl) ?_
                                    refine lv_iload hx hb dL_isTold_85 (lv_at hl9 1 rfl) ?_
                                    have h161 : f157 xo = some (.inr (4, [.ref ez, .ref eo, .ref bu])) := by obtain ⟨_, _, h9⟩ := hC158; exact h9.1
                                    refine hp_V (ci := 4) (As := [.int 1]) (rest := []) B0 hw hS (c_P_missed_1 hl G f157 xo ez eo bu nw0 na0 nq0 nr0 nw1 na1 nq1 nr1 bs bp bh bf bl bg S0 S1 gw0 ga0 gw1 ga1 n a cg x sa pk fl gv gh gl hC158 (Nat.lt_of_le_of_lt hl0 (by decide)) (Nat.lt_of_le_of_lt hl1 (by decide))) mV_X4_missed qM_L_152 rfl h161 rfl rfl hl9.1 (Nat.le_of_ble_eq_true rfl) ⟨⟨Nat.le_of_ble_eq_true rfl, Nat.le_of_ble_eq_true rfl⟩, Nat.le_of_ble_eq_true rfl, Nat.le_of_ble_eq_true rfl⟩ dL_isTold_87 (fun E ce q9 f162 H locs hPX hw hS hce hcv hcl => ?_) (fun v f162 H locs hP hw hS => ?_)
                                    · exact hPX.elim
                                    · obtain ⟨ev9, hC163, k164⟩ := hP
                                      subst ev9
                                      refine W.eq (g2 := F0 m 90 ls [.int S1.2.2.2.2.2.1]) rfl ?_
                                      refine lv_aload_n hx hb dL_isTold_90 rfl (lv_at hl9 5 rfl) ?_
                                      refine lv_iload hx hb dL_isTold_91 (lv_at hl9 0 rfl) ?_
                                      refine lv_iconst (v := 5) hx hb dL_isTold_93 (by decide) ?_
                                      refine lv_iadd hx hb dL_isTold_94 ?_
                                      refine hp_c (v := 13) (by decide) ?_
                                      have h165 : f162 le = some (.inl (cI G, 16, .inl (jE (eS S0) (eS S1)))) := k164 _ _ h160 (Nat.ne_of_beq_eq_false rfl) (hdos _ (List.mem_cons_of_mem _ List.mem_cons_self))
                                      refine hp_iald B0 hw h165 (by unfold vp_in; decide) dL_isTold_95 ?_
                                      refine hp_c (v := S1.2.2.2.2.2.1) (rfl) ?_
                                      refine lv_icmp_eq (tgt := 101) hx hb dL_isTold_96 (by decide) (fun _ => ?_) (fun c9 => absurd rfl c9)
                                      refine lv_iconst (v := 0) hx hb dL_isTold_101 (by decide) ?_
                                      refine lv_istore (lv' := [(7, .int 0), (6, .int 8), (5, .int 1), (0, .ref xo), (1, .ref lq), (2, .ref le), (3, .ref lr), (4, .ref lg)]) hx hb dL_isTold_102 hl9 (by decide) rfl (fun ls hl9 => ?_)
                                      refine lv_iload hx hb dL_isTold_104 (lv_at hl9 0 rfl) ?_
                                      refine lv_bipush (v := 6) hx hb dL_isTold_106 (by decide) ?_
                                      refine lv_icmp_ge (tgt := 140) hx hb dL_isTold_108 (by decide) (fun c9 => absurd c9 (by decide)) (fun _ => ?_)
                                      refine lv_aload_n hx hb dL_isTold_111 rfl (lv_at hl9 3 rfl) ?_
                                      refine lv_iload hx hb dL_isTold_112 (lv_at hl9 2 rfl) ?_
                                      refine lv_iload hx hb dL_isTold_114 (lv_at hl9 0 rfl) ?_
                                      refine hp_SH (As := [.ref xo, .int 1, .int 0]) (rest := []) B0 hw hS (c_V_asked_1 hl G f162 xo ez eo bu nw0 na0 nq0 nr0 nw1 na1 nq1 nr1 bs bp bh bf bl bg S0 S1 gw0 ga0 gw1 ga1 n a cg x sa pk fl gv gh gl hC163 (Nat.lt_of_le_of_lt hl0 (by decide)) (Nat.lt_of_le_of_lt hl1 (by decide)) 0 (by decide)) mH_L_asked qM_L_155 rfl rfl hl9.1 (Nat.le_of_ble_eq_true rfl) ⟨⟨Nat.le_of_ble_eq_true rfl, Nat.le_of_ble_eq_true rfl⟩, Nat.le_of_ble_eq_true rfl, Nat.le_of_ble_eq_true rfl⟩ dL_isTold_116 (fun E ce q9 f166 H locs hPX hw hS hce hcv hcl => ?_) (fun v f166 H locs hP hw hS => ?_)
                                      · exact hPX.elim
                                      · obtain ⟨ev9, hC167, k168⟩ := hP
                                        subst ev9
                                        have hC167 : CXW G f166 xo ez eo bu nw0 na0 nq0 nr0 nw1 na1 nq1 nr1 bs bp bh bf bl bg S0 S1 gw0 ga0 gw1 ga1 n a cg x sa pk fl gv gh gl := hC167
                                        refine W.eq (g2 := F0 m 119 ls [.int ((S1.2.2.2.2.2.2.2.1 0))]) rfl ?_
                                        refine lv_aload_n hx hb dL_isTold_119 rfl (lv_at hl9 4 rfl) ?_
                                        refine lv_bipush (v := 6) hx hb dL_isTold_120 (by decide) ?_
                                        refine lv_iload hx hb dL_isTold_122 (lv_at hl9 2 rfl) ?_
                                        refine lv_imul hx hb dL_isTold_124 ?_
                                        refine hp_c (v := 6) (by decide) ?_
                                        refine lv_iload hx hb dL_isTold_125 (lv_at hl9 0 rfl) ?_
                                        refine lv_iadd hx hb dL_isTold_127 ?_
                                        refine hp_c (v := 6) (by decide) ?_
                                        have h169 : f54 lq = some (.inl (cI G, 12, .inl (j6 S0.2.2.2.2.2.2.2.1 S1.2.2.2.2.2.2.2.1))) := k56 _ _ h53 (Nat.ne_of_beq_eq_false rfl) (hdos _ List.mem_cons_self)
                                        have h170 : f65 lq = some (.inl (cI G, 12, .inl (j6 S0.2.2.2.2.2.2.2.1 S1.2.2.2.2.2.2.2.1))) := k67 _ _ h169 (Nat.ne_of_beq_eq_false rfl) (hdos _ List.mem_cons_self)
                                        have h171 : f70 lq = some (.inl (cI G, 12, .inl (j6 S0.2.2.2.2.2.2.2.1 S1.2.2.2.2.2.2.2.1))) := k72 _ _ h170 (Nat.ne_of_beq_eq_false rfl) (hdos _ List.mem_cons_self)
                                        have h172 : f157 lq = some (.inl (cI G, 12, .inl (j6 S0.2.2.2.2.2.2.2.1 S1.2.2.2.2.2.2.2.1))) := k159 _ _ h171 (Nat.ne_of_beq_eq_false rfl) (hdos _ List.mem_cons_self)
                                        have h173 : f162 lq = some (.inl (cI G, 12, .inl (j6 S0.2.2.2.2.2.2.2.1 S1.2.2.2.2.2.2.2.1))) := k164 _ _ h172 (Nat.ne_of_beq_eq_false rfl) (hdos _ List.mem_cons_self)
                                        have h174 : f166 lq = some (.inl (cI G, 12, .inl (j6 S0.2.2.2.2.2.2.2.1 S1.2.2.2.2.2.2.2.1))) := k168 _ _ h173 (Nat.ne_of_beq_eq_false rfl) (hdos _ List.mem_cons_self)
                                        refine hp_iald B0 hw h174 (by unfold vp_in; decide) dL_isTold_128 ?_
                                        refine hp_c (v := (S1.2.2.2.2.2.2.2.1 0)) (rfl) ?_
                                        refine lv_icmp_eq (tgt := 134) hx hb dL_isTold_129 (by decide) (fun _ => ?_) (fun c9 => absurd rfl c9)
                                        refine lv_iinc (v := 1) (lv' := [(7, .int 1), (6, .int 8), (5, .int 1), (0, .ref xo), (1, .ref lq), (2, .ref le), (3, .ref lr), (4, .ref lg)]) hx hb dL_isTold_134 hl9 (k := 0) rfl (by decide) (by decide) rfl (fun ls hl9 => ?_)
                                        refine lv_goto (tgt := 104) hx hb dL_isTold_137 (by decide) ?_
                                        refine lv_iload hx hb dL_isTold_104 (lv_at hl9 0 rfl) ?_
                                        refine lv_bipush (v := 6) hx hb dL_isTold_106 (by decide) ?_
                                        refine lv_icmp_ge (tgt := 140) hx hb dL_isTold_108 (by decide) (fun c9 => absurd c9 (by decide)) (fun _ => ?_)
                                        refine lv_aload_n hx hb dL_isTold_111 rfl (lv_at hl9 3 rfl) ?_
                                        refine lv_iload hx hb dL_isTold_112 (lv_at hl9 2 rfl) ?_
                                        refine lv_iload hx hb dL_isTold_114 (lv_at hl9 0 rfl) ?_
                                        refine hp_SH (As := [.ref xo, .int 1, .int 1]) (rest := []) B0 hw hS (c_V_asked_1 hl G f166 xo ez eo bu nw0 na0 nq0 nr0 nw1 na1 nq1 nr1 bs bp bh bf bl bg S0 S1 gw0 ga0 gw1 ga1 n a cg x sa pk fl gv gh gl hC167 (Nat.lt_of_le_of_lt hl0 (by decide)) (Nat.lt_of_le_of_lt hl1 (by decide)) 1 (by decide)) mH_L_asked qM_L_155 rfl rfl hl9.1 (Nat.le_of_ble_eq_true rfl) ⟨⟨Nat.le_of_ble_eq_true rfl, Nat.le_of_ble_eq_true rfl⟩, Nat.le_of_ble_eq_true rfl, Nat.le_of_ble_eq_true rfl⟩ dL_isTold_116 (fun E ce q9 f175 H locs hPX hw hS hce hcv hcl => ?_) (fun v f175 H locs hP hw hS => ?_)
                                        · exact hPX.elim
                                        · obtain ⟨ev9, hC176, k177⟩ := hP
                                          subst ev9
                                          have hC176 : CXW G f175 xo ez eo bu nw0 na0 nq0 nr0 nw1 na1 nq1 nr1 bs bp bh bf bl bg S0 S1 gw0 ga0 gw1 ga1 n a cg x sa pk fl gv gh gl := hC176
                                          refine W.eq (g2 := F0 m 119 ls [.int ((S1.2.2.2.2.2.2.2.1 1))]) rfl ?_
                                          refine lv_aload_n hx hb dL_isTold_119 rfl (lv_at hl9 4 rfl) ?_
                                          refine lv_bipush (v := 6) hx hb dL_isTold_120 (by decide) ?_
                                          refine lv_iload hx hb dL_isTold_122 (lv_at hl9 2 rfl) ?_
                                          refine lv_imul hx hb dL_isTold_124 ?_
                                          refine hp_c (v := 6) (by decide) ?_
                                          refine lv_iload hx hb dL_isTold_125 (lv_at hl9 0 rfl) ?_
                                          refine lv_iadd hx hb dL_isTold_127 ?_
                                          refine hp_c (v := 7) (by decide) ?_
                                          have h178 : f175 lq = some (.inl (cI G, 12, .inl (j6 S0.2.2.2.2.2.2.2.1 S1.2.2.2.2.2.2.2.1))) := k177 _ _ h174 (Nat.ne_of_beq_eq_false rfl) (hdos _ List.mem_cons_self)
                                          refine hp_iald B0 hw h178 (by unfold vp_in; decide) dL_isTold_128 ?_
                                          refine hp_c (v := (S1.2.2.2.2.2.2.2.1 1)) (rfl) ?_
                                          refine lv_icmp_eq (tgt := 134) hx hb dL_isTold_129 (by decide) (fun _ => ?_) (fun c9 => absurd rfl c9)
                                          refine lv_iinc (v := 2) (lv' := [(7, .int 2), (6, .int 8), (5, .int 1), (0, .ref xo), (1, .ref lq), (2, .ref le), (3, .ref lr), (4, .ref lg)]) hx hb dL_isTold_134 hl9 (k := 0) rfl (by decide) (by decide) rfl (fun ls hl9 => ?_)
                                          refine lv_goto (tgt := 104) hx hb dL_isTold_137 (by decide) ?_
                                          refine lv_iload hx hb dL_isTold_104 (lv_at hl9 0 rfl) ?_
                                          refine lv_bipush (v := 6) hx hb dL_isTold_106 (by decide) ?_
                                          refine lv_icmp_ge (tgt := 140) hx hb dL_isTold_108 (by decide) (fun c9 => absurd c9 (by decide)) (fun _ => ?_)
                                          refine lv_aload_n hx hb dL_isTold_111 rfl (lv_at hl9 3 rfl) ?_
                                          refine lv_iload hx hb dL_isTold_112 (lv_at hl9 2 rfl) ?_
                                          refine lv_iload hx hb dL_isTold_114 (lv_at hl9 0 rfl) ?_
                                          refine hp_SH (As := [.ref xo, .int 1, .int 2]) (rest := []) B0 hw hS (c_V_asked_1 hl G f175 xo ez eo bu nw0 na0 nq0 nr0 nw1 na1 nq1 nr1 bs bp bh bf bl bg S0 S1 gw0 ga0 gw1 ga1 n a cg x sa pk fl gv gh gl hC176 (Nat.lt_of_le_of_lt hl0 (by decide)) (Nat.lt_of_le_of_lt hl1 (by decide)) 2 (by decide)) mH_L_asked qM_L_155 rfl rfl hl9.1 (Nat.le_of_ble_eq_true rfl) ⟨⟨Nat.le_of_ble_eq_true rfl, Nat.le_of_ble_eq_true rfl⟩, Nat.le_of_ble_eq_true rfl, Nat.le_of_ble_eq_true rfl⟩ dL_isTold_116 (fun E ce q9 f179 H locs hPX hw hS hce hcv hcl => ?_) (fun v f179 H locs hP hw hS => ?_)
                                          · exact hPX.elim
                                          · obtain ⟨ev9, hC180, k181⟩ := hP
                                            subst ev9
                                            have hC180 : CXW G f179 xo ez eo bu nw0 na0 nq0 nr0 nw1 na1 nq1 nr1 bs bp bh bf bl bg S0 S1 gw0 ga0 gw1 ga1 n a cg x sa pk fl gv gh gl := hC180
                                            refine W.eq (g2 := F0 m 119 ls [.int ((S1.2.2.2.2.2.2.2.1 2))]) rfl ?_
                                            refine lv_aload_n hx hb dL_isTold_119 rfl (lv_at hl9 4 rfl) ?_
                                            refine lv_bipush (v := 6) hx hb dL_isTold_120 (by decide) ?_
                                            refine lv_iload hx hb dL_isTold_122 (lv_at hl9 2 rfl) ?_
                                            refine lv_imul hx hb dL_isTold_124 ?_
                                            refine hp_c (v := 6) (by decide) ?_
                                            refine lv_iload hx hb dL_isTold_125 (lv_at hl9 0 rfl) ?_
                                            refine lv_iadd hx hb dL_isTold_127 ?_
                                            refine hp_c (v := 8) (by decide) ?_
                                            have h182 : f179 lq = some (.inl (cI G, 12, .inl (j6 S0.2.2.2.2.2.2.2.1 S1.2.2.2.2.2.2.2.1))) := k181 _ _ h178 (Nat.ne_of_beq_eq_false rfl) (hdos _ List.mem_cons_self)
                                            refine hp_iald B0 hw h182 (by unfold vp_in; decide) dL_isTold_128 ?_
                                            refine hp_c (v := (S1.2.2.2.2.2.2.2.1 2)) (rfl) ?_
                                            refine lv_icmp_eq (tgt := 134) hx hb dL_isTold_129 (by decide) (fun _ => ?_) (fun c9 => absurd rfl c9)
                                            refine lv_iinc (v := 3) (lv' := [(7, .int 3), (6, .int 8), (5, .int 1), (0, .ref xo), (1, .ref lq), (2, .ref le), (3, .ref lr), (4, .ref lg)]) hx hb dL_isTold_134 hl9 (k := 0) rfl (by decide) (by decide) rfl (fun ls hl9 => ?_)
                                            refine lv_goto (tgt := 104) hx hb dL_isTold_137 (by decide) ?_
                                            refine lv_iload hx hb dL_isTold_104 (lv_at hl9 0 rfl) ?_
                                            refine lv_bipush (v := 6) hx hb dL_isTold_106 (by decide) ?_
                                            refine lv_icmp_ge (tgt := 140) hx hb dL_isTold_108 (by decide) (fun c9 => absurd c9 (by decide)) (fun _ => ?_)
                                            refine lv_aload_n hx hb dL_isTold_111 rfl (lv_at hl9 3 rfl) ?_
                                            refine lv_iload hx hb dL_isTold_112 (lv_at hl9 2 rfl) ?_
                                            refine lv_iload hx hb dL_isTold_114 (lv_at hl9 0 rfl) ?_
                                            refine hp_SH (As := [.ref xo, .int 1, .int 3]) (rest := []) B0 hw hS (c_V_asked_1 hl G f179 xo ez eo bu nw0 na0 nq0 nr0 nw1 na1 nq1 nr1 bs bp bh bf bl bg S0 S1 gw0 ga0 gw1 ga1 n a cg x sa pk fl gv gh gl hC180 (Nat.lt_of_le_of_lt hl0 (by decide)) (Nat.lt_of_le_of_lt hl1 (by decide)) 3 (by decide)) mH_L_asked qM_L_155 rfl rfl hl9.1 (Nat.le_of_ble_eq_true rfl) ⟨⟨Nat.le_of_ble_eq_true rfl, Nat.le_of_ble_eq_true rfl⟩, Nat.le_of_ble_eq_true rfl, Nat.le_of_ble_eq_true rfl⟩ dL_isTold_116 (fun E ce q9 f183 H locs hPX hw hS hce hcv hcl => ?_) (fun v f183 H locs hP hw hS => ?_)
                                            · exact hPX.elim
                                            · obtain ⟨ev9, hC184, k185⟩ := hP
                                              subst ev9
                                              have hC184 : CXW G f183 xo ez eo bu nw0 na0 nq0 nr0 nw1 na1 nq1 nr1 bs bp bh bf bl bg S0 S1 gw0 ga0 gw1 ga1 n a cg x sa pk fl gv gh gl := hC184
                                              refine W.eq (g2 := F0 m 119 ls [.int ((S1.2.2.2.2.2.2.2.1 3))]) rfl ?_
                                              refine lv_aload_n hx hb dL_isTold_119 rfl (lv_at hl9 4 rfl) ?_
                                              refine lv_bipush (v := 6) hx hb dL_isTold_120 (by decide) ?_
                                              refine lv_iload hx hb dL_isTold_122 (lv_at hl9 2 rfl) ?_
                                              refine lv_imul hx hb dL_isTold_124 ?_
                                              refine hp_c (v := 6) (by decide) ?_
                                              refine lv_iload hx hb dL_isTold_125 (lv_at hl9 0 rfl) ?_
                                              refine lv_iadd hx hb dL_isTold_127 ?_
                                              refine hp_c (v := 9) (by decide) ?_
                                              have h186 : f183 lq = some (.inl (cI G, 12, .inl (j6 S0.2.2.2.2.2.2.2.1 S1.2.2.2.2.2.2.2.1))) := k185 _ _ h182 (Nat.ne_of_beq_eq_false rfl) (hdos _ List.mem_cons_self)
                                              refine hp_iald B0 hw h186 (by unfold vp_in; decide) dL_isTold_128 ?_
                                              refine hp_c (v := (S1.2.2.2.2.2.2.2.1 3)) (rfl) ?_
                                              refine lv_icmp_eq (tgt := 134) hx hb dL_isTold_129 (by decide) (fun _ => ?_) (fun c9 => absurd rfl c9)
                                              refine lv_iinc (v := 4) (lv' := [(7, .int 4), (6, .int 8), (5, .int 1), (0, .ref xo), (1, .ref lq), (2, .ref le), (3, .ref lr), (4, .ref lg)]) hx hb dL_isTold_134 hl9 (k := 0) rfl (by decide) (by decide) rfl (fun ls hl9 => ?_)
                                              refine lv_goto (tgt := 104) hx hb dL_isTold_137 (by decide) ?_
                                              refine lv_iload hx hb dL_isTold_104 (lv_at hl9 0 rfl) ?_
                                              refine lv_bipush (v := 6) hx hb dL_isTold_106 (by decide) ?_
                                              refine lv_icmp_ge (tgt := 140) hx hb dL_isTold_108 (by decide) (fun c9 => absurd c9 (by decide)) (fun _ => ?_)
                                              refine lv_aload_n hx hb dL_isTold_111 rfl (lv_at hl9 3 rfl) ?_
                                              refine lv_iload hx hb dL_isTold_112 (lv_at hl9 2 rfl) ?_
                                              refine lv_iload hx hb dL_isTold_114 (lv_at hl9 0 rfl) ?_
                                              refine hp_SH (As := [.ref xo, .int 1, .int 4]) (rest := []) B0 hw hS (c_V_asked_1 hl G f183 xo ez eo bu nw0 na0 nq0 nr0 nw1 na1 nq1 nr1 bs bp bh bf bl bg S0 S1 gw0 ga0 gw1 ga1 n a cg x sa pk fl gv gh gl hC184 (Nat.lt_of_le_of_lt hl0 (by decide)) (Nat.lt_of_le_of_lt hl1 (by decide)) 4 (by decide)) mH_L_asked qM_L_155 rfl rfl hl9.1 (Nat.le_of_ble_eq_true rfl) ⟨⟨Nat.le_of_ble_eq_true rfl, Nat.le_of_ble_eq_true rfl⟩, Nat.le_of_ble_eq_true rfl, Nat.le_of_ble_eq_true rfl⟩ dL_isTold_116 (fun E ce q9 f187 H locs hPX hw hS hce hcv hcl => ?_) (fun v f187 H locs hP hw hS => ?_)
                                              · exact hPX.elim
                                              · obtain ⟨ev9, hC188, k189⟩ := hP
                                                subst ev9
                                                have hC188 : CXW G f187 xo ez eo bu nw0 na0 nq0 nr0 nw1 na1 nq1 nr1 bs bp bh bf bl bg S0 S1 gw0 ga0 gw1 ga1 n a cg x sa pk fl gv gh gl := hC188
                                                refine W.eq (g2 := F0 m 119 ls [.int ((S1.2.2.2.2.2.2.2.1 4))]) rfl ?_
                                                refine lv_aload_n hx hb dL_isTold_119 rfl (lv_at hl9 4 rfl) ?_
                                                refine lv_bipush (v := 6) hx hb dL_isTold_120 (by decide) ?_
                                                refine lv_iload hx hb dL_isTold_122 (lv_at hl9 2 rfl) ?_
                                                refine lv_imul hx hb dL_isTold_124 ?_
                                                refine hp_c (v := 6) (by decide) ?_
                                                refine lv_iload hx hb dL_isTold_125 (lv_at hl9 0 rfl) ?_
                                                refine lv_iadd hx hb dL_isTold_127 ?_
                                                refine hp_c (v := 10) (by decide) ?_
                                                have h190 : f187 lq = some (.inl (cI G, 12, .inl (j6 S0.2.2.2.2.2.2.2.1 S1.2.2.2.2.2.2.2.1))) := k189 _ _ h186 (Nat.ne_of_beq_eq_false rfl) (hdos _ List.mem_cons_self)
                                                refine hp_iald B0 hw h190 (by unfold vp_in; decide) dL_isTold_128 ?_
                                                refine hp_c (v := (S1.2.2.2.2.2.2.2.1 4)) (rfl) ?_
                                                refine lv_icmp_eq (tgt := 134) hx hb dL_isTold_129 (by decide) (fun _ => ?_) (fun c9 => absurd rfl c9)
                                                refine lv_iinc (v := 5) (lv' := [(7, .int 5), (6, .int 8), (5, .int 1), (0, .ref xo), (1, .ref lq), (2, .ref le), (3, .ref lr), (4, .ref lg)]) hx hb dL_isTold_134 hl9 (k := 0) rfl (by decide) (by decide) rfl (fun ls hl9 => ?_)
                                                refine lv_goto (tgt := 104) hx hb dL_isTold_137 (by decide) ?_
                                                refine lv_iload hx hb dL_isTold_104 (lv_at hl9 0 rfl) ?_
                                                refine lv_bipush (v := 6) hx hb dL_isTold_106 (by decide) ?_
                                                refine lv_icmp_ge (tgt := 140) hx hb dL_isTold_108 (by decide) (fun c9 => absurd c9 (by decide)) (fun _ => ?_)
                                                refine lv_aload_n hx hb dL_isTold_111 rfl (lv_at hl9 3 rfl) ?_
                                                refine lv_iload hx hb dL_isTold_112 (lv_at hl9 2 rfl) ?_
                                                refine lv_iload hx hb dL_isTold_114 (lv_at hl9 0 rfl) ?_
                                                refine hp_SH (As := [.ref xo, .int 1, .int 5]) (rest := []) B0 hw hS (c_V_asked_1 hl G f187 xo ez eo bu nw0 na0 nq0 nr0 nw1 na1 nq1 nr1 bs bp bh bf bl bg S0 S1 gw0 ga0 gw1 ga1 n a cg x sa pk fl gv gh gl hC188 (Nat.lt_of_le_of_lt hl0 (by decide)) (Nat.lt_of_le_of_lt hl1 (by decide)) 5 (by decide)) mH_L_asked qM_L_155 rfl rfl hl9.1 (Nat.le_of_ble_eq_true rfl) ⟨⟨Nat.le_of_ble_eq_true rfl, Nat.le_of_ble_eq_true rfl⟩, Nat.le_of_ble_eq_true rfl, Nat.le_of_ble_eq_true rfl⟩ dL_isTold_116 (fun E ce q9 f191 H locs hPX hw hS hce hcv hcl => ?_) (fun v f191 H locs hP hw hS => ?_)
                                                · exact hPX.elim
                                                · obtain ⟨ev9, hC192, k193⟩ := hP
                                                  subst ev9
                                                  have hC192 : CXW G f191 xo ez eo bu nw0 na0 nq0 nr0 nw1 na1 nq1 nr1 bs bp bh bf bl bg S0 S1 gw0 ga0 gw1 ga1 n a cg x sa pk fl gv gh gl := hC192
                                                  refine W.eq (g2 := F0 m 119 ls [.int ((S1.2.2.2.2.2.2.2.1 5))]) rfl ?_
                                                  refine lv_aload_n hx hb dL_isTold_119 rfl (lv_at hl9 4 rfl) ?_
                                                  refine lv_bipush (v := 6) hx hb dL_isTold_120 (by decide) ?_
                                                  refine lv_iload hx hb dL_isTold_122 (lv_at hl9 2 rfl) ?_
                                                  refine lv_imul hx hb dL_isTold_124 ?_
                                                  refine hp_c (v := 6) (by decide) ?_
                                                  refine lv_iload hx hb dL_isTold_125 (lv_at hl9 0 rfl) ?_
                                                  refine lv_iadd hx hb dL_isTold_127 ?_
                                                  refine hp_c (v := 11) (by decide) ?_
                                                  have h194 : f191 lq = some (.inl (cI G, 12, .inl (j6 S0.2.2.2.2.2.2.2.1 S1.2.2.2.2.2.2.2.1))) := k193 _ _ h190 (Nat.ne_of_beq_eq_false rfl) (hdos _ List.mem_cons_self)
                                                  refine hp_iald B0 hw h194 (by unfold vp_in; decide) dL_isTold_128 ?_
                                                  refine hp_c (v := (S1.2.2.2.2.2.2.2.1 5)) (rfl) ?_
                                                  refine lv_icmp_eq (tgt := 134) hx hb dL_isTold_129 (by decide) (fun _ => ?_) (fun c9 => absurd rfl c9)
                                                  refine lv_iinc (v := 6) (lv' := [(7, .int 6), (6, .int 8), (5, .int 1), (0, .ref xo), (1, .ref lq), (2, .ref le), (3, .ref lr), (4, .ref lg)]) hx hb dL_isTold_134 hl9 (k := 0) rfl (by decide) (by decide) rfl (fun ls hl9 => ?_)
                                                  refine lv_goto (tgt := 104) hx hb dL_isTold_137 (by decide) ?_
                                                  refine lv_iload hx hb dL_isTold_104 (lv_at hl9 0 rfl) ?_
                                                  refine lv_bipush (v := 6) hx hb dL_isTold_106 (by decide) ?_
                                                  refine lv_icmp_ge (tgt := 140) hx hb dL_isTold_108 (by decide) (fun _ => ?_) (fun c9 => absurd (by decide) c9)
                                                  refine lv_iinc (v := 2) (lv' := [(5, .int 2), (7, .int 6), (6, .int 8), (0, .ref xo), (1, .ref lq), (2, .ref le), (3, .ref lr), (4, .ref lg)]) hx hb dL_isTold_140 hl9 (k := 2) rfl (by decide) (by decide) rfl (fun ls hl9 => ?_)
                                                  refine lv_goto (tgt := 3) hx hb dL_isTold_143 (by decide) ?_
                                                  refine lv_iload hx hb dL_isTold_3 (lv_at hl9 0 rfl) ?_
                                                  refine lv_iconst (v := 2) hx hb dL_isTold_5 (by decide) ?_
                                                  refine lv_icmp_ge (tgt := 146) hx hb dL_isTold_6 (by decide) (fun _ => ?_) (fun c9 => absurd (by decide) c9)
                                                  refine lv_iconst (v := 0) hx hb dL_isTold_146 (by decide) ?_
                                                  refine lv_istore (lv' := [(5, .int 0), (7, .int 6), (6, .int 8), (0, .ref xo), (1, .ref lq), (2, .ref le), (3, .ref lr), (4, .ref lg)]) hx hb dL_isTold_147 hl9 (by decide) rfl (fun ls hl9 => ?_)
                                                  refine hp_cs (c2 := 34 + 0 * 0) (s2 := 204 + 0 * 0) rfl rfl ?_
                                                  refine hp_forC (nL := 8) (pc := 149) (fun j f9 lv9 => CXW G f9 xo ez eo bu nw0 na0 nq0 nr0 nw1 na1 nq1 nr1 bs bp bh bf bl bg S0 S1 gw0 ga0 gw1 ga1 n a cg x sa pk fl gv gh gl ∧ hKn [xo, ez, eo, bu, nw0, na0, nq0, nr0, nw1, na1, nq1, nr1, bs, bp, bh, bf, bl, bg] f f9 ∧ lv9 = [(5, .int (nI j)), (0, .ref xo), (1, .ref lq), (2, .ref le), (3, .ref lr), (4, .ref lg)]) cg 34 204 0 0 (fun j f9 lv9 H locs ls hj hI hw hS hl9 ih => ?_) (fun f9 lv9 H locs ls hI hw hS hl9 => ?_) cg 0 (Nat.zero_add _) f191 _ _ _ ls ⟨hC192, ((show hKn [xo, ez, eo, bu, nw0, na0, nq0, nr0, nw1, na1, nq1, nr1, bs, bp, bh, bf, bl, bg] f f1 from (hKn.mono k3 (fun _ h9 => h9))).tr ((show hKn [xo, ez, eo, bu, nw0, na0, nq0, nr0, nw1, na1, nq1, nr1, bs, bp, bh, bf, bl, bg] f1 f6 from (hKn.mono k8 (fun _ h9 => h9))).tr ((show hKn [xo, ez, eo, bu, nw0, na0, nq0, nr0, nw1, na1, nq1, nr1, bs, bp, bh, bf, bl, bg] f6 f11 from (hKn.mono k13 (fun _ h9 => h9))).tr ((show hKn [xo, ez, eo, bu, nw0, na0, nq0, nr0, nw1, na1, nq1, nr1, bs, bp, bh, bf, bl, bg] f11 f16 from (hKn.mono k18 (fun _ h9 => h9))).tr ((show hKn [xo, ez, eo, bu, nw0, na0, nq0, nr0, nw1, na1, nq1, nr1, bs, bp, bh, bf, bl, bg] f16 f21 from (hKn.mono k23 (fun _ h9 => h9))).tr ((show hKn [xo, ez, eo, bu, nw0, na0, nq0, nr0, nw1, na1, nq1, nr1, bs, bp, bh, bf, bl, bg] f21 f25 from (hKn.mono k27 (fun _ h9 => h9))).tr ((show hKn [xo, ez, eo, bu, nw0, na0, nq0, nr0, nw1, na1, nq1, nr1, bs, bp, bh, bf, bl, bg] f25 f34 from (hKn.mono k36 (fun _ h9 => h9))).tr ((show hKn [xo, ez, eo, bu, nw0, na0, nq0, nr0, nw1, na1, nq1, nr1, bs, bp, bh, bf, bl, bg] f34 f38 from (hKn.mono k40 (fun _ h9 => h9))).tr ((show hKn [xo, ez, eo, bu, nw0, na0, nq0, nr0, nw1, na1, nq1, nr1, bs, bp, bh, bf, bl, bg] f38 f42 from (hKn.mono k44 (fun _ h9 => h9))).tr ((show hKn [xo, ez, eo, bu, nw0, na0, nq0, nr0, nw1, na1, nq1, nr1, bs, bp, bh, bf, bl, bg] f42 f46 from (hKn.mono k48 (fun _ h9 => h9))).tr ((show hKn [xo, ez, eo, bu, nw0, na0, nq0, nr0, nw1, na1, nq1, nr1, bs, bp, bh, bf, bl, bg] f46 f50 from (hKn.mono k52 (fun _ h9 => h9))).tr ((show hKn [xo, ez, eo, bu, nw0, na0, nq0, nr0, nw1, na1, nq1, nr1, bs, bp, bh, bf, bl, bg] f50 f54 from (hKn.mono k56 (fun _ h9 => h9))).tr ((show hKn [xo, ez, eo, bu, nw0, na0, nq0, nr0, nw1, na1, nq1, nr1, bs, bp, bh, bf, bl, bg] f54 f65 from (hKn.mono k67 (fun _ h9 => h9))).tr ((show hKn [xo, ez, eo, bu, nw0, na0, nq0, nr0, nw1, na1, nq1, nr1, bs, bp, bh, bf, bl, bg] f65 f70 from (hKn.mono k72 (fun _ h9 => h9))).tr ((show hKn [xo, ez, eo, bu, nw0, na0, nq0, nr0, nw1, na1, nq1, nr1, bs, bp, bh, bf, bl, bg] f70 f157 from (hKn.mono k159 (fun _ h9 => h9))).tr ((show hKn [xo, ez, eo, bu, nw0, na0, nq0, nr0, nw1, na1, nq1, nr1, bs, bp, bh, bf, bl, bg] f157 f162 from (hKn.mono k164 (fun _ h9 => h9))).tr ((show hKn [xo, ez, eo, bu, nw0, na0, nq0, nr0, nw1, na1, nq1, nr1, bs, bp, bh, bf, bl, bg] f162 f166 from (hKn.mono k168 (fun _ h9 => h9))).tr ((show hKn [xo, ez, eo, bu, nw0, na0, nq0, nr0, nw1, na1, nq1, nr1, bs, bp, bh, bf, bl, bg] f166 f175 from (hKn.mono k177 (fun _ h9 => h9))).tr ((show hKn [xo, ez, eo, bu, nw0, na0, nq0, nr0, nw1, na1, nq1, nr1, bs, bp, bh, bf, bl, bg] f175 f179 from (hKn.mono k181 (fun _ h9 => h9))).tr ((show hKn [xo, ez, eo, bu, nw0, na0, nq0, nr0, nw1, na1, nq1, nr1, bs, bp, bh, bf, bl, bg] f179 f183 from (hKn.mono k185 (fun _ h9 => h9))).tr ((show hKn [xo, ez, eo, bu, nw0, na0, nq0, nr0, nw1, na1, nq1, nr1, bs, bp, bh, bf, bl, bg] f183 f187 from (hKn.mono k189 (fun _ h9 => h9))).tr (show hKn [xo, ez, eo, bu, nw0, na0, nq0, nr0, nw1, na1, nq1, nr1, bs, bp, bh, bf, bl, bg] f187 f191 from (hKn.mono k193 (fun _ h9 => h9)))))))))))))))))))))))), rfl⟩ hw hS (lv_sub hl9 [0, 3, 4, 5, 6, 7] rfl)
                                                  · obtain ⟨hC9, hk9, el9⟩ := hI
                                                    rw [el9] at hl9
                                                    refine lv_iload hx hb dL_isTold_149 (lv_at hl9 0 rfl) ?_
                                                    refine lv_aload hx hb dL_isTold_151 (lv_at hl9 5 rfl) ?_
                                                    refine lv_bipush (v := 9) hx hb dL_isTold_153 (by decide) ?_
                                                    have h195 : f9 lg = some (.inl (cI G, 10, .inl (g10 tk gl a n x cg))) := hk9 _ _ k_lg (Nat.ne_of_beq_eq_false rfl) (hdos _ (List.mem_cons_of_mem _ (List.mem_cons_of_mem _ (List.mem_cons_of_mem _ List.mem_cons_self))))
                                                    refine hp_iald B0 hw h195 (by unfold vp_in; decide) dL_isTold_155 ?_
                                                    refine hp_c (v := (nI cg)) (rfl) ?_
                                                    refine lv_icmp_ge (tgt := 180) hx hb dL_isTold_156 (by decide) (fun c9 => absurd c9 (nI_ge hj (by omega))) (fun _ => ?_)
                                                    refine lv_aload_n hx hb dL_isTold_159 rfl (lv_at hl9 1 rfl) ?_
                                                    refine lv_iload hx hb dL_isTold_160 (lv_at hl9 0 rfl) ?_
                                                    refine hp_SH (As := [.ref xo, .int (nI j)]) (rest := []) B0 hw hS (c_V_givenAt_ok hl G f9 xo ez eo bu nw0 na0 nq0 nr0 nw1 na1 nq1 nr1 bs bp bh bf bl bg S0 S1 gw0 ga0 gw1 ga1 n a cg x sa pk fl gv gh gl hC9 (Nat.lt_of_le_of_lt hl0 (by decide)) (Nat.lt_of_le_of_lt hl1 (by decide)) j (by omega)) mH_L_givenAt qM_L_158 rfl rfl hl9.1 (Nat.le_of_ble_eq_true rfl) ⟨⟨Nat.le_of_ble_eq_true rfl, Nat.le_of_ble_eq_true rfl⟩, (by omega), (by omega)⟩ dL_isTold_162 (fun E ce q9 f196 H locs hPX hw hS hce hcv hcl => ?_) (fun v f196 H locs hP hw hS => ?_)
                                                    · exact hPX.elim
                                                    · obtain ⟨ev9, hC197, k198⟩ := hP
                                                      subst ev9
                                                      have hC197 : CXW G f196 xo ez eo bu nw0 na0 nq0 nr0 nw1 na1 nq1 nr1 bs bp bh bf bl bg S0 S1 gw0 ga0 gw1 ga1 n a cg x sa pk fl gv gh gl := hC197
                                                      refine W.eq (g2 := F0 m 165 ls [.int ((nI (gv j)))]) rfl ?_
                                                      refine lv_aload_n hx hb dL_isTold_165 rfl (lv_at hl9 4 rfl) ?_
                                                      refine lv_iload hx hb dL_isTold_166 (lv_at hl9 0 rfl) ?_
                                                      have h199 : f9 lr = some (.inl (cI G, 60, .inl (nf gv))) := hk9 _ _ k_lr (Nat.ne_of_beq_eq_false rfl) (hdos _ (List.mem_cons_of_mem _ (List.mem_cons_of_mem _ List.mem_cons_self)))
                                                      have h200 : f196 lr = some (.inl (cI G, 60, .inl (nf gv))) := k198 _ _ h199 (Nat.ne_of_beq_eq_false rfl) (hdos _ (List.mem_cons_of_mem _ (List.mem_cons_of_mem _ List.mem_cons_self)))
                                                      refine hp_iald B0 hw h200 (vp_in_nI (show j < 60 by omega) (by omega)) dL_isTold_168 ?_
                                                      refine hp_c (v := (nI (gv j))) (nf_at (nI_clamp (by omega))) ?_
                                                      refine lv_icmp_eq (tgt := 174) hx hb dL_isTold_169 (by decide) (fun _ => ?_) (fun c9 => absurd rfl c9)
                                                      refine lv_iinc (v := (nI (j + 1))) (lv' := [(5, .int (nI (j + 1))), (0, .ref xo), (1, .ref lq), (2, .ref le), (3, .ref lr), (4, .ref lg)]) hx hb dL_isTold_174 hl9 (k := 0) rfl (nI_1 j) (by decide) rfl (fun ls hl9 => ?_)
                                                      refine lv_goto (tgt := 149) hx hb dL_isTold_177 (by decide) ?_
                                                      exact hp_cs (by omega) (by omega) (ih _ _ H locs ls ⟨hC197, ((show hKn [xo, ez, eo, bu, nw0, na0, nq0, nr0, nw1, na1, nq1, nr1, bs, bp, bh, bf, bl, bg] f f9 from (hKn.mono hk9 (fun _ h9 => h9))).tr (show hKn [xo, ez, eo, bu, nw0, na0, nq0, nr0, nw1, na1, nq1, nr1, bs, bp, bh, bf, bl, bg] f9 f196 from (hKn.mono k198 (fun _ h9 => h9)))), rfl⟩ hw hS (lv_sub hl9 [0, 1, 2, 3, 4, 5] rfl))
                                                  · obtain ⟨hC9, hk9, el9⟩ := hI
                                                    rw [el9] at hl9
                                                    refine W.widen (k := 34 + 60 * 0) (n := 204 + 60 * 0) (by omega) (by omega) ?_
                                                    refine hp_cs (c2 := 34) (s2 := 204) rfl rfl ?_
                                                    refine lv_iload hx hb dL_isTold_149 (lv_at hl9 0 rfl) ?_
                                                    refine lv_aload hx hb dL_isTold_151 (lv_at hl9 5 rfl) ?_
                                                    refine lv_bipush (v := 9) hx hb dL_isTold_153 (by decide) ?_
                                                    have h201 : f9 lg = some (.inl (cI G, 10, .inl (g10 tk gl a n x cg))) := hk9 _ _ k_lg (Nat.ne_of_beq_eq_false rfl) (hdos _ (List.mem_cons_of_mem _ (List.mem_cons_of_mem _ (List.mem_cons_of_mem _ List.mem_cons_self))))
                                                    refine hp_iald B0 hw h201 (by unfold vp_in; decide) dL_isTold_155 ?_
                                                    refine hp_c (v := (nI cg)) (rfl) ?_
                                                    refine lv_icmp_ge (tgt := 180) hx hb dL_isTold_156 (by decide) (fun _ => ?_) (fun c9 => absurd (nI_le (Nat.le_refl _) (by omega)) c9)
                                                    refine lv_aload_n hx hb dL_isTold_180 rfl (lv_at hl9 1 rfl) ?_
                                                    have h202 : f9 xo = some (.inr (4, [.ref ez, .ref eo, .ref bu])) := by obtain ⟨_, _, h9⟩ := hC9; exact h9.1
                                                    refine hp_V (ci := 4) (As := []) (rest := []) B0 hw hS (c_P_given_ok hl G f9 xo ez eo bu nw0 na0 nq0 nr0 nw1 na1 nq1 nr1 bs bp bh bf bl bg S0 S1 gw0 ga0 gw1 ga1 n a cg x sa pk fl gv gh gl hC9 (Nat.lt_of_le_of_lt hl0 (by decide)) (Nat.lt_of_le_of_lt hl1 (by decide))) mV_X4_given qM_L_160 rfl h202 rfl rfl hl9.1 (Nat.le_of_ble_eq_true rfl) ⟨⟨Nat.le_of_ble_eq_true rfl, Nat.le_of_ble_eq_true rfl⟩, Nat.le_of_ble_eq_true rfl, Nat.le_of_ble_eq_true rfl⟩ dL_isTold_181 (fun E ce q9 f203 H locs hPX hw hS hce hcv hcl => ?_) (fun v f203 H locs hP hw hS => ?_)
                                                    · exact hPX.elim
                                                    · obtain ⟨ev9, hC204, k205⟩ := hP
                                                      subst ev9
                                                      refine W.eq (g2 := F0 m 184 ls [.int (nI cg)]) rfl ?_
                                                      refine lv_aload hx hb dL_isTold_184 (lv_at hl9 5 rfl) ?_
                                                      refine lv_bipush (v := 9) hx hb dL_isTold_186 (by decide) ?_
                                                      have h206 : f203 lg = some (.inl (cI G, 10, .inl (g10 tk gl a n x cg))) := k205 _ _ h201 (Nat.ne_of_beq_eq_false rfl) (hdos _ (List.mem_cons_of_mem _ (List.mem_cons_of_mem _ (List.mem_cons_of_mem _ List.mem_cons_self))))
                                                      refine hp_iald B0 hw h206 (by unfold vp_in; decide) dL_isTold_188 ?_
                                                      refine hp_c (v := (nI cg)) (rfl) ?_
                                                      refine lv_icmp_ne (tgt := 308) hx hb dL_isTold_189 (by decide) (fun c9 => absurd rfl c9) (fun _ => ?_)
                                                      refine lv_aload_n hx hb dL_isTold_192 rfl (lv_at hl9 1 rfl) ?_
                                                      have h207 : f203 xo = some (.inr (4, [.ref ez, .ref eo, .ref bu])) := by obtain ⟨_, _, h9⟩ := hC204; exact h9.1
                                                      refine hp_V (ci := 4) (As := []) (rest := []) B0 hw hS (c_P_next_ok hl G f203 xo ez eo bu nw0 na0 nq0 nr0 nw1 na1 nq1 nr1 bs bp bh bf bl bg S0 S1 gw0 ga0 gw1 ga1 n a cg x sa pk fl gv gh gl hC204 (Nat.lt_of_le_of_lt hl0 (by decide)) (Nat.lt_of_le_of_lt hl1 (by decide))) mV_X4_next qM_L_164 rfl h207 rfl rfl hl9.1 (Nat.le_of_ble_eq_true rfl) ⟨⟨Nat.le_of_ble_eq_true rfl, Nat.le_of_ble_eq_true rfl⟩, Nat.le_of_ble_eq_true rfl, Nat.le_of_ble_eq_true rfl⟩ dL_isTold_193 (fun E ce q9 f208 H locs hPX hw hS hce hcv hcl => ?_) (fun v f208 H locs hP hw hS => ?_)
                                                      · exact hPX.elim
                                                      · obtain ⟨ev9, hC209, k210⟩ := hP
                                                        subst ev9
                                                        refine W.eq (g2 := F0 m 196 ls [.int (nI x)]) rfl ?_
                                                        refine lv_aload hx hb dL_isTold_196 (lv_at hl9 5 rfl) ?_
                                                        refine lv_bipush (v := 8) hx hb dL_isTold_198 (by decide) ?_
                                                        have h211 : f208 lg = some (.inl (cI G, 10, .inl (g10 tk gl a n x cg))) := k210 _ _ h206 (Nat.ne_of_beq_eq_false rfl) (hdos _ (List.mem_cons_of_mem _ (List.mem_cons_of_mem _ (List.mem_cons_of_mem _ List.mem_cons_self))))
                                                        refine hp_iald B0 hw h211 (by unfold vp_in; decide) dL_isTold_200 ?_
                                                        refine hp_c (v := (nI x)) (rfl) ?_
                                                        refine lv_icmp_ne (tgt := 308) hx hb dL_isTold_201 (by decide) (fun c9 => absurd rfl c9) (fun _ => ?_)
                                                        refine lv_aload_n hx hb dL_isTold_204 rfl (lv_at hl9 1 rfl) ?_
                                                        refine lv_aload hx hb dL_isTold_205 (lv_at hl9 5 rfl) ?_
                                                        refine lv_bipush (v := 9) hx hb dL_isTold_207 (by decide) ?_
                                                        refine hp_iald B0 hw h211 (by unfold vp_in; decide) dL_isTold_209 ?_
                                                        refine hp_c (v := (nI cg)) (rfl) ?_
                                                        refine hp_SH (As := [.ref xo, .int (nI cg)]) (rest := []) B0 hw hS (c_V_givenAt_I hl G f208 xo ez eo bu nw0 na0 nq0 nr0 nw1 na1 nq1 nr1 bs bp bh bf bl bg S0 S1 gw0 ga0 gw1 ga1 n a cg x sa pk fl gv gh gl hC209 (Nat.lt_of_le_of_lt hl0 (by decide)) (Nat.lt_of_le_of_lt hl1 (by decide)) (nI cg) (by rw [nI_toInt (by omega)]; omega)) mH_L_givenAt qM_L_158 rfl rfl hl9.1 (Nat.le_of_ble_eq_true rfl) ⟨⟨Nat.le_of_ble_eq_true rfl, Nat.le_of_ble_eq_true rfl⟩, Nat.le_of_ble_eq_true rfl, Nat.le_of_ble_eq_true rfl⟩ dL_isTold_210 (fun E ce q9 f212 H locs hPX hw hS hce hcv hcl => ?_) (fun v f212 H locs hP hw hS => ?_)
                                                        · exact hPX.elim
                                                        · obtain ⟨ev9, hC213, k214⟩ := hP
                                                          subst ev9
                                                          have hC213 : CXW G f212 xo ez eo bu nw0 na0 nq0 nr0 nw1 na1 nq1 nr1 bs bp bh bf bl bg S0 S1 gw0 ga0 gw1 ga1 n a cg x sa pk fl gv gh gl := hC213
                                                          refine W.eq (g2 := F0 m 213 ls [.int (-71)]) rfl ?_
                                                          refine lv_bipush (v := (-71)) hx hb dL_isTold_213 (by decide) ?_
                                                          refine lv_icmp_ne (tgt := 308) hx hb dL_isTold_215 (by decide) (fun c9 => absurd (by decide) c9) (fun _ => ?_)
                                                          refine lv_aload_n hx hb dL_isTold_218 rfl (lv_at hl9 1 rfl) ?_
                                                          refine lv_iconst (v := (-1)) hx hb dL_isTold_219 (by decide) ?_
                                                          refine hp_SH (As := [.ref xo, .int (-1)]) (rest := []) B0 hw hS (c_V_givenAt_I hl G f212 xo ez eo bu nw0 na0 nq0 nr0 nw1 na1 nq1 nr1 bs bp bh bf bl bg S0 S1 gw0 ga0 gw1 ga1 n a cg x sa pk fl gv gh gl hC213 (Nat.lt_of_le_of_lt hl0 (by decide)) (Nat.lt_of_le_of_lt hl1 (by decide)) (-1) (fun h9 => absurd h9.1 (by decide))) mH_L_givenAt qM_L_158 rfl rfl hl9.1 (Nat.le_of_ble_eq_true rfl) ⟨⟨Nat.le_of_ble_eq_true rfl, Nat.le_of_ble_eq_true rfl⟩, Nat.le_of_ble_eq_true rfl, Nat.le_of_ble_eq_true rfl⟩ dL_isTold_220 (fun E ce q9 f215 H locs hPX hw hS hce hcv hcl => ?_) (fun v f215 H locs hP hw hS => ?_)
                                                          · exact hPX.elim
                                                          · obtain ⟨ev9, hC216, k217⟩ := hP
                                                            subst ev9
                                                            have hC216 : CXW G f215 xo ez eo bu nw0 na0 nq0 nr0 nw1 na1 nq1 nr1 bs bp bh bf bl bg S0 S1 gw0 ga0 gw1 ga1 n a cg x sa pk fl gv gh gl := hC216
                                                            refine W.eq (g2 := F0 m 223 ls [.int (-71)]) rfl ?_
                                                            refine lv_bipush (v := (-71)) hx hb dL_isTold_223 (by decide) ?_
                                                            refine lv_icmp_ne (tgt := 308) hx hb dL_isTold_225 (by decide) (fun c9 => absurd (by decide) c9) (fun _ => ?_)
                                                            refine lv_aload_n hx hb dL_isTold_228 rfl (lv_at hl9 1 rfl) ?_
                                                            refine lv_ldc (v := 2147483647) hx hb B0.2.2.2.1 (B0.2.2.2.2.1 _ qK_L_68) dL_isTold_229 ?_
                                                            refine hp_SH (As := [.ref xo, .int 2147483647]) (rest := []) B0 hw hS (c_V_givenAt_I hl G f215 xo ez eo bu nw0 na0 nq0 nr0 nw1 na1 nq1 nr1 bs bp bh bf bl bg S0 S1 gw0 ga0 gw1 ga1 n a cg x sa pk fl gv gh gl hC216 (Nat.lt_of_le_of_lt hl0 (by decide)) (Nat.lt_of_le_of_lt hl1 (by decide)) 2147483647 (fun h9 => by have h8 := h9.2; rw [show (2147483647 : Int32).toInt = 2147483647 from by decide] at h8; omega)) mH_L_givenAt qM_L_158 rfl rfl hl9.1 (Nat.le_of_ble_eq_true rfl) ⟨⟨Nat.le_of_ble_eq_true rfl, Nat.le_of_ble_eq_true rfl⟩, Nat.le_of_ble_eq_true rfl, Nat.le_of_ble_eq_true rfl⟩ dL_isTold_231 (fun E ce q9 f218 H locs hPX hw hS hce hcv hcl => ?_) (fun v f218 H locs hP hw hS => ?_)
                                                            · exact hPX.elim
                                                            · obtain ⟨ev9, hC219, k220⟩ := hP
                                                              subst ev9
                                                              have hC219 : CXW G f218 xo ez eo bu nw0 na0 nq0 nr0 nw1 na1 nq1 nr1 bs bp bh bf bl bg S0 S1 gw0 ga0 gw1 ga1 n a cg x sa pk fl gv gh gl := hC219
                                                              refine W.eq (g2 := F0 m 234 ls [.int (-71)]) rfl ?_
                                                              refine lv_bipush (v := (-71)) hx hb dL_isTold_234 (by decide) ?_
                                                              refine lv_icmp_ne (tgt := 308) hx hb dL_isTold_236 (by decide) (fun c9 => absurd (by decide) c9) (fun _ => ?_)
                                                              refine lv_aload_n hx hb dL_isTold_239 rfl (lv_at hl9 1 rfl) ?_
                                                              refine lv_iconst (v := 2) hx hb dL_isTold_240 (by decide) ?_
                                                              refine hp_SH (As := [.ref xo, .int 2]) (rest := []) B0 hw hS (c_V_stateOf_E hl G f218 xo ez eo bu nw0 na0 nq0 nr0 nw1 na1 nq1 nr1 bs bp bh bf bl bg S0 S1 gw0 ga0 gw1 ga1 n a cg x sa pk fl gv gh gl hC219 (Nat.lt_of_le_of_lt hl0 (by decide)) (Nat.lt_of_le_of_lt hl1 (by decide)) 2 (by decide)) mH_L_stateOf qM_L_141 rfl rfl hl9.1 (Nat.le_of_ble_eq_true rfl) ⟨⟨Nat.le_of_ble_eq_true rfl, Nat.le_of_ble_eq_true rfl⟩, Nat.le_of_ble_eq_true rfl, Nat.le_of_ble_eq_true rfl⟩ dL_isTold_241 (fun E ce q9 f221 H locs hPX hw hS hce hcv hcl => ?_) (fun v f221 H locs hP hw hS => ?_)
                                                              · exact hPX.elim
                                                              · obtain ⟨ev9, hC222, k223⟩ := hP
                                                                subst ev9
                                                                have hC222 : CXW G f221 xo ez eo bu nw0 na0 nq0 nr0 nw1 na1 nq1 nr1 bs bp bh bf bl bg S0 S1 gw0 ga0 gw1 ga1 n a cg x sa pk fl gv gh gl := hC222
                                                                refine W.eq (g2 := F0 m 244 ls [.int (-71)]) rfl ?_
                                                                refine lv_bipush (v := (-71)) hx hb dL_isTold_244 (by decide) ?_
                                                                refine lv_icmp_ne (tgt := 308) hx hb dL_isTold_246 (by decide) (fun c9 => absurd (by decide) c9) (fun _ => ?_)
                                                                refine lv_aload_n hx hb dL_isTold_249 rfl (lv_at hl9 1 rfl) ?_
                                                                refine lv_ldc (v := (-2147483648)) hx hb B0.2.2.2.1 (B0.2.2.2.2.1 _ qK_L_67) dL_isTold_250 ?_
                                                                refine hp_SH (As := [.ref xo, .int (-2147483648)]) (rest := []) B0 hw hS (c_V_stateOf_E hl G f221 xo ez eo bu nw0 na0 nq0 nr0 nw1 na1 nq1 nr1 bs bp bh bf bl bg S0 S1 gw0 ga0 gw1 ga1 n a cg x sa pk fl gv gh gl hC222 (Nat.lt_of_le_of_lt hl0 (by decide)) (Nat.lt_of_le_of_lt hl1 (by decide)) (-2147483648) (by decide)) mH_L_stateOf qM_L_141 rfl rfl hl9.1 (Nat.le_of_ble_eq_true rfl) ⟨⟨Nat.le_of_ble_eq_true rfl, Nat.le_of_ble_eq_true rfl⟩, Nat.le_of_ble_eq_true rfl, Nat.le_of_ble_eq_true rfl⟩ dL_isTold_252 (fun E ce q9 f224 H locs hPX hw hS hce hcv hcl => ?_) (fun v f224 H locs hP hw hS => ?_)
                                                                · exact hPX.elim
                                                                · obtain ⟨ev9, hC225, k226⟩ := hP
                                                                  subst ev9
                                                                  have hC225 : CXW G f224 xo ez eo bu nw0 na0 nq0 nr0 nw1 na1 nq1 nr1 bs bp bh bf bl bg S0 S1 gw0 ga0 gw1 ga1 n a cg x sa pk fl gv gh gl := hC225
                                                                  refine W.eq (g2 := F0 m 255 ls [.int (-71)]) rfl ?_
                                                                  refine lv_bipush (v := (-71)) hx hb dL_isTold_255 (by decide) ?_
                                                                  refine lv_icmp_ne (tgt := 308) hx hb dL_isTold_257 (by decide) (fun c9 => absurd (by decide) c9) (fun _ => ?_)
                                                                  refine lv_aload_n hx hb dL_isTold_260 rfl (lv_at hl9 1 rfl) ?_
                                                                  refine lv_iconst (v := 0) hx hb dL_isTold_261 (by decide) ?_
                                                                  refine lv_bipush (v := 6) hx hb dL_isTold_262 (by decide) ?_
                                                                  refine hp_SH (As := [.ref xo, .int 0, .int 6]) (rest := []) B0 hw hS (c_V_asked_O0 hl G f224 xo ez eo bu nw0 na0 nq0 nr0 nw1 na1 nq1 nr1 bs bp bh bf bl bg S0 S1 gw0 ga0 gw1 ga1 n a cg x sa pk fl gv gh gl hC225 (Nat.lt_of_le_of_lt hl0 (by decide)) (Nat.lt_of_le_of_lt hl1 (by decide)) 6 (by decide)) mH_L_asked qM_L_155 rfl rfl hl9.1 (Nat.le_of_ble_eq_true rfl) ⟨⟨Nat.le_of_ble_eq_true rfl, Nat.le_of_ble_eq_true rfl⟩, Nat.le_of_ble_eq_true rfl, Nat.le_of_ble_eq_true rfl⟩ dL_isTold_264 (fun E ce q9 f227 H locs hPX hw hS hce hcv hcl => ?_) (fun v f227 H locs hP hw hS => ?_)
                                                                  · exact hPX.elim
                                                                  · obtain ⟨ev9, hC228, k229⟩ := hP
                                                                    subst ev9
                                                                    have hC228 : CXW G f227 xo ez eo bu nw0 na0 nq0 nr0 nw1 na1 nq1 nr1 bs bp bh bf bl bg S0 S1 gw0 ga0 gw1 ga1 n a cg x sa pk fl gv gh gl := hC228
                                                                    refine W.eq (g2 := F0 m 267 ls [.int (-71)]) rfl ?_
                                                                    refine lv_bipush (v := (-71)) hx hb dL_isTold_267 (by decide) ?_
                                                                    refine lv_icmp_ne (tgt := 308) hx hb dL_isTold_269 (by decide) (fun c9 => absurd (by decide) c9) (fun _ => ?_)
                                                                    refine lv_aload_n hx hb dL_isTold_272 rfl (lv_at hl9 1 rfl) ?_
                                                                    refine lv_iconst (v := 2) hx hb dL_isTold_273 (by decide) ?_
                                                                    refine lv_iconst (v := 0) hx hb dL_isTold_274 (by decide) ?_
                                                                    refine hp_SH (As := [.ref xo, .int 2, .int 0]) (rest := []) B0 hw hS (c_V_asked_E hl G f227 xo ez eo bu nw0 na0 nq0 nr0 nw1 na1 nq1 nr1 bs bp bh bf bl bg S0 S1 gw0 ga0 gw1 ga1 n a cg x sa pk fl gv gh gl hC228 (Nat.lt_of_le_of_lt hl0 (by decide)) (Nat.lt_of_le_of_lt hl1 (by decide)) 2 0 (by decide)) mH_L_asked qM_L_155 rfl rfl hl9.1 (Nat.le_of_ble_eq_true rfl) ⟨⟨Nat.le_of_ble_eq_true rfl, Nat.le_of_ble_eq_true rfl⟩, Nat.le_of_ble_eq_true rfl, Nat.le_of_ble_eq_true rfl⟩ dL_isTold_275 (fun E ce q9 f230 H locs hPX hw hS hce hcv hcl => ?_) (fun v f230 H locs hP hw hS => ?_)
                                                                    · exact hPX.elim
                                                                    · obtain ⟨ev9, hC231, k232⟩ := hP
                                                                      subst ev9
                                                                      have hC231 : CXW G f230 xo ez eo bu nw0 na0 nq0 nr0 nw1 na1 nq1 nr1 bs bp bh bf bl bg S0 S1 gw0 ga0 gw1 ga1 n a cg x sa pk fl gv gh gl := hC231
                                                                      refine W.eq (g2 := F0 m 278 ls [.int (-71)]) rfl ?_
                                                                      refine lv_bipush (v := (-71)) hx hb dL_isTold_278 (by decide) ?_
                                                                      refine lv_icmp_ne (tgt := 308) hx hb dL_isTold_280 (by decide) (fun c9 => absurd (by decide) c9) (fun _ => ?_)
                                                                      refine lv_aload_n hx hb dL_isTold_283 rfl (lv_at hl9 1 rfl) ?_
                                                                      refine lv_iconst (v := 0) hx hb dL_isTold_284 (by decide) ?_
                                                                      refine lv_iconst (v := (-1)) hx hb dL_isTold_285 (by decide) ?_
                                                                      refine hp_SH (As := [.ref xo, .int 0, .int (-1)]) (rest := []) B0 hw hS (c_V_asked_O0 hl G f230 xo ez eo bu nw0 na0 nq0 nr0 nw1 na1 nq1 nr1 bs bp bh bf bl bg S0 S1 gw0 ga0 gw1 ga1 n a cg x sa pk fl gv gh gl hC231 (Nat.lt_of_le_of_lt hl0 (by decide)) (Nat.lt_of_le_of_lt hl1 (by decide)) (-1) (by decide)) mH_L_asked qM_L_155 rfl rfl hl9.1 (Nat.le_of_ble_eq_true rfl) ⟨⟨Nat.le_of_ble_eq_true rfl, Nat.le_of_ble_eq_true rfl⟩, Nat.le_of_ble_eq_true rfl, Nat.le_of_ble_eq_true rfl⟩ dL_isTold_286 (fun E ce q9 f233 H locs hPX hw hS hce hcv hcl => ?_) (fun v f233 H locs hP hw hS => ?_)
                                                                      · exact hPX.elim
                                                                      · obtain ⟨ev9, hC234, k235⟩ := hP
                                                                        subst ev9
                                                                        have hC234 : CXW G f233 xo ez eo bu nw0 na0 nq0 nr0 nw1 na1 nq1 nr1 bs bp bh bf bl bg S0 S1 gw0 ga0 gw1 ga1 n a cg x sa pk fl gv gh gl := hC234
                                                                        refine W.eq (g2 := F0 m 289 ls [.int (-71)]) rfl ?_
                                                                        refine lv_bipush (v := (-71)) hx hb dL_isTold_289 (by decide) ?_
                                                                        refine lv_icmp_ne (tgt := 308) hx hb dL_isTold_291 (by decide) (fun c9 => absurd (by decide) c9) (fun _ => ?_)
                                                                        refine lv_aload_n hx hb dL_isTold_294 rfl (lv_at hl9 1 rfl) ?_
                                                                        refine lv_iconst (v := (-1)) hx hb dL_isTold_295 (by decide) ?_
                                                                        refine hp_SH (As := [.ref xo, .int (-1)]) (rest := []) B0 hw hS (c_V_underWay_E hl G f233 xo ez eo bu nw0 na0 nq0 nr0 nw1 na1 nq1 nr1 bs bp bh bf bl bg S0 S1 gw0 ga0 gw1 ga1 n a cg x sa pk fl gv gh gl hC234 (Nat.lt_of_le_of_lt hl0 (by decide)) (Nat.lt_of_le_of_lt hl1 (by decide)) (-1) (by decide)) mH_L_underWay qM_L_150 rfl rfl hl9.1 (Nat.le_of_ble_eq_true rfl) ⟨⟨Nat.le_of_ble_eq_true rfl, Nat.le_of_ble_eq_true rfl⟩, Nat.le_of_ble_eq_true rfl, Nat.le_of_ble_eq_true rfl⟩ dL_isTold_296 (fun E ce q9 f236 H locs hPX hw hS hce hcv hcl => ?_) (fun v f236 H locs hP hw hS => ?_)
                                                                        · exact hPX.elim
                                                                        · obtain ⟨ev9, hC237, k238⟩ := hP
                                                                          subst ev9
                                                                          have hC237 : CXW G f236 xo ez eo bu nw0 na0 nq0 nr0 nw1 na1 nq1 nr1 bs bp bh bf bl bg S0 S1 gw0 ga0 gw1 ga1 n a cg x sa pk fl gv gh gl := hC237
                                                                          refine W.eq (g2 := F0 m 299 ls [.int (-71)]) rfl ?_
                                                                          refine lv_bipush (v := (-71)) hx hb dL_isTold_299 (by decide) ?_
                                                                          refine lv_icmp_ne (tgt := 308) hx hb dL_isTold_301 (by decide) (fun c9 => absurd (by decide) c9) (fun _ => ?_)
                                                                          refine lv_iconst (v := 1) hx hb dL_isTold_304 (by decide) ?_
                                                                          refine lv_goto (tgt := 309) hx hb dL_isTold_305 (by decide) ?_
                                                                          exact hp_zret (v := 1) B0 hw hS hr ⟨Nat.le_of_ble_eq_true rfl, Nat.le_of_ble_eq_true rfl⟩ (rfl) dL_isTold_309 (⟨rfl, hC237, ((show hKn [xo, ez, eo, bu, nw0, na0, nq0, nr0, nw1, na1, nq1, nr1, bs, bp, bh, bf, bl, bg] f f9 from (hKn.mono hk9 (fun _ h9 => h9))).tr ((show hKn [xo, ez, eo, bu, nw0, na0, nq0, nr0, nw1, na1, nq1, nr1, bs, bp, bh, bf, bl, bg] f9 f203 from (hKn.mono k205 (fun _ h9 => h9))).tr ((show hKn [xo, ez, eo, bu, nw0, na0, nq0, nr0, nw1, na1, nq1, nr1, bs, bp, bh, bf, bl, bg] f203 f208 from (hKn.mono k210 (fun _ h9 => h9))).tr ((show hKn [xo, ez, eo, bu, nw0, na0, nq0, nr0, nw1, na1, nq1, nr1, bs, bp, bh, bf, bl, bg] f208 f212 from (hKn.mono k214 (fun _ h9 => h9))).tr ((show hKn [xo, ez, eo, bu, nw0, na0, nq0, nr0, nw1, na1, nq1, nr1, bs, bp, bh, bf, bl, bg] f212 f215 from (hKn.mono k217 (fun _ h9 => h9))).tr ((show hKn [xo, ez, eo, bu, nw0, na0, nq0, nr0, nw1, na1, nq1, nr1, bs, bp, bh, bf, bl, bg] f215 f218 from (hKn.mono k220 (fun _ h9 => h9))).tr ((show hKn [xo, ez, eo, bu, nw0, na0, nq0, nr0, nw1, na1, nq1, nr1, bs, bp, bh, bf, bl, bg] f218 f221 from (hKn.mono k223 (fun _ h9 => h9))).tr ((show hKn [xo, ez, eo, bu, nw0, na0, nq0, nr0, nw1, na1, nq1, nr1, bs, bp, bh, bf, bl, bg] f221 f224 from (hKn.mono k226 (fun _ h9 => h9))).tr ((show hKn [xo, ez, eo, bu, nw0, na0, nq0, nr0, nw1, na1, nq1, nr1, bs, bp, bh, bf, bl, bg] f224 f227 from (hKn.mono k229 (fun _ h9 => h9))).tr ((show hKn [xo, ez, eo, bu, nw0, na0, nq0, nr0, nw1, na1, nq1, nr1, bs, bp, bh, bf, bl, bg] f227 f230 from (hKn.mono k232 (fun _ h9 => h9))).tr ((show hKn [xo, ez, eo, bu, nw0, na0, nq0, nr0, nw1, na1, nq1, nr1, bs, bp, bh, bf, bl, bg] f230 f233 from (hKn.mono k235 (fun _ h9 => h9))).tr (show hKn [xo, ez, eo, bu, nw0, na0, nq0, nr0, nw1, na1, nq1, nr1, bs, bp, bh, bf, bl, bg] f233 f236 from (hKn.mono k238 (fun _ h9 => h9))))))))))))))⟩)
        · refine lv_iconst (v := 1) hx hb dL_isTold_60 (by decide) ?_
          refine lv_goto (tgt := 65) hx hb dL_isTold_61 (by decide) ?_
          refine lv_icmp_ne (tgt := 99) hx hb dL_isTold_65 (by decide) (fun c9 => absurd c15 c9) (fun _ => ?_)
          refine lv_aload_n hx hb dL_isTold_68 rfl (lv_at hl9 2 rfl) ?_
          refine lv_iload hx hb dL_isTold_69 (lv_at hl9 1 rfl) ?_
          refine hp_SH (As := [.ref xo, .int 0]) (rest := []) B0 hw hS (c_V_underWay_0 hl G f11 xo ez eo bu nw0 na0 nq0 nr0 nw1 na1 nq1 nr1 bs bp bh bf bl bg S0 S1 gw0 ga0 gw1 ga1 n a cg x sa pk fl gv gh gl hC12 (Nat.lt_of_le_of_lt hl0 (by decide)) (Nat.lt_of_le_of_lt hl1 (by decide)) ) mH_L_underWay qM_L_150 rfl rfl hl9.1 (Nat.le_of_ble_eq_true rfl) ⟨⟨Nat.le_of_ble_eq_true rfl, Nat.le_of_ble_eq_true rfl⟩, Nat.le_of_ble_eq_true rfl, Nat.le_of_ble_eq_true rfl⟩ dL_isTold_71 (fun E ce q9 f239 H locs hPX hw hS hce hcv hcl => ?_) (fun v f239 H locs hP hw hS => ?_)
          · exact hPX.elim
          · obtain ⟨ev9, hC240, k241⟩ := hP
            subst ev9
            have hC240 : CXW G f239 xo ez eo bu nw0 na0 nq0 nr0 nw1 na1 nq1 nr1 bs bp bh bf bl bg S0 S1 gw0 ga0 gw1 ga1 n a cg x sa pk fl gv gh gl := hC240
            refine W.eq (g2 := F0 m 74 ls [.int ((nI S0.2.2.2.2.2.2.2.2.length))]) rfl ?_
            refine lv_aload_n hx hb dL_isTold_74 rfl (lv_at hl9 4 rfl) ?_
            refine lv_iload hx hb dL_isTold_75 (lv_at hl9 0 rfl) ?_
            refine lv_bipush (v := 7) hx hb dL_isTold_77 (by decide) ?_
            refine lv_iadd hx hb dL_isTold_79 ?_
            refine hp_c (v := 7) (by decide) ?_
            have h242 : f239 le = some (.inl (cI G, 16, .inl (jE (eS S0) (eS S1)))) := k241 _ _ h14 (Nat.ne_of_beq_eq_false rfl) (hdos _ (List.mem_cons_of_mem _ List.mem_cons_self))
            refine hp_iald B0 hw h242 (by unfold vp_in; decide) dL_isTold_80 ?_
            refine hp_c (v := (nI S0.2.2.2.2.2.2.2.2.length)) (rfl) ?_
            refine lv_icmp_ne (tgt := 99) hx hb dL_isTold_81 (by decide) (fun c9 => absurd rfl c9) (fun _ => ?_)
            refine lv_aload_n hx hb dL_isTold_84 rfl (lv_at hl9 2 rfl) ?_
            refine lv_iload hx hb dL_isTold_85 (lv_at hl9 1 rfl) ?_
            have h243 : f239 xo = some (.inr (4, [.ref ez, .ref eo, .ref bu])) := by obtain ⟨_, _, h9⟩ := hC240; exact h9.1
            refine hp_V (ci := 4) (As := [.int 0]) (rest := []) B0 hw hS (c_P_missed_0 hl G f239 xo ez eo bu nw0 na0 nq0 nr0 nw1 na1 nq1 nr1 bs bp bh bf bl bg S0 S1 gw0 ga0 gw1 ga1 n a cg x sa pk fl gv gh gl hC240 (Nat.lt_of_le_of_lt hl0 (by decide)) (Nat.lt_of_le_of_lt hl1 (by decide))) mV_X4_missed qM_L_152 rfl h243 rfl rfl hl9.1 (Nat.le_of_ble_eq_true rfl) ⟨⟨Nat.le_of_ble_eq_true rfl, Nat.le_of_ble_eq_true rfl⟩, Nat.le_of_ble_eq_true rfl, Nat.le_of_ble_eq_true rfl⟩ dL_isTold_87 (fun E ce q9 f244 H locs hPX hw hS hce hcv hcl => ?_) (fun v f244 H locs hP hw hS => ?_)
            · exact hPX.elim
            · obtain ⟨ev9, hC245, k246⟩ := hP
              subst ev9
              refine W.eq (g2 := F0 m 90 ls [.int S0.2.2.2.2.2.1]) rfl ?_
              refine lv_aload_n hx hb dL_isTold_90 rfl (lv_at hl9 4 rfl) ?_
              refine lv_iload hx hb dL_isTold_91 (lv_at hl9 0 rfl) ?_
              refine lv_iconst (v := 5) hx hb dL_isTold_93 (by decide) ?_
              refine lv_iadd hx hb dL_isTold_94 ?_
              refine hp_c (v := 5) (by decide) ?_
              have h247 : f244 le = some (.inl (cI G, 16, .inl (jE (eS S0) (eS S1)))) := k246 _ _ h242 (Nat.ne_of_beq_eq_false rfl) (hdos _ (List.mem_cons_of_mem _ List.mem_cons_self))
              refine hp_iald B0 hw h247 (by unfold vp_in; decide) dL_isTold_95 ?_
              refine hp_c (v := S0.2.2.2.2.2.1) (rfl) ?_
              refine lv_icmp_eq (tgt := 101) hx hb dL_isTold_96 (by decide) (fun _ => ?_) (fun c9 => absurd rfl c9)
              refine lv_iconst (v := 0) hx hb dL_isTold_101 (by decide) ?_
              refine lv_istore (lv' := [(7, .int 0), (6, .int 0), (5, .int 0), (0, .ref xo), (1, .ref lq), (2, .ref le), (3, .ref lr), (4, .ref lg)]) hx hb dL_isTold_102 hl9 (by decide) rfl (fun ls hl9 => ?_)
              refine lv_iload hx hb dL_isTold_104 (lv_at hl9 0 rfl) ?_
              refine lv_bipush (v := 6) hx hb dL_isTold_106 (by decide) ?_
              refine lv_icmp_ge (tgt := 140) hx hb dL_isTold_108 (by decide) (fun c9 => absurd c9 (by decide)) (fun _ => ?_)
              refine lv_aload_n hx hb dL_isTold_111 rfl (lv_at hl9 3 rfl) ?_
              refine lv_iload hx hb dL_isTold_112 (lv_at hl9 2 rfl) ?_
              refine lv_iload hx hb dL_isTold_114 (lv_at hl9 0 rfl) ?_
              refine hp_SH (As := [.ref xo, .int 0, .int 0]) (rest := []) B0 hw hS (c_V_asked_0 hl G f244 xo ez eo bu nw0 na0 nq0 nr0 nw1 na1 nq1 nr1 bs bp bh bf bl bg S0 S1 gw0 ga0 gw1 ga1 n a cg x sa pk fl gv gh gl hC245 (Nat.lt_of_le_of_lt hl0 (by decide)) (Nat.lt_of_le_of_lt hl1 (by decide)) 0 (by decide)) mH_L_asked qM_L_155 rfl rfl hl9.1 (Nat.le_of_ble_eq_true rfl) ⟨⟨Nat.le_of_ble_eq_true rfl, Nat.le_of_ble_eq_true rfl⟩, Nat.le_of_ble_eq_true rfl, Nat.le_of_ble_eq_true rfl⟩ dL_isTold_116 (fun E ce q9 f248 H locs hPX hw hS hce hcv hcl => ?_) (fun v f248 H locs hP hw hS => ?_)
              · exact hPX.elim
              · obtain ⟨ev9, hC249, k250⟩ := hP
                subst ev9
                have hC249 : CXW G f248 xo ez eo bu nw0 na0 nq0 nr0 nw1 na1 nq1 nr1 bs bp bh bf bl bg S0 S1 gw0 ga0 gw1 ga1 n a cg x sa pk fl gv gh gl := hC249
                refine W.eq (g2 := F0 m 119 ls [.int ((S0.2.2.2.2.2.2.2.1 0))]) rfl ?_
                refine lv_aload_n hx hb dL_isTold_119 rfl (lv_at hl9 4 rfl) ?_
                refine lv_bipush (v := 6) hx hb dL_isTold_120 (by decide) ?_
                refine lv_iload hx hb dL_isTold_122 (lv_at hl9 2 rfl) ?_
                refine lv_imul hx hb dL_isTold_124 ?_
                refine hp_c (v := 0) (by decide) ?_
                refine lv_iload hx hb dL_isTold_125 (lv_at hl9 0 rfl) ?_
                refine lv_iadd hx hb dL_isTold_127 ?_
                refine hp_c (v := 0) (by decide) ?_
                have h251 : f1 lq = some (.inl (cI G, 12, .inl (j6 S0.2.2.2.2.2.2.2.1 S1.2.2.2.2.2.2.2.1))) := k3 _ _ k_lq (Nat.ne_of_beq_eq_false rfl) (hdos _ List.mem_cons_self)
                have h252 : f6 lq = some (.inl (cI G, 12, .inl (j6 S0.2.2.2.2.2.2.2.1 S1.2.2.2.2.2.2.2.1))) := k8 _ _ h251 (Nat.ne_of_beq_eq_false rfl) (hdos _ List.mem_cons_self)
                have h253 : f11 lq = some (.inl (cI G, 12, .inl (j6 S0.2.2.2.2.2.2.2.1 S1.2.2.2.2.2.2.2.1))) := k13 _ _ h252 (Nat.ne_of_beq_eq_false rfl) (hdos _ List.mem_cons_self)
                have h254 : f239 lq = some (.inl (cI G, 12, .inl (j6 S0.2.2.2.2.2.2.2.1 S1.2.2.2.2.2.2.2.1))) := k241 _ _ h253 (Nat.ne_of_beq_eq_false rfl) (hdos _ List.mem_cons_self)
                have h255 : f244 lq = some (.inl (cI G, 12, .inl (j6 S0.2.2.2.2.2.2.2.1 S1.2.2.2.2.2.2.2.1))) := k246 _ _ h254 (Nat.ne_of_beq_eq_false rfl) (hdos _ List.mem_cons_self)
                have h256 : f248 lq = some (.inl (cI G, 12, .inl (j6 S0.2.2.2.2.2.2.2.1 S1.2.2.2.2.2.2.2.1))) := k250 _ _ h255 (Nat.ne_of_beq_eq_false rfl) (hdos _ List.mem_cons_self)
                refine hp_iald B0 hw h256 (by unfold vp_in; decide) dL_isTold_128 ?_
                refine hp_c (v := (S0.2.2.2.2.2.2.2.1 0)) (rfl) ?_
                refine lv_icmp_eq (tgt := 134) hx hb dL_isTold_129 (by decide) (fun _ => ?_) (fun c9 => absurd rfl c9)
                refine lv_iinc (v := 1) (lv' := [(7, .int 1), (6, .int 0), (5, .int 0), (0, .ref xo), (1, .ref lq), (2, .ref le), (3, .ref lr), (4, .ref lg)]) hx hb dL_isTold_134 hl9 (k := 0) rfl (by decide) (by decide) rfl (fun ls hl9 => ?_)
                refine lv_goto (tgt := 104) hx hb dL_isTold_137 (by decide) ?_
                refine lv_iload hx hb dL_isTold_104 (lv_at hl9 0 rfl) ?_
                refine lv_bipush (v := 6) hx hb dL_isTold_106 (by decide) ?_
                refine lv_icmp_ge (tgt := 140) hx hb dL_isTold_108 (by decide) (fun c9 => absurd c9 (by decide)) (fun _ => ?_)
                refine lv_aload_n hx hb dL_isTold_111 rfl (lv_at hl9 3 rfl) ?_
                refine lv_iload hx hb dL_isTold_112 (lv_at hl9 2 rfl) ?_
                refine lv_iload hx hb dL_isTold_114 (lv_at hl9 0 rfl) ?_
                refine hp_SH (As := [.ref xo, .int 0, .int 1]) (rest := []) B0 hw hS (c_V_asked_0 hl G f248 xo ez eo bu nw0 na0 nq0 nr0 nw1 na1 nq1 nr1 bs bp bh bf bl bg S0 S1 gw0 ga0 gw1 ga1 n a cg x sa pk fl gv gh gl hC249 (Nat.lt_of_le_of_lt hl0 (by decide)) (Nat.lt_of_le_of_lt hl1 (by decide)) 1 (by decide)) mH_L_asked qM_L_155 rfl rfl hl9.1 (Nat.le_of_ble_eq_true rfl) ⟨⟨Nat.le_of_ble_eq_true rfl, Nat.le_of_ble_eq_true rfl⟩, Nat.le_of_ble_eq_true rfl, Nat.le_of_ble_eq_true rfl⟩ dL_isTold_116 (fun E ce q9 f257 H locs hPX hw hS hce hcv hcl => ?_) (fun v f257 H locs hP hw hS => ?_)
                · exact hPX.elim
                · obtain ⟨ev9, hC258, k259⟩ := hP
                  subst ev9
                  have hC258 : CXW G f257 xo ez eo bu nw0 na0 nq0 nr0 nw1 na1 nq1 nr1 bs bp bh bf bl bg S0 S1 gw0 ga0 gw1 ga1 n a cg x sa pk fl gv gh gl := hC258
                  refine W.eq (g2 := F0 m 119 ls [.int ((S0.2.2.2.2.2.2.2.1 1))]) rfl ?_
                  refine lv_aload_n hx hb dL_isTold_119 rfl (lv_at hl9 4 rfl) ?_
                  refine lv_bipush (v := 6) hx hb dL_isTold_120 (by decide) ?_
                  refine lv_iload hx hb dL_isTold_122 (lv_at hl9 2 rfl) ?_
                  refine lv_imul hx hb dL_isTold_124 ?_
                  refine hp_c (v := 0) (by decide) ?_
                  refine lv_iload hx hb dL_isTold_125 (lv_at hl9 0 rfl) ?_
                  refine lv_iadd hx hb dL_isTold_127 ?_
                  refine hp_c (v := 1) (by decide) ?_
                  have h260 : f257 lq = some (.inl (cI G, 12, .inl (j6 S0.2.2.2.2.2.2.2.1 S1.2.2.2.2.2.2.2.1))) := k259 _ _ h256 (Nat.ne_of_beq_eq_false rfl) (hdos _ List.mem_cons_self)
                  refine hp_iald B0 hw h260 (by unfold vp_in; decide) dL_isTold_128 ?_
                  refine hp_c (v := (S0.2.2.2.2.2.2.2.1 1)) (rfl) ?_
                  refine lv_icmp_eq (tgt := 134) hx hb dL_isTold_129 (by decide) (fun _ => ?_) (fun c9 => absurd rfl c9)
                  refine lv_iinc (v := 2) (lv' := [(7, .int 2), (6, .int 0), (5, .int 0), (0, .ref xo), (1, .ref lq), (2, .ref le), (3, .ref lr), (4, .ref lg)]) hx hb dL_isTold_134 hl9 (k := 0) rfl (by decide) (by decide) rfl (fun ls hl9 => ?_)
                  refine lv_goto (tgt := 104) hx hb dL_isTold_137 (by decide) ?_
                  refine lv_iload hx hb dL_isTold_104 (lv_at hl9 0 rfl) ?_
                  refine lv_bipush (v := 6) hx hb dL_isTold_106 (by decide) ?_
                  refine lv_icmp_ge (tgt := 140) hx hb dL_isTold_108 (by decide) (fun c9 => absurd c9 (by decide)) (fun _ => ?_)
                  refine lv_aload_n hx hb dL_isTold_111 rfl (lv_at hl9 3 rfl) ?_
                  refine lv_iload hx hb dL_isTold_112 (lv_at hl9 2 rfl) ?_
                  refine lv_iload hx hb dL_isTold_114 (lv_at hl9 0 rfl) ?_
                  refine hp_SH (As := [.ref xo, .int 0, .int 2]) (rest := []) B0 hw hS (c_V_asked_0 hl G f257 xo ez eo bu nw0 na0 nq0 nr0 nw1 na1 nq1 nr1 bs bp bh bf bl bg S0 S1 gw0 ga0 gw1 ga1 n a cg x sa pk fl gv gh gl hC258 (Nat.lt_of_le_of_lt hl0 (by decide)) (Nat.lt_of_le_of_lt hl1 (by decide)) 2 (by decide)) mH_L_asked qM_L_155 rfl rfl hl9.1 (Nat.le_of_ble_eq_true rfl) ⟨⟨Nat.le_of_ble_eq_true rfl, Nat.le_of_ble_eq_true rfl⟩, Nat.le_of_ble_eq_true rfl, Nat.le_of_ble_eq_true rfl⟩ dL_isTold_116 (fun E ce q9 f261 H locs hPX hw hS hce hcv hcl => ?_) (fun v f261 H locs hP hw hS => ?_)
                  · exact hPX.elim
                  · obtain ⟨ev9, hC262, k263⟩ := hP
                    subst ev9
                    have hC262 : CXW G f261 xo ez eo bu nw0 na0 nq0 nr0 nw1 na1 nq1 nr1 bs bp bh bf bl bg S0 S1 gw0 ga0 gw1 ga1 n a cg x sa pk fl gv gh gl := hC262
                    refine W.eq (g2 := F0 m 119 ls [.int ((S0.2.2.2.2.2.2.2.1 2))]) rfl ?_
                    refine lv_aload_n hx hb dL_isTold_119 rfl (lv_at hl9 4 rfl) ?_
                    refine lv_bipush (v := 6) hx hb dL_isTold_120 (by decide) ?_
                    refine lv_iload hx hb dL_isTold_122 (lv_at hl9 2 rfl) ?_
                    refine lv_imul hx hb dL_isTold_124 ?_
                    refine hp_c (v := 0) (by decide) ?_
                    refine lv_iload hx hb dL_isTold_125 (lv_at hl9 0 rfl) ?_
                    refine lv_iadd hx hb dL_isTold_127 ?_
                    refine hp_c (v := 2) (by decide) ?_
                    have h264 : f261 lq = some (.inl (cI G, 12, .inl (j6 S0.2.2.2.2.2.2.2.1 S1.2.2.2.2.2.2.2.1))) := k263 _ _ h260 (Nat.ne_of_beq_eq_false rfl) (hdos _ List.mem_cons_self)
                    refine hp_iald B0 hw h264 (by unfold vp_in; decide) dL_isTold_128 ?_
                    refine hp_c (v := (S0.2.2.2.2.2.2.2.1 2)) (rfl) ?_
                    refine lv_icmp_eq (tgt := 134) hx hb dL_isTold_129 (by decide) (fun _ => ?_) (fun c9 => absurd rfl c9)
                    refine lv_iinc (v := 3) (lv' := [(7, .int 3), (6, .int 0), (5, .int 0), (0, .ref xo), (1, .ref lq), (2, .ref le), (3, .ref lr), (4, .ref lg)]) hx hb dL_isTold_134 hl9 (k := 0) rfl (by decide) (by decide) rfl (fun ls hl9 => ?_)
                    refine lv_goto (tgt := 104) hx hb dL_isTold_137 (by decide) ?_
                    refine lv_iload hx hb dL_isTold_104 (lv_at hl9 0 rfl) ?_
                    refine lv_bipush (v := 6) hx hb dL_isTold_106 (by decide) ?_
                    refine lv_icmp_ge (tgt := 140) hx hb dL_isTold_108 (by decide) (fun c9 => absurd c9 (by decide)) (fun _ => ?_)
                    refine lv_aload_n hx hb dL_isTold_111 rfl (lv_at hl9 3 rfl) ?_
                    refine lv_iload hx hb dL_isTold_112 (lv_at hl9 2 rfl) ?_
                    refine lv_iload hx hb dL_isTold_114 (lv_at hl9 0 rfl) ?_
                    refine hp_SH (As := [.ref xo, .int 0, .int 3]) (rest := []) B0 hw hS (c_V_asked_0 hl G f261 xo ez eo bu nw0 na0 nq0 nr0 nw1 na1 nq1 nr1 bs bp bh bf bl bg S0 S1 gw0 ga0 gw1 ga1 n a cg x sa pk fl gv gh gl hC262 (Nat.lt_of_le_of_lt hl0 (by decide)) (Nat.lt_of_le_of_lt hl1 (by decide)) 3 (by decide)) mH_L_asked qM_L_155 rfl rfl hl9.1 (Nat.le_of_ble_eq_true rfl) ⟨⟨Nat.le_of_ble_eq_true rfl, Nat.le_of_ble_eq_true rfl⟩, Nat.le_of_ble_eq_true rfl, Nat.le_of_ble_eq_true rfl⟩ dL_isTold_116 (fun E ce q9 f265 H locs hPX hw hS hce hcv hcl => ?_) (fun v f265 H locs hP hw hS => ?_)
                    · exact hPX.elim
                    · obtain ⟨ev9, hC266, k267⟩ := hP
                      subst ev9
                      have hC266 : CXW G f265 xo ez eo bu nw0 na0 nq0 nr0 nw1 na1 nq1 nr1 bs bp bh bf bl bg S0 S1 gw0 ga0 gw1 ga1 n a cg x sa pk fl gv gh gl := hC266
                      refine W.eq (g2 := F0 m 119 ls [.int ((S0.2.2.2.2.2.2.2.1 3))]) rfl ?_
                      refine lv_aload_n hx hb dL_isTold_119 rfl (lv_at hl9 4 rfl) ?_
                      refine lv_bipush (v := 6) hx hb dL_isTold_120 (by decide) ?_
                      refine lv_iload hx hb dL_isTold_122 (lv_at hl9 2 rfl) ?_
                      refine lv_imul hx hb dL_isTold_124 ?_
                      refine hp_c (v := 0) (by decide) ?_
                      refine lv_iload hx hb dL_isTold_125 (lv_at hl9 0 rfl) ?_
                      refine lv_iadd hx hb dL_isTold_127 ?_
                      refine hp_c (v := 3) (by decide) ?_
                      have h268 : f265 lq = some (.inl (cI G, 12, .inl (j6 S0.2.2.2.2.2.2.2.1 S1.2.2.2.2.2.2.2.1))) := k267 _ _ h264 (Nat.ne_of_beq_eq_false rfl) (hdos _ List.mem_cons_self)
                      refine hp_iald B0 hw h268 (by unfold vp_in; decide) dL_isTold_128 ?_
                      refine hp_c (v := (S0.2.2.2.2.2.2.2.1 3)) (rfl) ?_
                      refine lv_icmp_eq (tgt := 134) hx hb dL_isTold_129 (by decide) (fun _ => ?_) (fun c9 => absurd rfl c9)
                      refine lv_iinc (v := 4) (lv' := [(7, .int 4), (6, .int 0), (5, .int 0), (0, .ref xo), (1, .ref lq), (2, .ref le), (3, .ref lr), (4, .ref lg)]) hx hb dL_isTold_134 hl9 (k := 0) rfl (by decide) (by decide) rfl (fun ls hl9 => ?_)
                      refine lv_goto (tgt := 104) hx hb dL_isTold_137 (by decide) ?_
                      refine lv_iload hx hb dL_isTold_104 (lv_at hl9 0 rfl) ?_
                      refine lv_bipush (v := 6) hx hb dL_isTold_106 (by decide) ?_
                      refine lv_icmp_ge (tgt := 140) hx hb dL_isTold_108 (by decide) (fun c9 => absurd c9 (by decide)) (fun _ => ?_)
                      refine lv_aload_n hx hb dL_isTold_111 rfl (lv_at hl9 3 rfl) ?_
                      refine lv_iload hx hb dL_isTold_112 (lv_at hl9 2 rfl) ?_
                      refine lv_iload hx hb dL_isTold_114 (lv_at hl9 0 rfl) ?_
                      refine hp_SH (As := [.ref xo, .int 0, .int 4]) (rest := []) B0 hw hS (c_V_asked_0 hl G f265 xo ez eo bu nw0 na0 nq0 nr0 nw1 na1 nq1 nr1 bs bp bh bf bl bg S0 S1 gw0 ga0 gw1 ga1 n a cg x sa pk fl gv gh gl hC266 (Nat.lt_of_le_of_lt hl0 (by decide)) (Nat.lt_of_le_of_lt hl1 (by decide)) 4 (by decide)) mH_L_asked qM_L_155 rfl rfl hl9.1 (Nat.le_of_ble_eq_true rfl) ⟨⟨Nat.le_of_ble_eq_true rfl, Nat.le_of_ble_eq_true rfl⟩, Nat.le_of_ble_eq_true rfl, Nat.le_of_ble_eq_true rfl⟩ dL_isTold_116 (fun E ce q9 f269 H locs hPX hw hS hce hcv hcl => ?_) (fun v f269 H locs hP hw hS => ?_)
                      · exact hPX.elim
                      · obtain ⟨ev9, hC270, k271⟩ := hP
                        subst ev9
                        have hC270 : CXW G f269 xo ez eo bu nw0 na0 nq0 nr0 nw1 na1 nq1 nr1 bs bp bh bf bl bg S0 S1 gw0 ga0 gw1 ga1 n a cg x sa pk fl gv gh gl := hC270
                        refine W.eq (g2 := F0 m 119 ls [.int ((S0.2.2.2.2.2.2.2.1 4))]) rfl ?_
                        refine lv_aload_n hx hb dL_isTold_119 rfl (lv_at hl9 4 rfl) ?_
                        refine lv_bipush (v := 6) hx hb dL_isTold_120 (by decide) ?_
                        refine lv_iload hx hb dL_isTold_122 (lv_at hl9 2 rfl) ?_
                        refine lv_imul hx hb dL_isTold_124 ?_
                        refine hp_c (v := 0) (by decide) ?_
                        refine lv_iload hx hb dL_isTold_125 (lv_at hl9 0 rfl) ?_
                        refine lv_iadd hx hb dL_isTold_127 ?_
                        refine hp_c (v := 4) (by decide) ?_
                        have h272 : f269 lq = some (.inl (cI G, 12, .inl (j6 S0.2.2.2.2.2.2.2.1 S1.2.2.2.2.2.2.2.1))) := k271 _ _ h268 (Nat.ne_of_beq_eq_false rfl) (hdos _ List.mem_cons_self)
                        refine hp_iald B0 hw h272 (by unfold vp_in; decide) dL_isTold_128 ?_
                        refine hp_c (v := (S0.2.2.2.2.2.2.2.1 4)) (rfl) ?_
                        refine lv_icmp_eq (tgt := 134) hx hb dL_isTold_129 (by decide) (fun _ => ?_) (fun c9 => absurd rfl c9)
                        refine lv_iinc (v := 5) (lv' := [(7, .int 5), (6, .int 0), (5, .int 0), (0, .ref xo), (1, .ref lq), (2, .ref le), (3, .ref lr), (4, .ref lg)]) hx hb dL_isTold_134 hl9 (k := 0) rfl (by decide) (by decide) rfl (fun ls hl9 => ?_)
                        refine lv_goto (tgt := 104) hx hb dL_isTold_137 (by decide) ?_
                        refine lv_iload hx hb dL_isTold_104 (lv_at hl9 0 rfl) ?_
                        refine lv_bipush (v := 6) hx hb dL_isTold_106 (by decide) ?_
                        refine lv_icmp_ge (tgt := 140) hx hb dL_isTold_108 (by decide) (fun c9 => absurd c9 (by decide)) (fun _ => ?_)
                        refine lv_aload_n hx hb dL_isTold_111 rfl (lv_at hl9 3 rfl) ?_
                        refine lv_iload hx hb dL_isTold_112 (lv_at hl9 2 rfl) ?_
                        refine lv_iload hx hb dL_isTold_114 (lv_at hl9 0 rfl) ?_
                        refine hp_SH (As := [.ref xo, .int 0, .int 5]) (rest := []) B0 hw hS (c_V_asked_0 hl G f269 xo ez eo bu nw0 na0 nq0 nr0 nw1 na1 nq1 nr1 bs bp bh bf bl bg S0 S1 gw0 ga0 gw1 ga1 n a cg x sa pk fl gv gh gl hC270 (Nat.lt_of_le_of_lt hl0 (by decide)) (Nat.lt_of_le_of_lt hl1 (by decide)) 5 (by decide)) mH_L_asked qM_L_155 rfl rfl hl9.1 (Nat.le_of_ble_eq_true rfl) ⟨⟨Nat.le_of_ble_eq_true rfl, Nat.le_of_ble_eq_true rfl⟩, Nat.le_of_ble_eq_true rfl, Nat.le_of_ble_eq_true rfl⟩ dL_isTold_116 (fun E ce q9 f273 H locs hPX hw hS hce hcv hcl => ?_) (fun v f273 H locs hP hw hS => ?_)
                        · exact hPX.elim
                        · obtain ⟨ev9, hC274, k275⟩ := hP
                          subst ev9
                          have hC274 : CXW G f273 xo ez eo bu nw0 na0 nq0 nr0 nw1 na1 nq1 nr1 bs bp bh bf bl bg S0 S1 gw0 ga0 gw1 ga1 n a cg x sa pk fl gv gh gl := hC274
                          refine W.eq (g2 := F0 m 119 ls [.int ((S0.2.2.2.2.2.2.2.1 5))]) rfl ?_
                          refine lv_aload_n hx hb dL_isTold_119 rfl (lv_at hl9 4 rfl) ?_
                          refine lv_bipush (v := 6) hx hb dL_isTold_120 (by decide) ?_
                          refine lv_iload hx hb dL_isTold_122 (lv_at hl9 2 rfl) ?_
                          refine lv_imul hx hb dL_isTold_124 ?_
                          refine hp_c (v := 0) (by decide) ?_
                          refine lv_iload hx hb dL_isTold_125 (lv_at hl9 0 rfl) ?_
                          refine lv_iadd hx hb dL_isTold_127 ?_
                          refine hp_c (v := 5) (by decide) ?_
                          have h276 : f273 lq = some (.inl (cI G, 12, .inl (j6 S0.2.2.2.2.2.2.2.1 S1.2.2.2.2.2.2.2.1))) := k275 _ _ h272 (Nat.ne_of_beq_eq_false rfl) (hdos _ List.mem_cons_self)
                          refine hp_iald B0 hw h276 (by unfold vp_in; decide) dL_isTold_128 ?_
                          refine hp_c (v := (S0.2.2.2.2.2.2.2.1 5)) (rfl) ?_
                          refine lv_icmp_eq (tgt := 134) hx hb dL_isTold_129 (by decide) (fun _ => ?_) (fun c9 => absurd rfl c9)
                          refine lv_iinc (v := 6) (lv' := [(7, .int 6), (6, .int 0), (5, .int 0), (0, .ref xo), (1, .ref lq), (2, .ref le), (3, .ref lr), (4, .ref lg)]) hx hb dL_isTold_134 hl9 (k := 0) rfl (by decide) (by decide) rfl (fun ls hl9 => ?_)
                          refine lv_goto (tgt := 104) hx hb dL_isTold_137 (by decide) ?_
                          refine lv_iload hx hb dL_isTold_104 (lv_at hl9 0 rfl) ?_
                          refine lv_bipush (v := 6) hx hb dL_isTold_106 (by decide) ?_
                          refine lv_icmp_ge (tgt := 140) hx hb dL_isTold_108 (by decide) (fun _ => ?_) (fun c9 => absurd (by decide) c9)
                          refine lv_iinc (v := 1) (lv' := [(5, .int 1), (7, .int 6), (6, .int 0), (0, .ref xo), (1, .ref lq), (2, .ref le), (3, .ref lr), (4, .ref lg)]) hx hb dL_isTold_140 hl9 (k := 2) rfl (by decide) (by decide) rfl (fun ls hl9 => ?_)
                          refine lv_goto (tgt := 3) hx hb dL_isTold_143 (by decide) ?_
                          refine lv_iload hx hb dL_isTold_3 (lv_at hl9 0 rfl) ?_
                          refine lv_iconst (v := 2) hx hb dL_isTold_5 (by decide) ?_
                          refine lv_icmp_ge (tgt := 146) hx hb dL_isTold_6 (by decide) (fun c9 => absurd c9 (by decide)) (fun _ => ?_)
                          refine lv_bipush (v := 8) hx hb dL_isTold_9 (by decide) ?_
                          refine lv_iload hx hb dL_isTold_11 (lv_at hl9 0 rfl) ?_
                          refine lv_imul hx hb dL_isTold_13 ?_
                          refine hp_c (v := 8) (by decide) ?_
                          refine lv_istore (lv' := [(6, .int 8), (5, .int 1), (7, .int 6), (0, .ref xo), (1, .ref lq), (2, .ref le), (3, .ref lr), (4, .ref lg)]) hx hb dL_isTold_14 hl9 (by decide) rfl (fun ls hl9 => ?_)
                          refine lv_aload_n hx hb dL_isTold_16 rfl (lv_at hl9 3 rfl) ?_
                          refine lv_iload hx hb dL_isTold_17 (lv_at hl9 1 rfl) ?_
                          refine hp_SH (As := [.ref xo, .int 1]) (rest := []) B0 hw hS (c_V_stateOf_1 hl G f273 xo ez eo bu nw0 na0 nq0 nr0 nw1 na1 nq1 nr1 bs bp bh bf bl bg S0 S1 gw0 ga0 gw1 ga1 n a cg x sa pk fl gv gh gl hC274 (Nat.lt_of_le_of_lt hl0 (by decide)) (Nat.lt_of_le_of_lt hl1 (by decide)) ) mH_L_stateOf qM_L_141 rfl rfl hl9.1 (Nat.le_of_ble_eq_true rfl) ⟨⟨Nat.le_of_ble_eq_true rfl, Nat.le_of_ble_eq_true rfl⟩, Nat.le_of_ble_eq_true rfl, Nat.le_of_ble_eq_true rfl⟩ dL_isTold_19 (fun E ce q9 f277 H locs hPX hw hS hce hcv hcl => ?_) (fun v f277 H locs hP hw hS => ?_)
                          · exact hPX.elim
                          · obtain ⟨ev9, hC278, k279⟩ := hP
                            subst ev9
                            have hC278 : CXW G f277 xo ez eo bu nw0 na0 nq0 nr0 nw1 na1 nq1 nr1 bs bp bh bf bl bg S0 S1 gw0 ga0 gw1 ga1 n a cg x sa pk fl gv gh gl := hC278
                            refine W.eq (g2 := F0 m 22 ls [.int (S1.1)]) rfl ?_
                            refine lv_aload_n hx hb dL_isTold_22 rfl (lv_at hl9 5 rfl) ?_
                            refine lv_iload hx hb dL_isTold_23 (lv_at hl9 0 rfl) ?_
                            have h280 : f248 le = some (.inl (cI G, 16, .inl (jE (eS S0) (eS S1)))) := k250 _ _ h247 (Nat.ne_of_beq_eq_false rfl) (hdos _ (List.mem_cons_of_mem _ List.mem_cons_self))
                            have h281 : f257 le = some (.inl (cI G, 16, .inl (jE (eS S0) (eS S1)))) := k259 _ _ h280 (Nat.ne_of_beq_eq_false rfl) (hdos _ (List.mem_cons_of_mem _ List.mem_cons_self))
                            have h282 : f261 le = some (.inl (cI G, 16, .inl (jE (eS S0) (eS S1)))) := k263 _ _ h281 (Nat.ne_of_beq_eq_false rfl) (hdos _ (List.mem_cons_of_mem _ List.mem_cons_self))
                            have h283 : f265 le = some (.inl (cI G, 16, .inl (jE (eS S0) (eS S1)))) := k267 _ _ h282 (Nat.ne_of_beq_eq_false rfl) (hdos _ (List.mem_cons_of_mem _ List.mem_cons_self))
                            have h284 : f269 le = some (.inl (cI G, 16, .inl (jE (eS S0) (eS S1)))) := k271 _ _ h283 (Nat.ne_of_beq_eq_false rfl) (hdos _ (List.mem_cons_of_mem _ List.mem_cons_self))
                            have h285 : f273 le = some (.inl (cI G, 16, .inl (jE (eS S0) (eS S1)))) := k275 _ _ h284 (Nat.ne_of_beq_eq_false rfl) (hdos _ (List.mem_cons_of_mem _ List.mem_cons_self))
                            have h286 : f277 le = some (.inl (cI G, 16, .inl (jE (eS S0) (eS S1)))) := k279 _ _ h285 (Nat.ne_of_beq_eq_false rfl) (hdos _ (List.mem_cons_of_mem _ List.mem_cons_self))
                            refine hp_iald B0 hw h286 (by unfold vp_in; decide) dL_isTold_25 ?_
                            refine hp_c (v := S1.1) (rfl) ?_
                            refine lv_icmp_ne (tgt := 99) hx hb dL_isTold_26 (by decide) (fun c9 => absurd rfl c9) (fun _ => ?_)
                            refine lv_aload_n hx hb dL_isTold_29 rfl (lv_at hl9 3 rfl) ?_
                            refine lv_iload hx hb dL_isTold_30 (lv_at hl9 1 rfl) ?_
                            have h287 : f277 xo = some (.inr (4, [.ref ez, .ref eo, .ref bu])) := by obtain ⟨_, _, h9⟩ := hC278; exact h9.1
                            refine hp_V (ci := 4) (As := [.int 1]) (rest := []) B0 hw hS (c_P_requests_1 hl G f277 xo ez eo bu nw0 na0 nq0 nr0 nw1 na1 nq1 nr1 bs bp bh bf bl bg S0 S1 gw0 ga0 gw1 ga1 n a cg x sa pk fl gv gh gl hC278 (Nat.lt_of_le_of_lt hl0 (by decide)) (Nat.lt_of_le_of_lt hl1 (by decide))) mV_X4_requests qM_L_143 rfl h287 rfl rfl hl9.1 (Nat.le_of_ble_eq_true rfl) ⟨⟨Nat.le_of_ble_eq_true rfl, Nat.le_of_ble_eq_true rfl⟩, Nat.le_of_ble_eq_true rfl, Nat.le_of_ble_eq_true rfl⟩ dL_isTold_32 (fun E ce q9 f288 H locs hPX hw hS hce hcv hcl => ?_) (fun v f288 H locs hP hw hS => ?_)
                            · exact hPX.elim
                            · obtain ⟨ev9, hC289, k290⟩ := hP
                              subst ev9
                              refine W.eq (g2 := F0 m 35 ls [.int S1.2.2.1]) rfl ?_
                              refine lv_aload_n hx hb dL_isTold_35 rfl (lv_at hl9 5 rfl) ?_
                              refine lv_iload hx hb dL_isTold_36 (lv_at hl9 0 rfl) ?_
                              refine lv_iconst (v := 2) hx hb dL_isTold_38 (by decide) ?_
                              refine lv_iadd hx hb dL_isTold_39 ?_
                              refine hp_c (v := 10) (by decide) ?_
                              have h291 : f288 le = some (.inl (cI G, 16, .inl (jE (eS S0) (eS S1)))) := k290 _ _ h286 (Nat.ne_of_beq_eq_false rfl) (hdos _ (List.mem_cons_of_mem _ List.mem_cons_self))
                              refine hp_iald B0 hw h291 (by unfold vp_in; decide) dL_isTold_40 ?_
                              refine hp_c (v := S1.2.2.1) (rfl) ?_
                              refine lv_icmp_ne (tgt := 99) hx hb dL_isTold_41 (by decide) (fun c9 => absurd rfl c9) (fun _ => ?_)
                              refine lv_aload_n hx hb dL_isTold_44 rfl (lv_at hl9 3 rfl) ?_
                              refine lv_iload hx hb dL_isTold_45 (lv_at hl9 1 rfl) ?_
                              have h292 : f288 xo = some (.inr (4, [.ref ez, .ref eo, .ref bu])) := by obtain ⟨_, _, h9⟩ := hC289; exact h9.1
                              refine hp_V (ci := 4) (As := [.int 1]) (rest := []) B0 hw hS (c_P_isLooped_1 hl G f288 xo ez eo bu nw0 na0 nq0 nr0 nw1 na1 nq1 nr1 bs bp bh bf bl bg S0 S1 gw0 ga0 gw1 ga1 n a cg x sa pk fl gv gh gl hC289 (Nat.lt_of_le_of_lt hl0 (by decide)) (Nat.lt_of_le_of_lt hl1 (by decide))) mV_X4_isLooped qM_L_146 rfl h292 rfl rfl hl9.1 (Nat.le_of_ble_eq_true rfl) ⟨⟨Nat.le_of_ble_eq_true rfl, Nat.le_of_ble_eq_true rfl⟩, Nat.le_of_ble_eq_true rfl, Nat.le_of_ble_eq_true rfl⟩ dL_isTold_47 (fun E ce q9 f293 H locs hPX hw hS hce hcv hcl => ?_) (fun v f293 H locs hP hw hS => ?_)
                              · exact hPX.elim
                              · obtain ⟨ev9, hC294, k295⟩ := hP
                                subst ev9
                                refine W.eq (g2 := F0 m 50 ls [.int S1.2.2.2.2.1]) rfl ?_
                                refine lv_aload_n hx hb dL_isTold_50 rfl (lv_at hl9 5 rfl) ?_
                                refine lv_iload hx hb dL_isTold_51 (lv_at hl9 0 rfl) ?_
                                refine lv_iconst (v := 4) hx hb dL_isTold_53 (by decide) ?_
                                refine lv_iadd hx hb dL_isTold_54 ?_
                                refine hp_c (v := 12) (by decide) ?_
                                have h296 : f293 le = some (.inl (cI G, 16, .inl (jE (eS S0) (eS S1)))) := k295 _ _ h291 (Nat.ne_of_beq_eq_false rfl) (hdos _ (List.mem_cons_of_mem _ List.mem_cons_self))
                                refine hp_iald B0 hw h296 (by unfold vp_in; decide) dL_isTold_55 ?_
                                refine hp_c (v := S1.2.2.2.2.1) (rfl) ?_
                                refine lv_iconst (v := 1) hx hb dL_isTold_56 (by decide) ?_
                                refine lv_icmp_ne (tgt := 64) hx hb dL_isTold_57 (by decide) (fun c297 => ?_) (fun c297 => ?_)
                                · refine lv_iconst (v := 0) hx hb dL_isTold_64 (by decide) ?_
                                  refine lv_icmp_ne (tgt := 99) hx hb dL_isTold_65 (by decide) (fun c9 => absurd (hlp1.resolve_right c297) c9) (fun _ => ?_)
                                  refine lv_aload_n hx hb dL_isTold_68 rfl (lv_at hl9 3 rfl) ?_
                                  refine lv_iload hx hb dL_isTold_69 (lv_at hl9 1 rfl) ?_
                                  refine hp_SH (As := [.ref xo, .int 1]) (rest := []) B0 hw hS (c_V_underWay_1 hl G f293 xo ez eo bu nw0 na0 nq0 nr0 nw1 na1 nq1 nr1 bs bp bh bf bl bg S0 S1 gw0 ga0 gw1 ga1 n a cg x sa pk fl gv gh gl hC294 (Nat.lt_of_le_of_lt hl0 (by decide)) (Nat.lt_of_le_of_lt hl1 (by decide)) ) mH_L_underWay qM_L_150 rfl rfl hl9.1 (Nat.le_of_ble_eq_true rfl) ⟨⟨Nat.le_of_ble_eq_true rfl, Nat.le_of_ble_eq_true rfl⟩, Nat.le_of_ble_eq_true rfl, Nat.le_of_ble_eq_true rfl⟩ dL_isTold_71 (fun E ce q9 f298 H locs hPX hw hS hce hcv hcl => ?_) (fun v f298 H locs hP hw hS => ?_)
                                  · exact hPX.elim
                                  · obtain ⟨ev9, hC299, k300⟩ := hP
                                    subst ev9
                                    have hC299 : CXW G f298 xo ez eo bu nw0 na0 nq0 nr0 nw1 na1 nq1 nr1 bs bp bh bf bl bg S0 S1 gw0 ga0 gw1 ga1 n a cg x sa pk fl gv gh gl := hC299
                                    refine W.eq (g2 := F0 m 74 ls [.int ((nI S1.2.2.2.2.2.2.2.2.length))]) rfl ?_
                                    refine lv_aload_n hx hb dL_isTold_74 rfl (lv_at hl9 5 rfl) ?_
                                    refine lv_iload hx hb dL_isTold_75 (lv_at hl9 0 rfl) ?_
                                    refine lv_bipush (v := 7) hx hb dL_isTold_77 (by decide) ?_
                                    refine lv_iadd hx hb dL_isTold_79 ?_
                                    refine hp_c (v := 15) (by decide) ?_
                                    have h301 : f298 le = some (.inl (cI G, 16, .inl (jE (eS S0) (eS S1)))) := k300 _ _ h296 (Nat.ne_of_beq_eq_false rfl) (hdos _ (List.mem_cons_of_mem _ List.mem_cons_self))
                                    refine hp_iald B0 hw h301 (by unfold vp_in; decide) dL_isTold_80 ?_
                                    refine hp_c (v := (nI S1.2.2.2.2.2.2.2.2.length)) (rfl) ?_
                                    refine lv_icmp_ne (tgt := 99) hx hb dL_isTold_81 (by decide) (fun c9 => absurd rfl c9) (fun _ => ?_)
                                    refine lv_aload_n hx hb dL_isTold_84 rfl (lv_at hl9 3 rfl) ?_
                                    refine lv_iload hx hb dL_isTold_85 (lv_at hl9 1 rfl) ?_
                                    have h302 : f298 xo = some (.inr (4, [.ref ez, .ref eo, .ref bu])) := by obtain ⟨_, _, h9⟩ := hC299; exact h9.1
                                    refine hp_V (ci := 4) (As := [.int 1]) (rest := []) B0 hw hS (c_P_missed_1 hl G f298 xo ez eo bu nw0 na0 nq0 nr0 nw1 na1 nq1 nr1 bs bp bh bf bl bg S0 S1 gw0 ga0 gw1 ga1 n a cg x sa pk fl gv gh gl hC299 (Nat.lt_of_le_of_lt hl0 (by decide)) (Nat.lt_of_le_of_lt hl1 (by decide))) mV_X4_missed qM_L_152 rfl h302 rfl rfl hl9.1 (Nat.le_of_ble_eq_true rfl) ⟨⟨Nat.le_of_ble_eq_true rfl, Nat.le_of_ble_eq_true rfl⟩, Nat.le_of_ble_eq_true rfl, Nat.le_of_ble_eq_true rfl⟩ dL_isTold_87 (fun E ce q9 f303 H locs hPX hw hS hce hcv hcl => ?_) (fun v f303 H locs hP hw hS => ?_)
                                    · exact hPX.elim
                                    · obtain ⟨ev9, hC304, k305⟩ := hP
                                      subst ev9
                                      refine W.eq (g2 := F0 m 90 ls [.int S1.2.2.2.2.2.1]) rfl ?_
                                      refine lv_aload_n hx hb dL_isTold_90 rfl (lv_at hl9 5 rfl) ?_
                                      refine lv_iload hx hb dL_isTold_91 (lv_at hl9 0 rfl) ?_
                                      refine lv_iconst (v := 5) hx hb dL_isTold_93 (by decide) ?_
                                      refine lv_iadd hx hb dL_isTold_94 ?_
                                      refine hp_c (v := 13) (by decide) ?_
                                      have h306 : f303 le = some (.inl (cI G, 16, .inl (jE (eS S0) (eS S1)))) := k305 _ _ h301 (Nat.ne_of_beq_eq_false rfl) (hdos _ (List.mem_cons_of_mem _ List.mem_cons_self))
                                      refine hp_iald B0 hw h306 (by unfold vp_in; decide) dL_isTold_95 ?_
                                      refine hp_c (v := S1.2.2.2.2.2.1) (rfl) ?_
                                      refine lv_icmp_eq (tgt := 101) hx hb dL_isTold_96 (by decide) (fun _ => ?_) (fun c9 => absurd rfl c9)
                                      refine lv_iconst (v := 0) hx hb dL_isTold_101 (by decide) ?_
                                      refine lv_istore (lv' := [(7, .int 0), (6, .int 8), (5, .int 1), (0, .ref xo), (1, .ref lq), (2, .ref le), (3, .ref lr), (4, .ref lg)]) hx hb dL_isTold_102 hl9 (by decide) rfl (fun ls hl9 => ?_)
                                      refine lv_iload hx hb dL_isTold_104 (lv_at hl9 0 rfl) ?_
                                      refine lv_bipush (v := 6) hx hb dL_isTold_106 (by decide) ?_
                                      refine lv_icmp_ge (tgt := 140) hx hb dL_isTold_108 (by decide) (fun c9 => absurd c9 (by decide)) (fun _ => ?_)
                                      refine lv_aload_n hx hb dL_isTold_111 rfl (lv_at hl9 3 rfl) ?_
                                      refine lv_iload hx hb dL_isTold_112 (lv_at hl9 2 rfl) ?_
                                      refine lv_iload hx hb dL_isTold_114 (lv_at hl9 0 rfl) ?_
                                      refine hp_SH (As := [.ref xo, .int 1, .int 0]) (rest := []) B0 hw hS (c_V_asked_1 hl G f303 xo ez eo bu nw0 na0 nq0 nr0 nw1 na1 nq1 nr1 bs bp bh bf bl bg S0 S1 gw0 ga0 gw1 ga1 n a cg x sa pk fl gv gh gl hC304 (Nat.lt_of_le_of_lt hl0 (by decide)) (Nat.lt_of_le_of_lt hl1 (by decide)) 0 (by decide)) mH_L_asked qM_L_155 rfl rfl hl9.1 (Nat.le_of_ble_eq_true rfl) ⟨⟨Nat.le_of_ble_eq_true rfl, Nat.le_of_ble_eq_true rfl⟩, Nat.le_of_ble_eq_true rfl, Nat.le_of_ble_eq_true rfl⟩ dL_isTold_116 (fun E ce q9 f307 H locs hPX hw hS hce hcv hcl => ?_) (fun v f307 H locs hP hw hS => ?_)
                                      · exact hPX.elim
                                      · obtain ⟨ev9, hC308, k309⟩ := hP
                                        subst ev9
                                        have hC308 : CXW G f307 xo ez eo bu nw0 na0 nq0 nr0 nw1 na1 nq1 nr1 bs bp bh bf bl bg S0 S1 gw0 ga0 gw1 ga1 n a cg x sa pk fl gv gh gl := hC308
                                        refine W.eq (g2 := F0 m 119 ls [.int ((S1.2.2.2.2.2.2.2.1 0))]) rfl ?_
                                        refine lv_aload_n hx hb dL_isTold_119 rfl (lv_at hl9 4 rfl) ?_
                                        refine lv_bipush (v := 6) hx hb dL_isTold_120 (by decide) ?_
                                        refine lv_iload hx hb dL_isTold_122 (lv_at hl9 2 rfl) ?_
                                        refine lv_imul hx hb dL_isTold_124 ?_
                                        refine hp_c (v := 6) (by decide) ?_
                                        refine lv_iload hx hb dL_isTold_125 (lv_at hl9 0 rfl) ?_
                                        refine lv_iadd hx hb dL_isTold_127 ?_
                                        refine hp_c (v := 6) (by decide) ?_
                                        have h310 : f277 lq = some (.inl (cI G, 12, .inl (j6 S0.2.2.2.2.2.2.2.1 S1.2.2.2.2.2.2.2.1))) := k279 _ _ h276 (Nat.ne_of_beq_eq_false rfl) (hdos _ List.mem_cons_self)
                                        have h311 : f288 lq = some (.inl (cI G, 12, .inl (j6 S0.2.2.2.2.2.2.2.1 S1.2.2.2.2.2.2.2.1))) := k290 _ _ h310 (Nat.ne_of_beq_eq_false rfl) (hdos _ List.mem_cons_self)
                                        have h312 : f293 lq = some (.inl (cI G, 12, .inl (j6 S0.2.2.2.2.2.2.2.1 S1.2.2.2.2.2.2.2.1))) := k295 _ _ h311 (Nat.ne_of_beq_eq_false rfl) (hdos _ List.mem_cons_self)
                                        have h313 : f298 lq = some (.inl (cI G, 12, .inl (j6 S0.2.2.2.2.2.2.2.1 S1.2.2.2.2.2.2.2.1))) := k300 _ _ h312 (Nat.ne_of_beq_eq_false rfl) (hdos _ List.mem_cons_self)
                                        have h314 : f303 lq = some (.inl (cI G, 12, .inl (j6 S0.2.2.2.2.2.2.2.1 S1.2.2.2.2.2.2.2.1))) := k305 _ _ h313 (Nat.ne_of_beq_eq_false rfl) (hdos _ List.mem_cons_self)
                                        have h315 : f307 lq = some (.inl (cI G, 12, .inl (j6 S0.2.2.2.2.2.2.2.1 S1.2.2.2.2.2.2.2.1))) := k309 _ _ h314 (Nat.ne_of_beq_eq_false rfl) (hdos _ List.mem_cons_self)
                                        refine hp_iald B0 hw h315 (by unfold vp_in; decide) dL_isTold_128 ?_
                                        refine hp_c (v := (S1.2.2.2.2.2.2.2.1 0)) (rfl) ?_
                                        refine lv_icmp_eq (tgt := 134) hx hb dL_isTold_129 (by decide) (fun _ => ?_) (fun c9 => absurd rfl c9)
                                        refine lv_iinc (v := 1) (lv' := [(7, .int 1), (6, .int 8), (5, .int 1), (0, .ref xo), (1, .ref lq), (2, .ref le), (3, .ref lr), (4, .ref lg)]) hx hb dL_isTold_134 hl9 (k := 0) rfl (by decide) (by decide) rfl (fun ls hl9 => ?_)
                                        refine lv_goto (tgt := 104) hx hb dL_isTold_137 (by decide) ?_
                                        refine lv_iload hx hb dL_isTold_104 (lv_at hl9 0 rfl) ?_
                                        refine lv_bipush (v := 6) hx hb dL_isTold_106 (by decide) ?_
                                        refine lv_icmp_ge (tgt := 140) hx hb dL_isTold_108 (by decide) (fun c9 => absurd c9 (by decide)) (fun _ => ?_)
                                        refine lv_aload_n hx hb dL_isTold_111 rfl (lv_at hl9 3 rfl) ?_
                                        refine lv_iload hx hb dL_isTold_112 (lv_at hl9 2 rfl) ?_
                                        refine lv_iload hx hb dL_isTold_114 (lv_at hl9 0 rfl) ?_
                                        refine hp_SH (As := [.ref xo, .int 1, .int 1]) (rest := []) B0 hw hS (c_V_asked_1 hl G f307 xo ez eo bu nw0 na0 nq0 nr0 nw1 na1 nq1 nr1 bs bp bh bf bl bg S0 S1 gw0 ga0 gw1 ga1 n a cg x sa pk fl gv gh gl hC308 (Nat.lt_of_le_of_lt hl0 (by decide)) (Nat.lt_of_le_of_lt hl1 (by decide)) 1 (by decide)) mH_L_asked qM_L_155 rfl rfl hl9.1 (Nat.le_of_ble_eq_true rfl) ⟨⟨Nat.le_of_ble_eq_true rfl, Nat.le_of_ble_eq_true rfl⟩, Nat.le_of_ble_eq_true rfl, Nat.le_of_ble_eq_true rfl⟩ dL_isTold_116 (fun E ce q9 f316 H locs hPX hw hS hce hcv hcl => ?_) (fun v f316 H locs hP hw hS => ?_)
                                        · exact hPX.elim
                                        · obtain ⟨ev9, hC317, k318⟩ := hP
                                          subst ev9
                                          have hC317 : CXW G f316 xo ez eo bu nw0 na0 nq0 nr0 nw1 na1 nq1 nr1 bs bp bh bf bl bg S0 S1 gw0 ga0 gw1 ga1 n a cg x sa pk fl gv gh gl := hC317
                                          refine W.eq (g2 := F0 m 119 ls [.int ((S1.2.2.2.2.2.2.2.1 1))]) rfl ?_
                                          refine lv_aload_n hx hb dL_isTold_119 rfl (lv_at hl9 4 rfl) ?_
                                          refine lv_bipush (v := 6) hx hb dL_isTold_120 (by decide) ?_
                                          refine lv_iload hx hb dL_isTold_122 (lv_at hl9 2 rfl) ?_
                                          refine lv_imul hx hb dL_isTold_124 ?_
                                          refine hp_c (v := 6) (by decide) ?_
                                          refine lv_iload hx hb dL_isTold_125 (lv_at hl9 0 rfl) ?_
                                          refine lv_iadd hx hb dL_isTold_127 ?_
                                          refine hp_c (v := 7) (by decide) ?_
                                          have h319 : f316 lq = some (.inl (cI G, 12, .inl (j6 S0.2.2.2.2.2.2.2.1 S1.2.2.2.2.2.2.2.1))) := k318 _ _ h315 (Nat.ne_of_beq_eq_false rfl) (hdos _ List.mem_cons_self)
                                          refine hp_iald B0 hw h319 (by unfold vp_in; decide) dL_isTold_128 ?_
                                          refine hp_c (v := (S1.2.2.2.2.2.2.2.1 1)) (rfl) ?_
                                          refine lv_icmp_eq (tgt := 134) hx hb dL_isTold_129 (by decide) (fun _ => ?_) (fun c9 => absurd rfl c9)
                                          refine lv_iinc (v := 2) (lv' := [(7, .int 2), (6, .int 8), (5, .int 1), (0, .ref xo), (1, .ref lq), (2, .ref le), (3, .ref lr), (4, .ref lg)]) hx hb dL_isTold_134 hl9 (k := 0) rfl (by decide) (by decide) rfl (fun ls hl9 => ?_)
                                          refine lv_goto (tgt := 104) hx hb dL_isTold_137 (by decide) ?_
                                          refine lv_iload hx hb dL_isTold_104 (lv_at hl9 0 rfl) ?_
                                          refine lv_bipush (v := 6) hx hb dL_isTold_106 (by decide) ?_
                                          refine lv_icmp_ge (tgt := 140) hx hb dL_isTold_108 (by decide) (fun c9 => absurd c9 (by decide)) (fun _ => ?_)
                                          refine lv_aload_n hx hb dL_isTold_111 rfl (lv_at hl9 3 rfl) ?_
                                          refine lv_iload hx hb dL_isTold_112 (lv_at hl9 2 rfl) ?_
                                          refine lv_iload hx hb dL_isTold_114 (lv_at hl9 0 rfl) ?_
                                          refine hp_SH (As := [.ref xo, .int 1, .int 2]) (rest := []) B0 hw hS (c_V_asked_1 hl G f316 xo ez eo bu nw0 na0 nq0 nr0 nw1 na1 nq1 nr1 bs bp bh bf bl bg S0 S1 gw0 ga0 gw1 ga1 n a cg x sa pk fl gv gh gl hC317 (Nat.lt_of_le_of_lt hl0 (by decide)) (Nat.lt_of_le_of_lt hl1 (by decide)) 2 (by decide)) mH_L_asked qM_L_155 rfl rfl hl9.1 (Nat.le_of_ble_eq_true rfl) ⟨⟨Nat.le_of_ble_eq_true rfl, Nat.le_of_ble_eq_true rfl⟩, Nat.le_of_ble_eq_true rfl, Nat.le_of_ble_eq_true rfl⟩ dL_isTold_116 (fun E ce q9 f320 H locs hPX hw hS hce hcv hcl => ?_) (fun v f320 H locs hP hw hS => ?_)
                                          · exact hPX.elim
                                          · obtain ⟨ev9, hC321, k322⟩ := hP
                                            subst ev9
                                            have hC321 : CXW G f320 xo ez eo bu nw0 na0 nq0 nr0 nw1 na1 nq1 nr1 bs bp bh bf bl bg S0 S1 gw0 ga0 gw1 ga1 n a cg x sa pk fl gv gh gl := hC321
                                            refine W.eq (g2 := F0 m 119 ls [.int ((S1.2.2.2.2.2.2.2.1 2))]) rfl ?_
                                            refine lv_aload_n hx hb dL_isTold_119 rfl (lv_at hl9 4 rfl) ?_
                                            refine lv_bipush (v := 6) hx hb dL_isTold_120 (by decide) ?_
                                            refine lv_iload hx hb dL_isTold_122 (lv_at hl9 2 rfl) ?_
                                            refine lv_imul hx hb dL_isTold_124 ?_
                                            refine hp_c (v := 6) (by decide) ?_
                                            refine lv_iload hx hb dL_isTold_125 (lv_at hl9 0 rfl) ?_
                                            refine lv_iadd hx hb dL_isTold_127 ?_
                                            refine hp_c (v := 8) (by decide) ?_
                                            have h323 : f320 lq = some (.inl (cI G, 12, .inl (j6 S0.2.2.2.2.2.2.2.1 S1.2.2.2.2.2.2.2.1))) := k322 _ _ h319 (Nat.ne_of_beq_eq_false rfl) (hdos _ List.mem_cons_self)
                                            refine hp_iald B0 hw h323 (by unfold vp_in; decide) dL_isTold_128 ?_
                                            refine hp_c (v := (S1.2.2.2.2.2.2.2.1 2)) (rfl) ?_
                                            refine lv_icmp_eq (tgt := 134) hx hb dL_isTold_129 (by decide) (fun _ => ?_) (fun c9 => absurd rfl c9)
                                            refine lv_iinc (v := 3) (lv' := [(7, .int 3), (6, .int 8), (5, .int 1), (0, .ref xo), (1, .ref lq), (2, .ref le), (3, .ref lr), (4, .ref lg)]) hx hb dL_isTold_134 hl9 (k := 0) rfl (by decide) (by decide) rfl (fun ls hl9 => ?_)
                                            refine lv_goto (tgt := 104) hx hb dL_isTold_137 (by decide) ?_
                                            refine lv_iload hx hb dL_isTold_104 (lv_at hl9 0 rfl) ?_
                                            refine lv_bipush (v := 6) hx hb dL_isTold_106 (by decide) ?_
                                            refine lv_icmp_ge (tgt := 140) hx hb dL_isTold_108 (by decide) (fun c9 => absurd c9 (by decide)) (fun _ => ?_)
                                            refine lv_aload_n hx hb dL_isTold_111 rfl (lv_at hl9 3 rfl) ?_
                                            refine lv_iload hx hb dL_isTold_112 (lv_at hl9 2 rfl) ?_
                                            refine lv_iload hx hb dL_isTold_114 (lv_at hl9 0 rfl) ?_
                                            refine hp_SH (As := [.ref xo, .int 1, .int 3]) (rest := []) B0 hw hS (c_V_asked_1 hl G f320 xo ez eo bu nw0 na0 nq0 nr0 nw1 na1 nq1 nr1 bs bp bh bf bl bg S0 S1 gw0 ga0 gw1 ga1 n a cg x sa pk fl gv gh gl hC321 (Nat.lt_of_le_of_lt hl0 (by decide)) (Nat.lt_of_le_of_lt hl1 (by decide)) 3 (by decide)) mH_L_asked qM_L_155 rfl rfl hl9.1 (Nat.le_of_ble_eq_true rfl) ⟨⟨Nat.le_of_ble_eq_true rfl, Nat.le_of_ble_eq_true rfl⟩, Nat.le_of_ble_eq_true rfl, Nat.le_of_ble_eq_true rfl⟩ dL_isTold_116 (fun E ce q9 f324 H locs hPX hw hS hce hcv hcl => ?_) (fun v f324 H locs hP hw hS => ?_)
                                            · exact hPX.elim
                                            · obtain ⟨ev9, hC325, k326⟩ := hP
                                              subst ev9
                                              have hC325 : CXW G f324 xo ez eo bu nw0 na0 nq0 nr0 nw1 na1 nq1 nr1 bs bp bh bf bl bg S0 S1 gw0 ga0 gw1 ga1 n a cg x sa pk fl gv gh gl := hC325
                                              refine W.eq (g2 := F0 m 119 ls [.int ((S1.2.2.2.2.2.2.2.1 3))]) rfl ?_
                                              refine lv_aload_n hx hb dL_isTold_119 rfl (lv_at hl9 4 rfl) ?_
                                              refine lv_bipush (v := 6) hx hb dL_isTold_120 (by decide) ?_
                                              refine lv_iload hx hb dL_isTold_122 (lv_at hl9 2 rfl) ?_
                                              refine lv_imul hx hb dL_isTold_124 ?_
                                              refine hp_c (v := 6) (by decide) ?_
                                              refine lv_iload hx hb dL_isTold_125 (lv_at hl9 0 rfl) ?_
                                              refine lv_iadd hx hb dL_isTold_127 ?_
                                              refine hp_c (v := 9) (by decide) ?_
                                              have h327 : f324 lq = some (.inl (cI G, 12, .inl (j6 S0.2.2.2.2.2.2.2.1 S1.2.2.2.2.2.2.2.1))) := k326 _ _ h323 (Nat.ne_of_beq_eq_false rfl) (hdos _ List.mem_cons_self)
                                              refine hp_iald B0 hw h327 (by unfold vp_in; decide) dL_isTold_128 ?_
                                              refine hp_c (v := (S1.2.2.2.2.2.2.2.1 3)) (rfl) ?_
                                              refine lv_icmp_eq (tgt := 134) hx hb dL_isTold_129 (by decide) (fun _ => ?_) (fun c9 => absurd rfl c9)
                                              refine lv_iinc (v := 4) (lv' := [(7, .int 4), (6, .int 8), (5, .int 1), (0, .ref xo), (1, .ref lq), (2, .ref le), (3, .ref lr), (4, .ref lg)]) hx hb dL_isTold_134 hl9 (k := 0) rfl (by decide) (by decide) rfl (fun ls hl9 => ?_)
                                              refine lv_goto (tgt := 104) hx hb dL_isTold_137 (by decide) ?_
                                              refine lv_iload hx hb dL_isTold_104 (lv_at hl9 0 rfl) ?_
                                              refine lv_bipush (v := 6) hx hb dL_isTold_106 (by decide) ?_
                                              refine lv_icmp_ge (tgt := 140) hx hb dL_isTold_108 (by decide) (fun c9 => absurd c9 (by decide)) (fun _ => ?_)
                                              refine lv_aload_n hx hb dL_isTold_111 rfl (lv_at hl9 3 rfl) ?_
                                              refine lv_iload hx hb dL_isTold_112 (lv_at hl9 2 rfl) ?_
                                              refine lv_iload hx hb dL_isTold_114 (lv_at hl9 0 rfl) ?_
                                              refine hp_SH (As := [.ref xo, .int 1, .int 4]) (rest := []) B0 hw hS (c_V_asked_1 hl G f324 xo ez eo bu nw0 na0 nq0 nr0 nw1 na1 nq1 nr1 bs bp bh bf bl bg S0 S1 gw0 ga0 gw1 ga1 n a cg x sa pk fl gv gh gl hC325 (Nat.lt_of_le_of_lt hl0 (by decide)) (Nat.lt_of_le_of_lt hl1 (by decide)) 4 (by decide)) mH_L_asked qM_L_155 rfl rfl hl9.1 (Nat.le_of_ble_eq_true rfl) ⟨⟨Nat.le_of_ble_eq_true rfl, Nat.le_of_ble_eq_true rfl⟩, Nat.le_of_ble_eq_true rfl, Nat.le_of_ble_eq_true rfl⟩ dL_isTold_116 (fun E ce q9 f328 H locs hPX hw hS hce hcv hcl => ?_) (fun v f328 H locs hP hw hS => ?_)
                                              · exact hPX.elim
                                              · obtain ⟨ev9, hC329, k330⟩ := hP
                                                subst ev9
                                                have hC329 : CXW G f328 xo ez eo bu nw0 na0 nq0 nr0 nw1 na1 nq1 nr1 bs bp bh bf bl bg S0 S1 gw0 ga0 gw1 ga1 n a cg x sa pk fl gv gh gl := hC329
                                                refine W.eq (g2 := F0 m 119 ls [.int ((S1.2.2.2.2.2.2.2.1 4))]) rfl ?_
                                                refine lv_aload_n hx hb dL_isTold_119 rfl (lv_at hl9 4 rfl) ?_
                                                refine lv_bipush (v := 6) hx hb dL_isTold_120 (by decide) ?_
                                                refine lv_iload hx hb dL_isTold_122 (lv_at hl9 2 rfl) ?_
                                                refine lv_imul hx hb dL_isTold_124 ?_
                                                refine hp_c (v := 6) (by decide) ?_
                                                refine lv_iload hx hb dL_isTold_125 (lv_at hl9 0 rfl) ?_
                                                refine lv_iadd hx hb dL_isTold_127 ?_
                                                refine hp_c (v := 10) (by decide) ?_
                                                have h331 : f328 lq = some (.inl (cI G, 12, .inl (j6 S0.2.2.2.2.2.2.2.1 S1.2.2.2.2.2.2.2.1))) := k330 _ _ h327 (Nat.ne_of_beq_eq_false rfl) (hdos _ List.mem_cons_self)
                                                refine hp_iald B0 hw h331 (by unfold vp_in; decide) dL_isTold_128 ?_
                                                refine hp_c (v := (S1.2.2.2.2.2.2.2.1 4)) (rfl) ?_
                                                refine lv_icmp_eq (tgt := 134) hx hb dL_isTold_129 (by decide) (fun _ => ?_) (fun c9 => absurd rfl c9)
                                                refine lv_iinc (v := 5) (lv' := [(7, .int 5), (6, .int 8), (5, .int 1), (0, .ref xo), (1, .ref lq), (2, .ref le), (3, .ref lr), (4, .ref lg)]) hx hb dL_isTold_134 hl9 (k := 0) rfl (by decide) (by decide) rfl (fun ls hl9 => ?_)
                                                refine lv_goto (tgt := 104) hx hb dL_isTold_137 (by decide) ?_
                                                refine lv_iload hx hb dL_isTold_104 (lv_at hl9 0 rfl) ?_
                                                refine lv_bipush (v := 6) hx hb dL_isTold_106 (by decide) ?_
                                                refine lv_icmp_ge (tgt := 140) hx hb dL_isTold_108 (by decide) (fun c9 => absurd c9 (by decide)) (fun _ => ?_)
                                                refine lv_aload_n hx hb dL_isTold_111 rfl (lv_at hl9 3 rfl) ?_
                                                refine lv_iload hx hb dL_isTold_112 (lv_at hl9 2 rfl) ?_
                                                refine lv_iload hx hb dL_isTold_114 (lv_at hl9 0 rfl) ?_
                                                refine hp_SH (As := [.ref xo, .int 1, .int 5]) (rest := []) B0 hw hS (c_V_asked_1 hl G f328 xo ez eo bu nw0 na0 nq0 nr0 nw1 na1 nq1 nr1 bs bp bh bf bl bg S0 S1 gw0 ga0 gw1 ga1 n a cg x sa pk fl gv gh gl hC329 (Nat.lt_of_le_of_lt hl0 (by decide)) (Nat.lt_of_le_of_lt hl1 (by decide)) 5 (by decide)) mH_L_asked qM_L_155 rfl rfl hl9.1 (Nat.le_of_ble_eq_true rfl) ⟨⟨Nat.le_of_ble_eq_true rfl, Nat.le_of_ble_eq_true rfl⟩, Nat.le_of_ble_eq_true rfl, Nat.le_of_ble_eq_true rfl⟩ dL_isTold_116 (fun E ce q9 f332 H locs hPX hw hS hce hcv hcl => ?_) (fun v f332 H locs hP hw hS => ?_)
                                                · exact hPX.elim
                                                · obtain ⟨ev9, hC333, k334⟩ := hP
                                                  subst ev9
                                                  have hC333 : CXW G f332 xo ez eo bu nw0 na0 nq0 nr0 nw1 na1 nq1 nr1 bs bp bh bf bl bg S0 S1 gw0 ga0 gw1 ga1 n a cg x sa pk fl gv gh gl := hC333
                                                  refine W.eq (g2 := F0 m 119 ls [.int ((S1.2.2.2.2.2.2.2.1 5))]) rfl ?_
                                                  refine lv_aload_n hx hb dL_isTold_119 rfl (lv_at hl9 4 rfl) ?_
                                                  refine lv_bipush (v := 6) hx hb dL_isTold_120 (by decide) ?_
                                                  refine lv_iload hx hb dL_isTold_122 (lv_at hl9 2 rfl) ?_
                                                  refine lv_imul hx hb dL_isTold_124 ?_
                                                  refine hp_c (v := 6) (by decide) ?_
                                                  refine lv_iload hx hb dL_isTold_125 (lv_at hl9 0 rfl) ?_
                                                  refine lv_iadd hx hb dL_isTold_127 ?_
                                                  refine hp_c (v := 11) (by decide) ?_
                                                  have h335 : f332 lq = some (.inl (cI G, 12, .inl (j6 S0.2.2.2.2.2.2.2.1 S1.2.2.2.2.2.2.2.1))) := k334 _ _ h331 (Nat.ne_of_beq_eq_false rfl) (hdos _ List.mem_cons_self)
                                                  refine hp_iald B0 hw h335 (by unfold vp_in; decide) dL_isTold_128 ?_
                                                  refine hp_c (v := (S1.2.2.2.2.2.2.2.1 5)) (rfl) ?_
                                                  refine lv_icmp_eq (tgt := 134) hx hb dL_isTold_129 (by decide) (fun _ => ?_) (fun c9 => absurd rfl c9)
                                                  refine lv_iinc (v := 6) (lv' := [(7, .int 6), (6, .int 8), (5, .int 1), (0, .ref xo), (1, .ref lq), (2, .ref le), (3, .ref lr), (4, .ref lg)]) hx hb dL_isTold_134 hl9 (k := 0) rfl (by decide) (by decide) rfl (fun ls hl9 => ?_)
                                                  refine lv_goto (tgt := 104) hx hb dL_isTold_137 (by decide) ?_
                                                  refine lv_iload hx hb dL_isTold_104 (lv_at hl9 0 rfl) ?_
                                                  refine lv_bipush (v := 6) hx hb dL_isTold_106 (by decide) ?_
                                                  refine lv_icmp_ge (tgt := 140) hx hb dL_isTold_108 (by decide) (fun _ => ?_) (fun c9 => absurd (by decide) c9)
                                                  refine lv_iinc (v := 2) (lv' := [(5, .int 2), (7, .int 6), (6, .int 8), (0, .ref xo), (1, .ref lq), (2, .ref le), (3, .ref lr), (4, .ref lg)]) hx hb dL_isTold_140 hl9 (k := 2) rfl (by decide) (by decide) rfl (fun ls hl9 => ?_)
                                                  refine lv_goto (tgt := 3) hx hb dL_isTold_143 (by decide) ?_
                                                  refine lv_iload hx hb dL_isTold_3 (lv_at hl9 0 rfl) ?_
                                                  refine lv_iconst (v := 2) hx hb dL_isTold_5 (by decide) ?_
                                                  refine lv_icmp_ge (tgt := 146) hx hb dL_isTold_6 (by decide) (fun _ => ?_) (fun c9 => absurd (by decide) c9)
                                                  refine lv_iconst (v := 0) hx hb dL_isTold_146 (by decide) ?_
                                                  refine lv_istore (lv' := [(5, .int 0), (7, .int 6), (6, .int 8), (0, .ref xo), (1, .ref lq), (2, .ref le), (3, .ref lr), (4, .ref lg)]) hx hb dL_isTold_147 hl9 (by decide) rfl (fun ls hl9 => ?_)
                                                  refine hp_cs (c2 := 34 + 0 * 0) (s2 := 204 + 0 * 0) rfl rfl ?_
                                                  refine hp_forC (nL := 8) (pc := 149) (fun j f9 lv9 => CXW G f9 xo ez eo bu nw0 na0 nq0 nr0 nw1 na1 nq1 nr1 bs bp bh bf bl bg S0 S1 gw0 ga0 gw1 ga1 n a cg x sa pk fl gv gh gl ∧ hKn [xo, ez, eo, bu, nw0, na0, nq0, nr0, nw1, na1, nq1, nr1, bs, bp, bh, bf, bl, bg] f f9 ∧ lv9 = [(5, .int (nI j)), (0, .ref xo), (1, .ref lq), (2, .ref le), (3, .ref lr), (4, .ref lg)]) cg 34 204 0 0 (fun j f9 lv9 H locs ls hj hI hw hS hl9 ih => ?_) (fun f9 lv9 H locs ls hI hw hS hl9 => ?_) cg 0 (Nat.zero_add _) f332 _ _ _ ls ⟨hC333, ((show hKn [xo, ez, eo, bu, nw0, na0, nq0, nr0, nw1, na1, nq1, nr1, bs, bp, bh, bf, bl, bg] f f1 from (hKn.mono k3 (fun _ h9 => h9))).tr ((show hKn [xo, ez, eo, bu, nw0, na0, nq0, nr0, nw1, na1, nq1, nr1, bs, bp, bh, bf, bl, bg] f1 f6 from (hKn.mono k8 (fun _ h9 => h9))).tr ((show hKn [xo, ez, eo, bu, nw0, na0, nq0, nr0, nw1, na1, nq1, nr1, bs, bp, bh, bf, bl, bg] f6 f11 from (hKn.mono k13 (fun _ h9 => h9))).tr ((show hKn [xo, ez, eo, bu, nw0, na0, nq0, nr0, nw1, na1, nq1, nr1, bs, bp, bh, bf, bl, bg] f11 f239 from (hKn.mono k241 (fun _ h9 => h9))).tr ((show hKn [xo, ez, eo, bu, nw0, na0, nq0, nr0, nw1, na1, nq1, nr1, bs, bp, bh, bf, bl, bg] f239 f244 from (hKn.mono k246 (fun _ h9 => h9))).tr ((show hKn [xo, ez, eo, bu, nw0, na0, nq0, nr0, nw1, na1, nq1, nr1, bs, bp, bh, bf, bl, bg] f244 f248 from (hKn.mono k250 (fun _ h9 => h9))).tr ((show hKn [xo, ez, eo, bu, nw0, na0, nq0, nr0, nw1, na1, nq1, nr1, bs, bp, bh, bf, bl, bg] f248 f257 from (hKn.mono k259 (fun _ h9 => h9))).tr ((show hKn [xo, ez, eo, bu, nw0, na0, nq0, nr0, nw1, na1, nq1, nr1, bs, bp, bh, bf, bl, bg] f257 f261 from (hKn.mono k263 (fun _ h9 => h9))).tr ((show hKn [xo, ez, eo, bu, nw0, na0, nq0, nr0, nw1, na1, nq1, nr1, bs, bp, bh, bf, bl, bg] f261 f265 from (hKn.mono k267 (fun _ h9 => h9))).tr ((show hKn [xo, ez, eo, bu, nw0, na0, nq0, nr0, nw1, na1, nq1, nr1, bs, bp, bh, bf, bl, bg] f265 f269 from (hKn.mono k271 (fun _ h9 => h9))).tr ((show hKn [xo, ez, eo, bu, nw0, na0, nq0, nr0, nw1, na1, nq1, nr1, bs, bp, bh, bf, bl, bg] f269 f273 from (hKn.mono k275 (fun _ h9 => h9))).tr ((show hKn [xo, ez, eo, bu, nw0, na0, nq0, nr0, nw1, na1, nq1, nr1, bs, bp, bh, bf, bl, bg] f273 f277 from (hKn.mono k279 (fun _ h9 => h9))).tr ((show hKn [xo, ez, eo, bu, nw0, na0, nq0, nr0, nw1, na1, nq1, nr1, bs, bp, bh, bf, bl, bg] f277 f288 from (hKn.mono k290 (fun _ h9 => h9))).tr ((show hKn [xo, ez, eo, bu, nw0, na0, nq0, nr0, nw1, na1, nq1, nr1, bs, bp, bh, bf, bl, bg] f288 f293 from (hKn.mono k295 (fun _ h9 => h9))).tr ((show hKn [xo, ez, eo, bu, nw0, na0, nq0, nr0, nw1, na1, nq1, nr1, bs, bp, bh, bf, bl, bg] f293 f298 from (hKn.mono k300 (fun _ h9 => h9))).tr ((show hKn [xo, ez, eo, bu, nw0, na0, nq0, nr0, nw1, na1, nq1, nr1, bs, bp, bh, bf, bl, bg] f298 f303 from (hKn.mono k305 (fun _ h9 => h9))).tr ((show hKn [xo, ez, eo, bu, nw0, na0, nq0, nr0, nw1, na1, nq1, nr1, bs, bp, bh, bf, bl, bg] f303 f307 from (hKn.mono k309 (fun _ h9 => h9))).tr ((show hKn [xo, ez, eo, bu, nw0, na0, nq0, nr0, nw1, na1, nq1, nr1, bs, bp, bh, bf, bl, bg] f307 f316 from (hKn.mono k318 (fun _ h9 => h9))).tr ((show hKn [xo, ez, eo, bu, nw0, na0, nq0, nr0, nw1, na1, nq1, nr1, bs, bp, bh, bf, bl, bg] f316 f320 from (hKn.mono k322 (fun _ h9 => h9))).tr ((show hKn [xo, ez, eo, bu, nw0, na0, nq0, nr0, nw1, na1, nq1, nr1, bs, bp, bh, bf, bl, bg] f320 f324 from (hKn.mono k326 (fun _ h9 => h9))).tr ((show hKn [xo, ez, eo, bu, nw0, na0, nq0, nr0, nw1, na1, nq1, nr1, bs, bp, bh, bf, bl, bg] f324 f328 from (hKn.mono k330 (fun _ h9 => h9))).tr (show hKn [xo, ez, eo, bu, nw0, na0, nq0, nr0, nw1, na1, nq1, nr1, bs, bp, bh, bf, bl, bg] f328 f332 from (hKn.mono k334 (fun _ h9 => h9)))))))))))))))))))))))), rfl⟩ hw hS (lv_sub hl9 [0, 3, 4, 5, 6, 7] rfl)
                                                  · obtain ⟨hC9, hk9, el9⟩ := hI
                                                    rw [el9] at hl9
                                                    refine lv_iload hx hb dL_isTold_149 (lv_at hl9 0 rfl) ?_
                                                    refine lv_aload hx hb dL_isTold_151 (lv_at hl9 5 rfl) ?_
                                                    refine lv_bipush (v := 9) hx hb dL_isTold_153 (by decide) ?_
                                                    have h336 : f9 lg = some (.inl (cI G, 10, .inl (g10 tk gl a n x cg))) := hk9 _ _ k_lg (Nat.ne_of_beq_eq_false rfl) (hdos _ (List.mem_cons_of_mem _ (List.mem_cons_of_mem _ (List.mem_cons_of_mem _ List.mem_cons_self))))
                                                    refine hp_iald B0 hw h336 (by unfold vp_in; decide) dL_isTold_155 ?_
                                                    refine hp_c (v := (nI cg)) (rfl) ?_
                                                    refine lv_icmp_ge (tgt := 180) hx hb dL_isTold_156 (by decide) (fun c9 => absurd c9 (nI_ge hj (by omega))) (fun _ => ?_)
                                                    refine lv_aload_n hx hb dL_isTold_159 rfl (lv_at hl9 1 rfl) ?_
                                                    refine lv_iload hx hb dL_isTold_160 (lv_at hl9 0 rfl) ?_
                                                    refine hp_SH (As := [.ref xo, .int (nI j)]) (rest := []) B0 hw hS (c_V_givenAt_ok hl G f9 xo ez eo bu nw0 na0 nq0 nr0 nw1 na1 nq1 nr1 bs bp bh bf bl bg S0 S1 gw0 ga0 gw1 ga1 n a cg x sa pk fl gv gh gl hC9 (Nat.lt_of_le_of_lt hl0 (by decide)) (Nat.lt_of_le_of_lt hl1 (by decide)) j (by omega)) mH_L_givenAt qM_L_158 rfl rfl hl9.1 (Nat.le_of_ble_eq_true rfl) ⟨⟨Nat.le_of_ble_eq_true rfl, Nat.le_of_ble_eq_true rfl⟩, (by omega), (by omega)⟩ dL_isTold_162 (fun E ce q9 f337 H locs hPX hw hS hce hcv hcl => ?_) (fun v f337 H locs hP hw hS => ?_)
                                                    · exact hPX.elim
                                                    · obtain ⟨ev9, hC338, k339⟩ := hP
                                                      subst ev9
                                                      have hC338 : CXW G f337 xo ez eo bu nw0 na0 nq0 nr0 nw1 na1 nq1 nr1 bs bp bh bf bl bg S0 S1 gw0 ga0 gw1 ga1 n a cg x sa pk fl gv gh gl := hC338
                                                      refine W.eq (g2 := F0 m 165 ls [.int ((nI (gv j)))]) rfl ?_
                                                      refine lv_aload_n hx hb dL_isTold_165 rfl (lv_at hl9 4 rfl) ?_
                                                      refine lv_iload hx hb dL_isTold_166 (lv_at hl9 0 rfl) ?_
                                                      have h340 : f9 lr = some (.inl (cI G, 60, .inl (nf gv))) := hk9 _ _ k_lr (Nat.ne_of_beq_eq_false rfl) (hdos _ (List.mem_cons_of_mem _ (List.mem_cons_of_mem _ List.mem_cons_self)))
                                                      have h341 : f337 lr = some (.inl (cI G, 60, .inl (nf gv))) := k339 _ _ h340 (Nat.ne_of_beq_eq_false rfl) (hdos _ (List.mem_cons_of_mem _ (List.mem_cons_of_mem _ List.mem_cons_self)))
                                                      refine hp_iald B0 hw h341 (vp_in_nI (show j < 60 by omega) (by omega)) dL_isTold_168 ?_
                                                      refine hp_c (v := (nI (gv j))) (nf_at (nI_clamp (by omega))) ?_
                                                      refine lv_icmp_eq (tgt := 174) hx hb dL_isTold_169 (by decide) (fun _ => ?_) (fun c9 => absurd rfl c9)
                                                      refine lv_iinc (v := (nI (j + 1))) (lv' := [(5, .int (nI (j + 1))), (0, .ref xo), (1, .ref lq), (2, .ref le), (3, .ref lr), (4, .ref lg)]) hx hb dL_isTold_174 hl9 (k := 0) rfl (nI_1 j) (by decide) rfl (fun ls hl9 => ?_)
                                                      refine lv_goto (tgt := 149) hx hb dL_isTold_177 (by decide) ?_
                                                      exact hp_cs (by omega) (by omega) (ih _ _ H locs ls ⟨hC338, ((show hKn [xo, ez, eo, bu, nw0, na0, nq0, nr0, nw1, na1, nq1, nr1, bs, bp, bh, bf, bl, bg] f f9 from (hKn.mono hk9 (fun _ h9 => h9))).tr (show hKn [xo, ez, eo, bu, nw0, na0, nq0, nr0, nw1, na1, nq1, nr1, bs, bp, bh, bf, bl, bg] f9 f337 from (hKn.mono k339 (fun _ h9 => h9)))), rfl⟩ hw hS (lv_sub hl9 [0, 1, 2, 3, 4, 5] rfl))
                                                  · obtain ⟨hC9, hk9, el9⟩ := hI
                                                    rw [el9] at hl9
                                                    refine W.widen (k := 34 + 60 * 0) (n := 204 + 60 * 0) (by omega) (by omega) ?_
                                                    refine hp_cs (c2 := 34) (s2 := 204) rfl rfl ?_
                                                    refine lv_iload hx hb dL_isTold_149 (lv_at hl9 0 rfl) ?_
                                                    refine lv_aload hx hb dL_isTold_151 (lv_at hl9 5 rfl) ?_
                                                    refine lv_bipush (v := 9) hx hb dL_isTold_153 (by decide) ?_
                                                    have h342 : f9 lg = some (.inl (cI G, 10, .inl (g10 tk gl a n x cg))) := hk9 _ _ k_lg (Nat.ne_of_beq_eq_false rfl) (hdos _ (List.mem_cons_of_mem _ (List.mem_cons_of_mem _ (List.mem_cons_of_mem _ List.mem_cons_self))))
                                                    refine hp_iald B0 hw h342 (by unfold vp_in; decide) dL_isTold_155 ?_
                                                    refine hp_c (v := (nI cg)) (rfl) ?_
                                                    refine lv_icmp_ge (tgt := 180) hx hb dL_isTold_156 (by decide) (fun _ => ?_) (fun c9 => absurd (nI_le (Nat.le_refl _) (by omega)) c9)
                                                    refine lv_aload_n hx hb dL_isTold_180 rfl (lv_at hl9 1 rfl) ?_
                                                    have h343 : f9 xo = some (.inr (4, [.ref ez, .ref eo, .ref bu])) := by obtain ⟨_, _, h9⟩ := hC9; exact h9.1
                                                    refine hp_V (ci := 4) (As := []) (rest := []) B0 hw hS (c_P_given_ok hl G f9 xo ez eo bu nw0 na0 nq0 nr0 nw1 na1 nq1 nr1 bs bp bh bf bl bg S0 S1 gw0 ga0 gw1 ga1 n a cg x sa pk fl gv gh gl hC9 (Nat.lt_of_le_of_lt hl0 (by decide)) (Nat.lt_of_le_of_lt hl1 (by decide))) mV_X4_given qM_L_160 rfl h343 rfl rfl hl9.1 (Nat.le_of_ble_eq_true rfl) ⟨⟨Nat.le_of_ble_eq_true rfl, Nat.le_of_ble_eq_true rfl⟩, Nat.le_of_ble_eq_true rfl, Nat.le_of_ble_eq_true rfl⟩ dL_isTold_181 (fun E ce q9 f344 H locs hPX hw hS hce hcv hcl => ?_) (fun v f344 H locs hP hw hS => ?_)
                                                    · exact hPX.elim
                                                    · obtain ⟨ev9, hC345, k346⟩ := hP
                                                      subst ev9
                                                      refine W.eq (g2 := F0 m 184 ls [.int (nI cg)]) rfl ?_
                                                      refine lv_aload hx hb dL_isTold_184 (lv_at hl9 5 rfl) ?_
                                                      refine lv_bipush (v := 9) hx hb dL_isTold_186 (by decide) ?_
                                                      have h347 : f344 lg = some (.inl (cI G, 10, .inl (g10 tk gl a n x cg))) := k346 _ _ h342 (Nat.ne_of_beq_eq_false rfl) (hdos _ (List.mem_cons_of_mem _ (List.mem_cons_of_mem _ (List.mem_cons_of_mem _ List.mem_cons_self))))
                                                      refine hp_iald B0 hw h347 (by unfold vp_in; decide) dL_isTold_188 ?_
                                                      refine hp_c (v := (nI cg)) (rfl) ?_
                                                      refine lv_icmp_ne (tgt := 308) hx hb dL_isTold_189 (by decide) (fun c9 => absurd rfl c9) (fun _ => ?_)
                                                      refine lv_aload_n hx hb dL_isTold_192 rfl (lv_at hl9 1 rfl) ?_
                                                      have h348 : f344 xo = some (.inr (4, [.ref ez, .ref eo, .ref bu])) := by obtain ⟨_, _, h9⟩ := hC345; exact h9.1
                                                      refine hp_V (ci := 4) (As := []) (rest := []) B0 hw hS (c_P_next_ok hl G f344 xo ez eo bu nw0 na0 nq0 nr0 nw1 na1 nq1 nr1 bs bp bh bf bl bg S0 S1 gw0 ga0 gw1 ga1 n a cg x sa pk fl gv gh gl hC345 (Nat.lt_of_le_of_lt hl0 (by decide)) (Nat.lt_of_le_of_lt hl1 (by decide))) mV_X4_next qM_L_164 rfl h348 rfl rfl hl9.1 (Nat.le_of_ble_eq_true rfl) ⟨⟨Nat.le_of_ble_eq_true rfl, Nat.le_of_ble_eq_true rfl⟩, Nat.le_of_ble_eq_true rfl, Nat.le_of_ble_eq_true rfl⟩ dL_isTold_193 (fun E ce q9 f349 H locs hPX hw hS hce hcv hcl => ?_) (fun v f349 H locs hP hw hS => ?_)
                                                      · exact hPX.elim
                                                      · obtain ⟨ev9, hC350, k351⟩ := hP
                                                        subst ev9
                                                        refine W.eq (g2 := F0 m 196 ls [.int (nI x)]) rfl ?_
                                                        refine lv_aload hx hb dL_isTold_196 (lv_at hl9 5 rfl) ?_
                                                        refine lv_bipush (v := 8) hx hb dL_isTold_198 (by decide) ?_
                                                        have h352 : f349 lg = some (.inl (cI G, 10, .inl (g10 tk gl a n x cg))) := k351 _ _ h347 (Nat.ne_of_beq_eq_false rfl) (hdos _ (List.mem_cons_of_mem _ (List.mem_cons_of_mem _ (List.mem_cons_of_mem _ List.mem_cons_self))))
                                                        refine hp_iald B0 hw h352 (by unfold vp_in; decide) dL_isTold_200 ?_
                                                        refine hp_c (v := (nI x)) (rfl) ?_
                                                        refine lv_icmp_ne (tgt := 308) hx hb dL_isTold_201 (by decide) (fun c9 => absurd rfl c9) (fun _ => ?_)
                                                        refine lv_aload_n hx hb dL_isTold_204 rfl (lv_at hl9 1 rfl) ?_
                                                        refine lv_aload hx hb dL_isTold_205 (lv_at hl9 5 rfl) ?_
                                                        refine lv_bipush (v := 9) hx hb dL_isTold_207 (by decide) ?_
                                                        refine hp_iald B0 hw h352 (by unfold vp_in; decide) dL_isTold_209 ?_
                                                        refine hp_c (v := (nI cg)) (rfl) ?_
                                                        refine hp_SH (As := [.ref xo, .int (nI cg)]) (rest := []) B0 hw hS (c_V_givenAt_I hl G f349 xo ez eo bu nw0 na0 nq0 nr0 nw1 na1 nq1 nr1 bs bp bh bf bl bg S0 S1 gw0 ga0 gw1 ga1 n a cg x sa pk fl gv gh gl hC350 (Nat.lt_of_le_of_lt hl0 (by decide)) (Nat.lt_of_le_of_lt hl1 (by decide)) (nI cg) (by rw [nI_toInt (by omega)]; omega)) mH_L_givenAt qM_L_158 rfl rfl hl9.1 (Nat.le_of_ble_eq_true rfl) ⟨⟨Nat.le_of_ble_eq_true rfl, Nat.le_of_ble_eq_true rfl⟩, Nat.le_of_ble_eq_true rfl, Nat.le_of_ble_eq_true rfl⟩ dL_isTold_210 (fun E ce q9 f353 H locs hPX hw hS hce hcv hcl => ?_) (fun v f353 H locs hP hw hS => ?_)
                                                        · exact hPX.elim
                                                        · obtain ⟨ev9, hC354, k355⟩ := hP
                                                          subst ev9
                                                          have hC354 : CXW G f353 xo ez eo bu nw0 na0 nq0 nr0 nw1 na1 nq1 nr1 bs bp bh bf bl bg S0 S1 gw0 ga0 gw1 ga1 n a cg x sa pk fl gv gh gl := hC354
                                                          refine W.eq (g2 := F0 m 213 ls [.int (-71)]) rfl ?_
                                                          refine lv_bipush (v := (-71)) hx hb dL_isTold_213 (by decide) ?_
                                                          refine lv_icmp_ne (tgt := 308) hx hb dL_isTold_215 (by decide) (fun c9 => absurd (by decide) c9) (fun _ => ?_)
                                                          refine lv_aload_n hx hb dL_isTold_218 rfl (lv_at hl9 1 rfl) ?_
                                                          refine lv_iconst (v := (-1)) hx hb dL_isTold_219 (by decide) ?_
                                                          refine hp_SH (As := [.ref xo, .int (-1)]) (rest := []) B0 hw hS (c_V_givenAt_I hl G f353 xo ez eo bu nw0 na0 nq0 nr0 nw1 na1 nq1 nr1 bs bp bh bf bl bg S0 S1 gw0 ga0 gw1 ga1 n a cg x sa pk fl gv gh gl hC354 (Nat.lt_of_le_of_lt hl0 (by decide)) (Nat.lt_of_le_of_lt hl1 (by decide)) (-1) (fun h9 => absurd h9.1 (by decide))) mH_L_givenAt qM_L_158 rfl rfl hl9.1 (Nat.le_of_ble_eq_true rfl) ⟨⟨Nat.le_of_ble_eq_true rfl, Nat.le_of_ble_eq_true rfl⟩, Nat.le_of_ble_eq_true rfl, Nat.le_of_ble_eq_true rfl⟩ dL_isTold_220 (fun E ce q9 f356 H locs hPX hw hS hce hcv hcl => ?_) (fun v f356 H locs hP hw hS => ?_)
                                                          · exact hPX.elim
                                                          · obtain ⟨ev9, hC357, k358⟩ := hP
                                                            subst ev9
                                                            have hC357 : CXW G f356 xo ez eo bu nw0 na0 nq0 nr0 nw1 na1 nq1 nr1 bs bp bh bf bl bg S0 S1 gw0 ga0 gw1 ga1 n a cg x sa pk fl gv gh gl := hC357
                                                            refine W.eq (g2 := F0 m 223 ls [.int (-71)]) rfl ?_
                                                            refine lv_bipush (v := (-71)) hx hb dL_isTold_223 (by decide) ?_
                                                            refine lv_icmp_ne (tgt := 308) hx hb dL_isTold_225 (by decide) (fun c9 => absurd (by decide) c9) (fun _ => ?_)
                                                            refine lv_aload_n hx hb dL_isTold_228 rfl (lv_at hl9 1 rfl) ?_
                                                            refine lv_ldc (v := 2147483647) hx hb B0.2.2.2.1 (B0.2.2.2.2.1 _ qK_L_68) dL_isTold_229 ?_
                                                            refine hp_SH (As := [.ref xo, .int 2147483647]) (rest := []) B0 hw hS (c_V_givenAt_I hl G f356 xo ez eo bu nw0 na0 nq0 nr0 nw1 na1 nq1 nr1 bs bp bh bf bl bg S0 S1 gw0 ga0 gw1 ga1 n a cg x sa pk fl gv gh gl hC357 (Nat.lt_of_le_of_lt hl0 (by decide)) (Nat.lt_of_le_of_lt hl1 (by decide)) 2147483647 (fun h9 => by have h8 := h9.2; rw [show (2147483647 : Int32).toInt = 2147483647 from by decide] at h8; omega)) mH_L_givenAt qM_L_158 rfl rfl hl9.1 (Nat.le_of_ble_eq_true rfl) ⟨⟨Nat.le_of_ble_eq_true rfl, Nat.le_of_ble_eq_true rfl⟩, Nat.le_of_ble_eq_true rfl, Nat.le_of_ble_eq_true rfl⟩ dL_isTold_231 (fun E ce q9 f359 H locs hPX hw hS hce hcv hcl => ?_) (fun v f359 H locs hP hw hS => ?_)
                                                            · exact hPX.elim
                                                            · obtain ⟨ev9, hC360, k361⟩ := hP
                                                              subst ev9
                                                              have hC360 : CXW G f359 xo ez eo bu nw0 na0 nq0 nr0 nw1 na1 nq1 nr1 bs bp bh bf bl bg S0 S1 gw0 ga0 gw1 ga1 n a cg x sa pk fl gv gh gl := hC360
                                                              refine W.eq (g2 := F0 m 234 ls [.int (-71)]) rfl ?_
                                                              refine lv_bipush (v := (-71)) hx hb dL_isTold_234 (by decide) ?_
                                                              refine lv_icmp_ne (tgt := 308) hx hb dL_isTold_236 (by decide) (fun c9 => absurd (by decide) c9) (fun _ => ?_)
                                                              refine lv_aload_n hx hb dL_isTold_239 rfl (lv_at hl9 1 rfl) ?_
                                                              refine lv_iconst (v := 2) hx hb dL_isTold_240 (by decide) ?_
                                                              refine hp_SH (As := [.ref xo, .int 2]) (rest := []) B0 hw hS (c_V_stateOf_E hl G f359 xo ez eo bu nw0 na0 nq0 nr0 nw1 na1 nq1 nr1 bs bp bh bf bl bg S0 S1 gw0 ga0 gw1 ga1 n a cg x sa pk fl gv gh gl hC360 (Nat.lt_of_le_of_lt hl0 (by decide)) (Nat.lt_of_le_of_lt hl1 (by decide)) 2 (by decide)) mH_L_stateOf qM_L_141 rfl rfl hl9.1 (Nat.le_of_ble_eq_true rfl) ⟨⟨Nat.le_of_ble_eq_true rfl, Nat.le_of_ble_eq_true rfl⟩, Nat.le_of_ble_eq_true rfl, Nat.le_of_ble_eq_true rfl⟩ dL_isTold_241 (fun E ce q9 f362 H locs hPX hw hS hce hcv hcl => ?_) (fun v f362 H locs hP hw hS => ?_)
                                                              · exact hPX.elim
                                                              · obtain ⟨ev9, hC363, k364⟩ := hP
                                                                subst ev9
                                                                have hC363 : CXW G f362 xo ez eo bu nw0 na0 nq0 nr0 nw1 na1 nq1 nr1 bs bp bh bf bl bg S0 S1 gw0 ga0 gw1 ga1 n a cg x sa pk fl gv gh gl := hC363
                                                                refine W.eq (g2 := F0 m 244 ls [.int (-71)]) rfl ?_
                                                                refine lv_bipush (v := (-71)) hx hb dL_isTold_244 (by decide) ?_
                                                                refine lv_icmp_ne (tgt := 308) hx hb dL_isTold_246 (by decide) (fun c9 => absurd (by decide) c9) (fun _ => ?_)
                                                                refine lv_aload_n hx hb dL_isTold_249 rfl (lv_at hl9 1 rfl) ?_
                                                                refine lv_ldc (v := (-2147483648)) hx hb B0.2.2.2.1 (B0.2.2.2.2.1 _ qK_L_67) dL_isTold_250 ?_
                                                                refine hp_SH (As := [.ref xo, .int (-2147483648)]) (rest := []) B0 hw hS (c_V_stateOf_E hl G f362 xo ez eo bu nw0 na0 nq0 nr0 nw1 na1 nq1 nr1 bs bp bh bf bl bg S0 S1 gw0 ga0 gw1 ga1 n a cg x sa pk fl gv gh gl hC363 (Nat.lt_of_le_of_lt hl0 (by decide)) (Nat.lt_of_le_of_lt hl1 (by decide)) (-2147483648) (by decide)) mH_L_stateOf qM_L_141 rfl rfl hl9.1 (Nat.le_of_ble_eq_true rfl) ⟨⟨Nat.le_of_ble_eq_true rfl, Nat.le_of_ble_eq_true rfl⟩, Nat.le_of_ble_eq_true rfl, Nat.le_of_ble_eq_true rfl⟩ dL_isTold_252 (fun E ce q9 f365 H locs hPX hw hS hce hcv hcl => ?_) (fun v f365 H locs hP hw hS => ?_)
                                                                · exact hPX.elim
                                                                · obtain ⟨ev9, hC366, k367⟩ := hP
                                                                  subst ev9
                                                                  have hC366 : CXW G f365 xo ez eo bu nw0 na0 nq0 nr0 nw1 na1 nq1 nr1 bs bp bh bf bl bg S0 S1 gw0 ga0 gw1 ga1 n a cg x sa pk fl gv gh gl := hC366
                                                                  refine W.eq (g2 := F0 m 255 ls [.int (-71)]) rfl ?_
                                                                  refine lv_bipush (v := (-71)) hx hb dL_isTold_255 (by decide) ?_
                                                                  refine lv_icmp_ne (tgt := 308) hx hb dL_isTold_257 (by decide) (fun c9 => absurd (by decide) c9) (fun _ => ?_)
                                                                  refine lv_aload_n hx hb dL_isTold_260 rfl (lv_at hl9 1 rfl) ?_
                                                                  refine lv_iconst (v := 0) hx hb dL_isTold_261 (by decide) ?_
                                                                  refine lv_bipush (v := 6) hx hb dL_isTold_262 (by decide) ?_
                                                                  refine hp_SH (As := [.ref xo, .int 0, .int 6]) (rest := []) B0 hw hS (c_V_asked_O0 hl G f365 xo ez eo bu nw0 na0 nq0 nr0 nw1 na1 nq1 nr1 bs bp bh bf bl bg S0 S1 gw0 ga0 gw1 ga1 n a cg x sa pk fl gv gh gl hC366 (Nat.lt_of_le_of_lt hl0 (by decide)) (Nat.lt_of_le_of_lt hl1 (by decide)) 6 (by decide)) mH_L_asked qM_L_155 rfl rfl hl9.1 (Nat.le_of_ble_eq_true rfl) ⟨⟨Nat.le_of_ble_eq_true rfl, Nat.le_of_ble_eq_true rfl⟩, Nat.le_of_ble_eq_true rfl, Nat.le_of_ble_eq_true rfl⟩ dL_isTold_264 (fun E ce q9 f368 H locs hPX hw hS hce hcv hcl => ?_) (fun v f368 H locs hP hw hS => ?_)
                                                                  · exact hPX.elim
                                                                  · obtain ⟨ev9, hC369, k370⟩ := hP
                                                                    subst ev9
                                                                    have hC369 : CXW G f368 xo ez eo bu nw0 na0 nq0 nr0 nw1 na1 nq1 nr1 bs bp bh bf bl bg S0 S1 gw0 ga0 gw1 ga1 n a cg x sa pk fl gv gh gl := hC369
                                                                    refine W.eq (g2 := F0 m 267 ls [.int (-71)]) rfl ?_
                                                                    refine lv_bipush (v := (-71)) hx hb dL_isTold_267 (by decide) ?_
                                                                    refine lv_icmp_ne (tgt := 308) hx hb dL_isTold_269 (by decide) (fun c9 => absurd (by decide) c9) (fun _ => ?_)
                                                                    refine lv_aload_n hx hb dL_isTold_272 rfl (lv_at hl9 1 rfl) ?_
                                                                    refine lv_iconst (v := 2) hx hb dL_isTold_273 (by decide) ?_
                                                                    refine lv_iconst (v := 0) hx hb dL_isTold_274 (by decide) ?_
                                                                    refine hp_SH (As := [.ref xo, .int 2, .int 0]) (rest := []) B0 hw hS (c_V_asked_E hl G f368 xo ez eo bu nw0 na0 nq0 nr0 nw1 na1 nq1 nr1 bs bp bh bf bl bg S0 S1 gw0 ga0 gw1 ga1 n a cg x sa pk fl gv gh gl hC369 (Nat.lt_of_le_of_lt hl0 (by decide)) (Nat.lt_of_le_of_lt hl1 (by decide)) 2 0 (by decide)) mH_L_asked qM_L_155 rfl rfl hl9.1 (Nat.le_of_ble_eq_true rfl) ⟨⟨Nat.le_of_ble_eq_true rfl, Nat.le_of_ble_eq_true rfl⟩, Nat.le_of_ble_eq_true rfl, Nat.le_of_ble_eq_true rfl⟩ dL_isTold_275 (fun E ce q9 f371 H locs hPX hw hS hce hcv hcl => ?_) (fun v f371 H locs hP hw hS => ?_)
                                                                    · exact hPX.elim
                                                                    · obtain ⟨ev9, hC372, k373⟩ := hP
                                                                      subst ev9
                                                                      have hC372 : CXW G f371 xo ez eo bu nw0 na0 nq0 nr0 nw1 na1 nq1 nr1 bs bp bh bf bl bg S0 S1 gw0 ga0 gw1 ga1 n a cg x sa pk fl gv gh gl := hC372
                                                                      refine W.eq (g2 := F0 m 278 ls [.int (-71)]) rfl ?_
                                                                      refine lv_bipush (v := (-71)) hx hb dL_isTold_278 (by decide) ?_
                                                                      refine lv_icmp_ne (tgt := 308) hx hb dL_isTold_280 (by decide) (fun c9 => absurd (by decide) c9) (fun _ => ?_)
                                                                      refine lv_aload_n hx hb dL_isTold_283 rfl (lv_at hl9 1 rfl) ?_
                                                                      refine lv_iconst (v := 0) hx hb dL_isTold_284 (by decide) ?_
                                                                      refine lv_iconst (v := (-1)) hx hb dL_isTold_285 (by decide) ?_
                                                                      refine hp_SH (As := [.ref xo, .int 0, .int (-1)]) (rest := []) B0 hw hS (c_V_asked_O0 hl G f371 xo ez eo bu nw0 na0 nq0 nr0 nw1 na1 nq1 nr1 bs bp bh bf bl bg S0 S1 gw0 ga0 gw1 ga1 n a cg x sa pk fl gv gh gl hC372 (Nat.lt_of_le_of_lt hl0 (by decide)) (Nat.lt_of_le_of_lt hl1 (by decide)) (-1) (by decide)) mH_L_asked qM_L_155 rfl rfl hl9.1 (Nat.le_of_ble_eq_true rfl) ⟨⟨Nat.le_of_ble_eq_true rfl, Nat.le_of_ble_eq_true rfl⟩, Nat.le_of_ble_eq_true rfl, Nat.le_of_ble_eq_true rfl⟩ dL_isTold_286 (fun E ce q9 f374 H locs hPX hw hS hce hcv hcl => ?_) (fun v f374 H locs hP hw hS => ?_)
                                                                      · exact hPX.elim
                                                                      · obtain ⟨ev9, hC375, k376⟩ := hP
                                                                        subst ev9
                                                                        have hC375 : CXW G f374 xo ez eo bu nw0 na0 nq0 nr0 nw1 na1 nq1 nr1 bs bp bh bf bl bg S0 S1 gw0 ga0 gw1 ga1 n a cg x sa pk fl gv gh gl := hC375
                                                                        refine W.eq (g2 := F0 m 289 ls [.int (-71)]) rfl ?_
                                                                        refine lv_bipush (v := (-71)) hx hb dL_isTold_289 (by decide) ?_
                                                                        refine lv_icmp_ne (tgt := 308) hx hb dL_isTold_291 (by decide) (fun c9 => absurd (by decide) c9) (fun _ => ?_)
                                                                        refine lv_aload_n hx hb dL_isTold_294 rfl (lv_at hl9 1 rfl) ?_
                                                                        refine lv_iconst (v := (-1)) hx hb dL_isTold_295 (by decide) ?_
                                                                        refine hp_SH (As := [.ref xo, .int (-1)]) (rest := []) B0 hw hS (c_V_underWay_E hl G f374 xo ez eo bu nw0 na0 nq0 nr0 nw1 na1 nq1 nr1 bs bp bh bf bl bg S0 S1 gw0 ga0 gw1 ga1 n a cg x sa pk fl gv gh gl hC375 (Nat.lt_of_le_of_lt hl0 (by decide)) (Nat.lt_of_le_of_lt hl1 (by decide)) (-1) (by decide)) mH_L_underWay qM_L_150 rfl rfl hl9.1 (Nat.le_of_ble_eq_true rfl) ⟨⟨Nat.le_of_ble_eq_true rfl, Nat.le_of_ble_eq_true rfl⟩, Nat.le_of_ble_eq_true rfl, Nat.le_of_ble_eq_true rfl⟩ dL_isTold_296 (fun E ce q9 f377 H locs hPX hw hS hce hcv hcl => ?_) (fun v f377 H locs hP hw hS => ?_)
                                                                        · exact hPX.elim
                                                                        · obtain ⟨ev9, hC378, k379⟩ := hP
                                                                          subst ev9
                                                                          have hC378 : CXW G f377 xo ez eo bu nw0 na0 nq0 nr0 nw1 na1 nq1 nr1 bs bp bh bf bl bg S0 S1 gw0 ga0 gw1 ga1 n a cg x sa pk fl gv gh gl := hC378
                                                                          refine W.eq (g2 := F0 m 299 ls [.int (-71)]) rfl ?_
                                                                          refine lv_bipush (v := (-71)) hx hb dL_isTold_299 (by decide) ?_
                                                                          refine lv_icmp_ne (tgt := 308) hx hb dL_isTold_301 (by decide) (fun c9 => absurd (by decide) c9) (fun _ => ?_)
                                                                          refine lv_iconst (v := 1) hx hb dL_isTold_304 (by decide) ?_
                                                                          refine lv_goto (tgt := 309) hx hb dL_isTold_305 (by decide) ?_
                                                                          exact hp_zret (v := 1) B0 hw hS hr ⟨Nat.le_of_ble_eq_true rfl, Nat.le_of_ble_eq_true rfl⟩ (rfl) dL_isTold_309 (⟨rfl, hC378, ((show hKn [xo, ez, eo, bu, nw0, na0, nq0, nr0, nw1, na1, nq1, nr1, bs, bp, bh, bf, bl, bg] f f9 from (hKn.mono hk9 (fun _ h9 => h9))).tr ((show hKn [xo, ez, eo, bu, nw0, na0, nq0, nr0, nw1, na1, nq1, nr1, bs, bp, bh, bf, bl, bg] f9 f344 from (hKn.mono k346 (fun _ h9 => h9))).tr ((show hKn [xo, ez, eo, bu, nw0, na0, nq0, nr0, nw1, na1, nq1, nr1, bs, bp, bh, bf, bl, bg] f344 f349 from (hKn.mono k351 (fun _ h9 => h9))).tr ((show hKn [xo, ez, eo, bu, nw0, na0, nq0, nr0, nw1, na1, nq1, nr1, bs, bp, bh, bf, bl, bg] f349 f353 from (hKn.mono k355 (fun _ h9 => h9))).tr ((show hKn [xo, ez, eo, bu, nw0, na0, nq0, nr0, nw1, na1, nq1, nr1, bs, bp, bh, bf, bl, bg] f353 f356 from (hKn.mono k358 (fun _ h9 => h9))).tr ((show hKn [xo, ez, eo, bu, nw0, na0, nq0, nr0, nw1, na1, nq1, nr1, bs, bp, bh, bf, bl, bg] f356 f359 from (hKn.mono k361 (fun _ h9 => h9))).tr ((show hKn [xo, ez, eo, bu, nw0, na0, nq0, nr0, nw1, na1, nq1, nr1, bs, bp, bh, bf, bl, bg] f359 f362 from (hKn.mono k364 (fun _ h9 => h9))).tr ((show hKn [xo, ez, eo, bu, nw0, na0, nq0, nr0, nw1, na1, nq1, nr1, bs, bp, bh, bf, bl, bg] f362 f365 from (hKn.mono k367 (fun _ h9 => h9))).tr ((show hKn [xo, ez, eo, bu, nw0, na0, nq0, nr0, nw1, na1, nq1, nr1, bs, bp, bh, bf, bl, bg] f365 f368 from (hKn.mono k370 (fun _ h9 => h9))).tr ((show hKn [xo, ez, eo, bu, nw0, na0, nq0, nr0, nw1, na1, nq1, nr1, bs, bp, bh, bf, bl, bg] f368 f371 from (hKn.mono k373 (fun _ h9 => h9))).tr ((show hKn [xo, ez, eo, bu, nw0, na0, nq0, nr0, nw1, na1, nq1, nr1, bs, bp, bh, bf, bl, bg] f371 f374 from (hKn.mono k376 (fun _ h9 => h9))).tr (show hKn [xo, ez, eo, bu, nw0, na0, nq0, nr0, nw1, na1, nq1, nr1, bs, bp, bh, bf, bl, bg] f374 f377 from (hKn.mono k379 (fun _ h9 => h9))))))))))))))⟩)
                                · refine lv_iconst (v := 1) hx hb dL_isTold_60 (by decide) ?_
                                  refine lv_goto (tgt := 65) hx hb dL_isTold_61 (by decide) ?_
                                  refine lv_icmp_ne (tgt := 99) hx hb dL_isTold_65 (by decide) (fun c9 => absurd c297 c9) (fun _ => ?_)
                                  refine lv_aload_n hx hb dL_isTold_68 rfl (lv_at hl9 3 rfl) ?_
                                  refine lv_iload hx hb dL_isTold_69 (lv_at hl9 1 rfl) ?_
                                  refine hp_SH (As := [.ref xo, .int 1]) (rest := []) B0 hw hS (c_V_underWay_1 hl G f293 xo ez eo bu nw0 na0 nq0 nr0 nw1 na1 nq1 nr1 bs bp bh bf bl bg S0 S1 gw0 ga0 gw1 ga1 n a cg x sa pk fl gv gh gl hC294 (Nat.lt_of_le_of_lt hl0 (by decide)) (Nat.lt_of_le_of_lt hl1 (by decide)) ) mH_L_underWay qM_L_150 rfl rfl hl9.1 (Nat.le_of_ble_eq_true rfl) ⟨⟨Nat.le_of_ble_eq_true rfl, Nat.le_of_ble_eq_true rfl⟩, Nat.le_of_ble_eq_true rfl, Nat.le_of_ble_eq_true rfl⟩ dL_isTold_71 (fun E ce q9 f380 H locs hPX hw hS hce hcv hcl => ?_) (fun v f380 H locs hP hw hS => ?_)
                                  · exact hPX.elim
                                  · obtain ⟨ev9, hC381, k382⟩ := hP
                                    subst ev9
                                    have hC381 : CXW G f380 xo ez eo bu nw0 na0 nq0 nr0 nw1 na1 nq1 nr1 bs bp bh bf bl bg S0 S1 gw0 ga0 gw1 ga1 n a cg x sa pk fl gv gh gl := hC381
                                    refine W.eq (g2 := F0 m 74 ls [.int ((nI S1.2.2.2.2.2.2.2.2.length))]) rfl ?_
                                    refine lv_aload_n hx hb dL_isTold_74 rfl (lv_at hl9 5 rfl) ?_
                                    refine lv_iload hx hb dL_isTold_75 (lv_at hl9 0 rfl) ?_
                                    refine lv_bipush (v := 7) hx hb dL_isTold_77 (by decide) ?_
                                    refine lv_iadd hx hb dL_isTold_79 ?_
                                    refine hp_c (v := 15) (by decide) ?_
                                    have h383 : f380 le = some (.inl (cI G, 16, .inl (jE (eS S0) (eS S1)))) := k382 _ _ h296 (Nat.ne_of_beq_eq_false rfl) (hdos _ (List.mem_cons_of_mem _ List.mem_cons_self))
                                    refine hp_iald B0 hw h383 (by unfold vp_in; decide) dL_isTold_80 ?_
                                    refine hp_c (v := (nI S1.2.2.2.2.2.2.2.2.length)) (rfl) ?_
                                    refine lv_icmp_ne (tgt := 99) hx hb dL_isTold_81 (by decide) (fun c9 => absurd rfl c9) (fun _ => ?_)
                                    refine lv_aload_n hx hb dL_isTold_84 rfl (lv_at hl9 3 rfl) ?_
                                    refine lv_iload hx hb dL_isTold_85 (lv_at hl9 1 rfl) ?_
                                    have h384 : f380 xo = some (.inr (4, [.ref ez, .ref eo, .ref bu])) := by obtain ⟨_, _, h9⟩ := hC381; exact h9.1
                                    refine hp_V (ci := 4) (As := [.int 1]) (rest := []) B0 hw hS (c_P_missed_1 hl G f380 xo ez eo bu nw0 na0 nq0 nr0 nw1 na1 nq1 nr1 bs bp bh bf bl bg S0 S1 gw0 ga0 gw1 ga1 n a cg x sa pk fl gv gh gl hC381 (Nat.lt_of_le_of_lt hl0 (by decide)) (Nat.lt_of_le_of_lt hl1 (by decide))) mV_X4_missed qM_L_152 rfl h384 rfl rfl hl9.1 (Nat.le_of_ble_eq_true rfl) ⟨⟨Nat.le_of_ble_eq_true rfl, Nat.le_of_ble_eq_true rfl⟩, Nat.le_of_ble_eq_true rfl, Nat.le_of_ble_eq_true rfl⟩ dL_isTold_87 (fun E ce q9 f385 H locs hPX hw hS hce hcv hcl => ?_) (fun v f385 H locs hP hw hS => ?_)
                                    · exact hPX.elim
                                    · obtain ⟨ev9, hC386, k387⟩ := hP
                                      subst ev9
                                      refine W.eq (g2 := F0 m 90 ls [.int S1.2.2.2.2.2.1]) rfl ?_
                                      refine lv_aload_n hx hb dL_isTold_90 rfl (lv_at hl9 5 rfl) ?_
                                      refine lv_iload hx hb dL_isTold_91 (lv_at hl9 0 rfl) ?_
                                      refine lv_iconst (v := 5) hx hb dL_isTold_93 (by decide) ?_
                                      refine lv_iadd hx hb dL_isTold_94 ?_
                                      refine hp_c (v := 13) (by decide) ?_
                                      have h388 : f385 le = some (.inl (cI G, 16, .inl (jE (eS S0) (eS S1)))) := k387 _ _ h383 (Nat.ne_of_beq_eq_false rfl) (hdos _ (List.mem_cons_of_mem _ List.mem_cons_self))
                                      refine hp_iald B0 hw h388 (by unfold vp_in; decide) dL_isTold_95 ?_
                                      refine hp_c (v := S1.2.2.2.2.2.1) (rfl) ?_
                                      refine lv_icmp_eq (tgt := 101) hx hb dL_isTold_96 (by decide) (fun _ => ?_) (fun c9 => absurd rfl c9)
                                      refine lv_iconst (v := 0) hx hb dL_isTold_101 (by decide) ?_
                                      refine lv_istore (lv' := [(7, .int 0), (6, .int 8), (5, .int 1), (0, .ref xo), (1, .ref lq), (2, .ref le), (3, .ref lr), (4, .ref lg)]) hx hb dL_isTold_102 hl9 (by decide) rfl (fun ls hl9 => ?_)
                                      refine lv_iload hx hb dL_isTold_104 (lv_at hl9 0 rfl) ?_
                                      refine lv_bipush (v := 6) hx hb dL_isTold_106 (by decide) ?_
                                      refine lv_icmp_ge (tgt := 140) hx hb dL_isTold_108 (by decide) (fun c9 => absurd c9 (by decide)) (fun _ => ?_)
                                      refine lv_aload_n hx hb dL_isTold_111 rfl (lv_at hl9 3 rfl) ?_
                                      refine lv_iload hx hb dL_isTold_112 (lv_at hl9 2 rfl) ?_
                                      refine lv_iload hx hb dL_isTold_114 (lv_at hl9 0 rfl) ?_
                                      refine hp_SH (As := [.ref xo, .int 1, .int 0]) (rest := []) B0 hw hS (c_V_asked_1 hl G f385 xo ez eo bu nw0 na0 nq0 nr0 nw1 na1 nq1 nr1 bs bp bh bf bl bg S0 S1 gw0 ga0 gw1 ga1 n a cg x sa pk fl gv gh gl hC386 (Nat.lt_of_le_of_lt hl0 (by decide)) (Nat.lt_of_le_of_lt hl1 (by decide)) 0 (by decide)) mH_L_asked qM_L_155 rfl rfl hl9.1 (Nat.le_of_ble_eq_true rfl) ⟨⟨Nat.le_of_ble_eq_true rfl, Nat.le_of_ble_eq_true rfl⟩, Nat.le_of_ble_eq_true rfl, Nat.le_of_ble_eq_true rfl⟩ dL_isTold_116 (fun E ce q9 f389 H locs hPX hw hS hce hcv hcl => ?_) (fun v f389 H locs hP hw hS => ?_)
                                      · exact hPX.elim
                                      · obtain ⟨ev9, hC390, k391⟩ := hP
                                        subst ev9
                                        have hC390 : CXW G f389 xo ez eo bu nw0 na0 nq0 nr0 nw1 na1 nq1 nr1 bs bp bh bf bl bg S0 S1 gw0 ga0 gw1 ga1 n a cg x sa pk fl gv gh gl := hC390
                                        refine W.eq (g2 := F0 m 119 ls [.int ((S1.2.2.2.2.2.2.2.1 0))]) rfl ?_
                                        refine lv_aload_n hx hb dL_isTold_119 rfl (lv_at hl9 4 rfl) ?_
                                        refine lv_bipush (v := 6) hx hb dL_isTold_120 (by decide) ?_
                                        refine lv_iload hx hb dL_isTold_122 (lv_at hl9 2 rfl) ?_
                                        refine lv_imul hx hb dL_isTold_124 ?_
                                        refine hp_c (v := 6) (by decide) ?_
                                        refine lv_iload hx hb dL_isTold_125 (lv_at hl9 0 rfl) ?_
                                        refine lv_iadd hx hb dL_isTold_127 ?_
                                        refine hp_c (v := 6) (by decide) ?_
                                        have h392 : f277 lq = some (.inl (cI G, 12, .inl (j6 S0.2.2.2.2.2.2.2.1 S1.2.2.2.2.2.2.2.1))) := k279 _ _ h276 (Nat.ne_of_beq_eq_false rfl) (hdos _ List.mem_cons_self)
                                        have h393 : f288 lq = some (.inl (cI G, 12, .inl (j6 S0.2.2.2.2.2.2.2.1 S1.2.2.2.2.2.2.2.1))) := k290 _ _ h392 (Nat.ne_of_beq_eq_false rfl) (hdos _ List.mem_cons_self)
                                        have h394 : f293 lq = some (.inl (cI G, 12, .inl (j6 S0.2.2.2.2.2.2.2.1 S1.2.2.2.2.2.2.2.1))) := k295 _ _ h393 (Nat.ne_of_beq_eq_false rfl) (hdos _ List.mem_cons_self)
                                        have h395 : f380 lq = some (.inl (cI G, 12, .inl (j6 S0.2.2.2.2.2.2.2.1 S1.2.2.2.2.2.2.2.1))) := k382 _ _ h394 (Nat.ne_of_beq_eq_false rfl) (hdos _ List.mem_cons_self)
                                        have h396 : f385 lq = some (.inl (cI G, 12, .inl (j6 S0.2.2.2.2.2.2.2.1 S1.2.2.2.2.2.2.2.1))) := k387 _ _ h395 (Nat.ne_of_beq_eq_false rfl) (hdos _ List.mem_cons_self)
                                        have h397 : f389 lq = some (.inl (cI G, 12, .inl (j6 S0.2.2.2.2.2.2.2.1 S1.2.2.2.2.2.2.2.1))) := k391 _ _ h396 (Nat.ne_of_beq_eq_false rfl) (hdos _ List.mem_cons_self)
                                        refine hp_iald B0 hw h397 (by unfold vp_in; decide) dL_isTold_128 ?_
                                        refine hp_c (v := (S1.2.2.2.2.2.2.2.1 0)) (rfl) ?_
                                        refine lv_icmp_eq (tgt := 134) hx hb dL_isTold_129 (by decide) (fun _ => ?_) (fun c9 => absurd rfl c9)
                                        refine lv_iinc (v := 1) (lv' := [(7, .int 1), (6, .int 8), (5, .int 1), (0, .ref xo), (1, .ref lq), (2, .ref le), (3, .ref lr), (4, .ref lg)]) hx hb dL_isTold_134 hl9 (k := 0) rfl (by decide) (by decide) rfl (fun ls hl9 => ?_)
                                        refine lv_goto (tgt := 104) hx hb dL_isTold_137 (by decide) ?_
                                        refine lv_iload hx hb dL_isTold_104 (lv_at hl9 0 rfl) ?_
                                        refine lv_bipush (v := 6) hx hb dL_isTold_106 (by decide) ?_
                                        refine lv_icmp_ge (tgt := 140) hx hb dL_isTold_108 (by decide) (fun c9 => absurd c9 (by decide)) (fun _ => ?_)
                                        refine lv_aload_n hx hb dL_isTold_111 rfl (lv_at hl9 3 rfl) ?_
                                        refine lv_iload hx hb dL_isTold_112 (lv_at hl9 2 rfl) ?_
                                        refine lv_iload hx hb dL_isTold_114 (lv_at hl9 0 rfl) ?_
                                        refine hp_SH (As := [.ref xo, .int 1, .int 1]) (rest := []) B0 hw hS (c_V_asked_1 hl G f389 xo ez eo bu nw0 na0 nq0 nr0 nw1 na1 nq1 nr1 bs bp bh bf bl bg S0 S1 gw0 ga0 gw1 ga1 n a cg x sa pk fl gv gh gl hC390 (Nat.lt_of_le_of_lt hl0 (by decide)) (Nat.lt_of_le_of_lt hl1 (by decide)) 1 (by decide)) mH_L_asked qM_L_155 rfl rfl hl9.1 (Nat.le_of_ble_eq_true rfl) ⟨⟨Nat.le_of_ble_eq_true rfl, Nat.le_of_ble_eq_true rfl⟩, Nat.le_of_ble_eq_true rfl, Nat.le_of_ble_eq_true rfl⟩ dL_isTold_116 (fun E ce q9 f398 H locs hPX hw hS hce hcv hcl => ?_) (fun v f398 H locs hP hw hS => ?_)
                                        · exact hPX.elim
                                        · obtain ⟨ev9, hC399, k400⟩ := hP
                                          subst ev9
                                          have hC399 : CXW G f398 xo ez eo bu nw0 na0 nq0 nr0 nw1 na1 nq1 nr1 bs bp bh bf bl bg S0 S1 gw0 ga0 gw1 ga1 n a cg x sa pk fl gv gh gl := hC399
                                          refine W.eq (g2 := F0 m 119 ls [.int ((S1.2.2.2.2.2.2.2.1 1))]) rfl ?_
                                          refine lv_aload_n hx hb dL_isTold_119 rfl (lv_at hl9 4 rfl) ?_
                                          refine lv_bipush (v := 6) hx hb dL_isTold_120 (by decide) ?_
                                          refine lv_iload hx hb dL_isTold_122 (lv_at hl9 2 rfl) ?_
                                          refine lv_imul hx hb dL_isTold_124 ?_
                                          refine hp_c (v := 6) (by decide) ?_
                                          refine lv_iload hx hb dL_isTold_125 (lv_at hl9 0 rfl) ?_
                                          refine lv_iadd hx hb dL_isTold_127 ?_
                                          refine hp_c (v := 7) (by decide) ?_
                                          have h401 : f398 lq = some (.inl (cI G, 12, .inl (j6 S0.2.2.2.2.2.2.2.1 S1.2.2.2.2.2.2.2.1))) := k400 _ _ h397 (Nat.ne_of_beq_eq_false rfl) (hdos _ List.mem_cons_self)
                                          refine hp_iald B0 hw h401 (by unfold vp_in; decide) dL_isTold_128 ?_
                                          refine hp_c (v := (S1.2.2.2.2.2.2.2.1 1)) (rfl) ?_
                                          refine lv_icmp_eq (tgt := 134) hx hb dL_isTold_129 (by decide) (fun _ => ?_) (fun c9 => absurd rfl c9)
                                          refine lv_iinc (v := 2) (lv' := [(7, .int 2), (6, .int 8), (5, .int 1), (0, .ref xo), (1, .ref lq), (2, .ref le), (3, .ref lr), (4, .ref lg)]) hx hb dL_isTold_134 hl9 (k := 0) rfl (by decide) (by decide) rfl (fun ls hl9 => ?_)
                                          refine lv_goto (tgt := 104) hx hb dL_isTold_137 (by decide) ?_
                                          refine lv_iload hx hb dL_isTold_104 (lv_at hl9 0 rfl) ?_
                                          refine lv_bipush (v := 6) hx hb dL_isTold_106 (by decide) ?_
                                          refine lv_icmp_ge (tgt := 140) hx hb dL_isTold_108 (by decide) (fun c9 => absurd c9 (by decide)) (fun _ => ?_)
                                          refine lv_aload_n hx hb dL_isTold_111 rfl (lv_at hl9 3 rfl) ?_
                                          refine lv_iload hx hb dL_isTold_112 (lv_at hl9 2 rfl) ?_
                                          refine lv_iload hx hb dL_isTold_114 (lv_at hl9 0 rfl) ?_
                                          refine hp_SH (As := [.ref xo, .int 1, .int 2]) (rest := []) B0 hw hS (c_V_asked_1 hl G f398 xo ez eo bu nw0 na0 nq0 nr0 nw1 na1 nq1 nr1 bs bp bh bf bl bg S0 S1 gw0 ga0 gw1 ga1 n a cg x sa pk fl gv gh gl hC399 (Nat.lt_of_le_of_lt hl0 (by decide)) (Nat.lt_of_le_of_lt hl1 (by decide)) 2 (by decide)) mH_L_asked qM_L_155 rfl rfl hl9.1 (Nat.le_of_ble_eq_true rfl) ⟨⟨Nat.le_of_ble_eq_true rfl, Nat.le_of_ble_eq_true rfl⟩, Nat.le_of_ble_eq_true rfl, Nat.le_of_ble_eq_true rfl⟩ dL_isTold_116 (fun E ce q9 f402 H locs hPX hw hS hce hcv hcl => ?_) (fun v f402 H locs hP hw hS => ?_)
                                          · exact hPX.elim
                                          · obtain ⟨ev9, hC403, k404⟩ := hP
                                            subst ev9
                                            have hC403 : CXW G f402 xo ez eo bu nw0 na0 nq0 nr0 nw1 na1 nq1 nr1 bs bp bh bf bl bg S0 S1 gw0 ga0 gw1 ga1 n a cg x sa pk fl gv gh gl := hC403
                                            refine W.eq (g2 := F0 m 119 ls [.int ((S1.2.2.2.2.2.2.2.1 2))]) rfl ?_
                                            refine lv_aload_n hx hb dL_isTold_119 rfl (lv_at hl9 4 rfl) ?_
                                            refine lv_bipush (v := 6) hx hb dL_isTold_120 (by decide) ?_
                                            refine lv_iload hx hb dL_isTold_122 (lv_at hl9 2 rfl) ?_
                                            refine lv_imul hx hb dL_isTold_124 ?_
                                            refine hp_c (v := 6) (by decide) ?_
                                            refine lv_iload hx hb dL_isTold_125 (lv_at hl9 0 rfl) ?_
                                            refine lv_iadd hx hb dL_isTold_127 ?_
                                            refine hp_c (v := 8) (by decide) ?_
                                            have h405 : f402 lq = some (.inl (cI G, 12, .inl (j6 S0.2.2.2.2.2.2.2.1 S1.2.2.2.2.2.2.2.1))) := k404 _ _ h401 (Nat.ne_of_beq_eq_false rfl) (hdos _ List.mem_cons_self)
                                            refine hp_iald B0 hw h405 (by unfold vp_in; decide) dL_isTold_128 ?_
                                            refine hp_c (v := (S1.2.2.2.2.2.2.2.1 2)) (rfl) ?_
                                            refine lv_icmp_eq (tgt := 134) hx hb dL_isTold_129 (by decide) (fun _ => ?_) (fun c9 => absurd rfl c9)
                                            refine lv_iinc (v := 3) (lv' := [(7, .int 3), (6, .int 8), (5, .int 1), (0, .ref xo), (1, .ref lq), (2, .ref le), (3, .ref lr), (4, .ref lg)]) hx hb dL_isTold_134 hl9 (k := 0) rfl (by decide) (by decide) rfl (fun ls hl9 => ?_)
                                            refine lv_goto (tgt := 104) hx hb dL_isTold_137 (by decide) ?_
                                            refine lv_iload hx hb dL_isTold_104 (lv_at hl9 0 rfl) ?_
                                            refine lv_bipush (v := 6) hx hb dL_isTold_106 (by decide) ?_
                                            refine lv_icmp_ge (tgt := 140) hx hb dL_isTold_108 (by decide) (fun c9 => absurd c9 (by decide)) (fun _ => ?_)
                                            refine lv_aload_n hx hb dL_isTold_111 rfl (lv_at hl9 3 rfl) ?_
                                            refine lv_iload hx hb dL_isTold_112 (lv_at hl9 2 rfl) ?_
                                            refine lv_iload hx hb dL_isTold_114 (lv_at hl9 0 rfl) ?_
                                            refine hp_SH (As := [.ref xo, .int 1, .int 3]) (rest := []) B0 hw hS (c_V_asked_1 hl G f402 xo ez eo bu nw0 na0 nq0 nr0 nw1 na1 nq1 nr1 bs bp bh bf bl bg S0 S1 gw0 ga0 gw1 ga1 n a cg x sa pk fl gv gh gl hC403 (Nat.lt_of_le_of_lt hl0 (by decide)) (Nat.lt_of_le_of_lt hl1 (by decide)) 3 (by decide)) mH_L_asked qM_L_155 rfl rfl hl9.1 (Nat.le_of_ble_eq_true rfl) ⟨⟨Nat.le_of_ble_eq_true rfl, Nat.le_of_ble_eq_true rfl⟩, Nat.le_of_ble_eq_true rfl, Nat.le_of_ble_eq_true rfl⟩ dL_isTold_116 (fun E ce q9 f406 H locs hPX hw hS hce hcv hcl => ?_) (fun v f406 H locs hP hw hS => ?_)
                                            · exact hPX.elim
                                            · obtain ⟨ev9, hC407, k408⟩ := hP
                                              subst ev9
                                              have hC407 : CXW G f406 xo ez eo bu nw0 na0 nq0 nr0 nw1 na1 nq1 nr1 bs bp bh bf bl bg S0 S1 gw0 ga0 gw1 ga1 n a cg x sa pk fl gv gh gl := hC407
                                              refine W.eq (g2 := F0 m 119 ls [.int ((S1.2.2.2.2.2.2.2.1 3))]) rfl ?_
                                              refine lv_aload_n hx hb dL_isTold_119 rfl (lv_at hl9 4 rfl) ?_
                                              refine lv_bipush (v := 6) hx hb dL_isTold_120 (by decide) ?_
                                              refine lv_iload hx hb dL_isTold_122 (lv_at hl9 2 rfl) ?_
                                              refine lv_imul hx hb dL_isTold_124 ?_
                                              refine hp_c (v := 6) (by decide) ?_
                                              refine lv_iload hx hb dL_isTold_125 (lv_at hl9 0 rfl) ?_
                                              refine lv_iadd hx hb dL_isTold_127 ?_
                                              refine hp_c (v := 9) (by decide) ?_
                                              have h409 : f406 lq = some (.inl (cI G, 12, .inl (j6 S0.2.2.2.2.2.2.2.1 S1.2.2.2.2.2.2.2.1))) := k408 _ _ h405 (Nat.ne_of_beq_eq_false rfl) (hdos _ List.mem_cons_self)
                                              refine hp_iald B0 hw h409 (by unfold vp_in; decide) dL_isTold_128 ?_
                                              refine hp_c (v := (S1.2.2.2.2.2.2.2.1 3)) (rfl) ?_
                                              refine lv_icmp_eq (tgt := 134) hx hb dL_isTold_129 (by decide) (fun _ => ?_) (fun c9 => absurd rfl c9)
                                              refine lv_iinc (v := 4) (lv' := [(7, .int 4), (6, .int 8), (5, .int 1), (0, .ref xo), (1, .ref lq), (2, .ref le), (3, .ref lr), (4, .ref lg)]) hx hb dL_isTold_134 hl9 (k := 0) rfl (by decide) (by decide) rfl (fun ls hl9 => ?_)
                                              refine lv_goto (tgt := 104) hx hb dL_isTold_137 (by decide) ?_
                                              refine lv_iload hx hb dL_isTold_104 (lv_at hl9 0 rfl) ?_
                                              refine lv_bipush (v := 6) hx hb dL_isTold_106 (by decide) ?_
                                              refine lv_icmp_ge (tgt := 140) hx hb dL_isTold_108 (by decide) (fun c9 => absurd c9 (by decide)) (fun _ => ?_)
                                              refine lv_aload_n hx hb dL_isTold_111 rfl (lv_at hl9 3 rfl) ?_
                                              refine lv_iload hx hb dL_isTold_112 (lv_at hl9 2 rfl) ?_
                                              refine lv_iload hx hb dL_isTold_114 (lv_at hl9 0 rfl) ?_
                                              refine hp_SH (As := [.ref xo, .int 1, .int 4]) (rest := []) B0 hw hS (c_V_asked_1 hl G f406 xo ez eo bu nw0 na0 nq0 nr0 nw1 na1 nq1 nr1 bs bp bh bf bl bg S0 S1 gw0 ga0 gw1 ga1 n a cg x sa pk fl gv gh gl hC407 (Nat.lt_of_le_of_lt hl0 (by decide)) (Nat.lt_of_le_of_lt hl1 (by decide)) 4 (by decide)) mH_L_asked qM_L_155 rfl rfl hl9.1 (Nat.le_of_ble_eq_true rfl) ⟨⟨Nat.le_of_ble_eq_true rfl, Nat.le_of_ble_eq_true rfl⟩, Nat.le_of_ble_eq_true rfl, Nat.le_of_ble_eq_true rfl⟩ dL_isTold_116 (fun E ce q9 f410 H locs hPX hw hS hce hcv hcl => ?_) (fun v f410 H locs hP hw hS => ?_)
                                              · exact hPX.elim
                                              · obtain ⟨ev9, hC411, k412⟩ := hP
                                                subst ev9
                                                have hC411 : CXW G f410 xo ez eo bu nw0 na0 nq0 nr0 nw1 na1 nq1 nr1 bs bp bh bf bl bg S0 S1 gw0 ga0 gw1 ga1 n a cg x sa pk fl gv gh gl := hC411
                                                refine W.eq (g2 := F0 m 119 ls [.int ((S1.2.2.2.2.2.2.2.1 4))]) rfl ?_
                                                refine lv_aload_n hx hb dL_isTold_119 rfl (lv_at hl9 4 rfl) ?_
                                                refine lv_bipush (v := 6) hx hb dL_isTold_120 (by decide) ?_
                                                refine lv_iload hx hb dL_isTold_122 (lv_at hl9 2 rfl) ?_
                                                refine lv_imul hx hb dL_isTold_124 ?_
                                                refine hp_c (v := 6) (by decide) ?_
                                                refine lv_iload hx hb dL_isTold_125 (lv_at hl9 0 rfl) ?_
                                                refine lv_iadd hx hb dL_isTold_127 ?_
                                                refine hp_c (v := 10) (by decide) ?_
                                                have h413 : f410 lq = some (.inl (cI G, 12, .inl (j6 S0.2.2.2.2.2.2.2.1 S1.2.2.2.2.2.2.2.1))) := k412 _ _ h409 (Nat.ne_of_beq_eq_false rfl) (hdos _ List.mem_cons_self)
                                                refine hp_iald B0 hw h413 (by unfold vp_in; decide) dL_isTold_128 ?_
                                                refine hp_c (v := (S1.2.2.2.2.2.2.2.1 4)) (rfl) ?_
                                                refine lv_icmp_eq (tgt := 134) hx hb dL_isTold_129 (by decide) (fun _ => ?_) (fun c9 => absurd rfl c9)
                                                refine lv_iinc (v := 5) (lv' := [(7, .int 5), (6, .int 8), (5, .int 1), (0, .ref xo), (1, .ref lq), (2, .ref le), (3, .ref lr), (4, .ref lg)]) hx hb dL_isTold_134 hl9 (k := 0) rfl (by decide) (by decide) rfl (fun ls hl9 => ?_)
                                                refine lv_goto (tgt := 104) hx hb dL_isTold_137 (by decide) ?_
                                                refine lv_iload hx hb dL_isTold_104 (lv_at hl9 0 rfl) ?_
                                                refine lv_bipush (v := 6) hx hb dL_isTold_106 (by decide) ?_
                                                refine lv_icmp_ge (tgt := 140) hx hb dL_isTold_108 (by decide) (fun c9 => absurd c9 (by decide)) (fun _ => ?_)
                                                refine lv_aload_n hx hb dL_isTold_111 rfl (lv_at hl9 3 rfl) ?_
                                                refine lv_iload hx hb dL_isTold_112 (lv_at hl9 2 rfl) ?_
                                                refine lv_iload hx hb dL_isTold_114 (lv_at hl9 0 rfl) ?_
                                                refine hp_SH (As := [.ref xo, .int 1, .int 5]) (rest := []) B0 hw hS (c_V_asked_1 hl G f410 xo ez eo bu nw0 na0 nq0 nr0 nw1 na1 nq1 nr1 bs bp bh bf bl bg S0 S1 gw0 ga0 gw1 ga1 n a cg x sa pk fl gv gh gl hC411 (Nat.lt_of_le_of_lt hl0 (by decide)) (Nat.lt_of_le_of_lt hl1 (by decide)) 5 (by decide)) mH_L_asked qM_L_155 rfl rfl hl9.1 (Nat.le_of_ble_eq_true rfl) ⟨⟨Nat.le_of_ble_eq_true rfl, Nat.le_of_ble_eq_true rfl⟩, Nat.le_of_ble_eq_true rfl, Nat.le_of_ble_eq_true rfl⟩ dL_isTold_116 (fun E ce q9 f414 H locs hPX hw hS hce hcv hcl => ?_) (fun v f414 H locs hP hw hS => ?_)
                                                · exact hPX.elim
                                                · obtain ⟨ev9, hC415, k416⟩ := hP
                                                  subst ev9
                                                  have hC415 : CXW G f414 xo ez eo bu nw0 na0 nq0 nr0 nw1 na1 nq1 nr1 bs bp bh bf bl bg S0 S1 gw0 ga0 gw1 ga1 n a cg x sa pk fl gv gh gl := hC415
                                                  refine W.eq (g2 := F0 m 119 ls [.int ((S1.2.2.2.2.2.2.2.1 5))]) rfl ?_
                                                  refine lv_aload_n hx hb dL_isTold_119 rfl (lv_at hl9 4 rfl) ?_
                                                  refine lv_bipush (v := 6) hx hb dL_isTold_120 (by decide) ?_
                                                  refine lv_iload hx hb dL_isTold_122 (lv_at hl9 2 rfl) ?_
                                                  refine lv_imul hx hb dL_isTold_124 ?_
                                                  refine hp_c (v := 6) (by decide) ?_
                                                  refine lv_iload hx hb dL_isTold_125 (lv_at hl9 0 rfl) ?_
                                                  refine lv_iadd hx hb dL_isTold_127 ?_
                                                  refine hp_c (v := 11) (by decide) ?_
                                                  have h417 : f414 lq = some (.inl (cI G, 12, .inl (j6 S0.2.2.2.2.2.2.2.1 S1.2.2.2.2.2.2.2.1))) := k416 _ _ h413 (Nat.ne_of_beq_eq_false rfl) (hdos _ List.mem_cons_self)
                                                  refine hp_iald B0 hw h417 (by unfold vp_in; decide) dL_isTold_128 ?_
                                                  refine hp_c (v := (S1.2.2.2.2.2.2.2.1 5)) (rfl) ?_
                                                  refine lv_icmp_eq (tgt := 134) hx hb dL_isTold_129 (by decide) (fun _ => ?_) (fun c9 => absurd rfl c9)
                                                  refine lv_iinc (v := 6) (lv' := [(7, .int 6), (6, .int 8), (5, .int 1), (0, .ref xo), (1, .ref lq), (2, .ref le), (3, .ref lr), (4, .ref lg)]) hx hb dL_isTold_134 hl9 (k := 0) rfl (by decide) (by decide) rfl (fun ls hl9 => ?_)
                                                  refine lv_goto (tgt := 104) hx hb dL_isTold_137 (by decide) ?_
                                                  refine lv_iload hx hb dL_isTold_104 (lv_at hl9 0 rfl) ?_
                                                  refine lv_bipush (v := 6) hx hb dL_isTold_106 (by decide) ?_
                                                  refine lv_icmp_ge (tgt := 140) hx hb dL_isTold_108 (by decide) (fun _ => ?_) (fun c9 => absurd (by decide) c9)
                                                  refine lv_iinc (v := 2) (lv' := [(5, .int 2), (7, .int 6), (6, .int 8), (0, .ref xo), (1, .ref lq), (2, .ref le), (3, .ref lr), (4, .ref lg)]) hx hb dL_isTold_140 hl9 (k := 2) rfl (by decide) (by decide) rfl (fun ls hl9 => ?_)
                                                  refine lv_goto (tgt := 3) hx hb dL_isTold_143 (by decide) ?_
                                                  refine lv_iload hx hb dL_isTold_3 (lv_at hl9 0 rfl) ?_
                                                  refine lv_iconst (v := 2) hx hb dL_isTold_5 (by decide) ?_
                                                  refine lv_icmp_ge (tgt := 146) hx hb dL_isTold_6 (by decide) (fun _ => ?_) (fun c9 => absurd (by decide) c9)
                                                  refine lv_iconst (v := 0) hx hb dL_isTold_146 (by decide) ?_
                                                  refine lv_istore (lv' := [(5, .int 0), (7, .int 6), (6, .int 8), (0, .ref xo), (1, .ref lq), (2, .ref le), (3, .ref lr), (4, .ref lg)]) hx hb dL_isTold_147 hl9 (by decide) rfl (fun ls hl9 => ?_)
                                                  refine hp_cs (c2 := 34 + 0 * 0) (s2 := 204 + 0 * 0) rfl rfl ?_
                                                  refine hp_forC (nL := 8) (pc := 149) (fun j f9 lv9 => CXW G f9 xo ez eo bu nw0 na0 nq0 nr0 nw1 na1 nq1 nr1 bs bp bh bf bl bg S0 S1 gw0 ga0 gw1 ga1 n a cg x sa pk fl gv gh gl ∧ hKn [xo, ez, eo, bu, nw0, na0, nq0, nr0, nw1, na1, nq1, nr1, bs, bp, bh, bf, bl, bg] f f9 ∧ lv9 = [(5, .int (nI j)), (0, .ref xo), (1, .ref lq), (2, .ref le), (3, .ref lr), (4, .ref lg)]) cg 34 204 0 0 (fun j f9 lv9 H locs ls hj hI hw hS hl9 ih => ?_) (fun f9 lv9 H locs ls hI hw hS hl9 => ?_) cg 0 (Nat.zero_add _) f414 _ _ _ ls ⟨hC415, ((show hKn [xo, ez, eo, bu, nw0, na0, nq0, nr0, nw1, na1, nq1, nr1, bs, bp, bh, bf, bl, bg] f f1 from (hKn.mono k3 (fun _ h9 => h9))).tr ((show hKn [xo, ez, eo, bu, nw0, na0, nq0, nr0, nw1, na1, nq1, nr1, bs, bp, bh, bf, bl, bg] f1 f6 from (hKn.mono k8 (fun _ h9 => h9))).tr ((show hKn [xo, ez, eo, bu, nw0, na0, nq0, nr0, nw1, na1, nq1, nr1, bs, bp, bh, bf, bl, bg] f6 f11 from (hKn.mono k13 (fun _ h9 => h9))).tr ((show hKn [xo, ez, eo, bu, nw0, na0, nq0, nr0, nw1, na1, nq1, nr1, bs, bp, bh, bf, bl, bg] f11 f239 from (hKn.mono k241 (fun _ h9 => h9))).tr ((show hKn [xo, ez, eo, bu, nw0, na0, nq0, nr0, nw1, na1, nq1, nr1, bs, bp, bh, bf, bl, bg] f239 f244 from (hKn.mono k246 (fun _ h9 => h9))).tr ((show hKn [xo, ez, eo, bu, nw0, na0, nq0, nr0, nw1, na1, nq1, nr1, bs, bp, bh, bf, bl, bg] f244 f248 from (hKn.mono k250 (fun _ h9 => h9))).tr ((show hKn [xo, ez, eo, bu, nw0, na0, nq0, nr0, nw1, na1, nq1, nr1, bs, bp, bh, bf, bl, bg] f248 f257 from (hKn.mono k259 (fun _ h9 => h9))).tr ((show hKn [xo, ez, eo, bu, nw0, na0, nq0, nr0, nw1, na1, nq1, nr1, bs, bp, bh, bf, bl, bg] f257 f261 from (hKn.mono k263 (fun _ h9 => h9))).tr ((show hKn [xo, ez, eo, bu, nw0, na0, nq0, nr0, nw1, na1, nq1, nr1, bs, bp, bh, bf, bl, bg] f261 f265 from (hKn.mono k267 (fun _ h9 => h9))).tr ((show hKn [xo, ez, eo, bu, nw0, na0, nq0, nr0, nw1, na1, nq1, nr1, bs, bp, bh, bf, bl, bg] f265 f269 from (hKn.mono k271 (fun _ h9 => h9))).tr ((show hKn [xo, ez, eo, bu, nw0, na0, nq0, nr0, nw1, na1, nq1, nr1, bs, bp, bh, bf, bl, bg] f269 f273 from (hKn.mono k275 (fun _ h9 => h9))).tr ((show hKn [xo, ez, eo, bu, nw0, na0, nq0, nr0, nw1, na1, nq1, nr1, bs, bp, bh, bf, bl, bg] f273 f277 from (hKn.mono k279 (fun _ h9 => h9))).tr ((show hKn [xo, ez, eo, bu, nw0, na0, nq0, nr0, nw1, na1, nq1, nr1, bs, bp, bh, bf, bl, bg] f277 f288 from (hKn.mono k290 (fun _ h9 => h9))).tr ((show hKn [xo, ez, eo, bu, nw0, na0, nq0, nr0, nw1, na1, nq1, nr1, bs, bp, bh, bf, bl, bg] f288 f293 from (hKn.mono k295 (fun _ h9 => h9))).tr ((show hKn [xo, ez, eo, bu, nw0, na0, nq0, nr0, nw1, na1, nq1, nr1, bs, bp, bh, bf, bl, bg] f293 f380 from (hKn.mono k382 (fun _ h9 => h9))).tr ((show hKn [xo, ez, eo, bu, nw0, na0, nq0, nr0, nw1, na1, nq1, nr1, bs, bp, bh, bf, bl, bg] f380 f385 from (hKn.mono k387 (fun _ h9 => h9))).tr ((show hKn [xo, ez, eo, bu, nw0, na0, nq0, nr0, nw1, na1, nq1, nr1, bs, bp, bh, bf, bl, bg] f385 f389 from (hKn.mono k391 (fun _ h9 => h9))).tr ((show hKn [xo, ez, eo, bu, nw0, na0, nq0, nr0, nw1, na1, nq1, nr1, bs, bp, bh, bf, bl, bg] f389 f398 from (hKn.mono k400 (fun _ h9 => h9))).tr ((show hKn [xo, ez, eo, bu, nw0, na0, nq0, nr0, nw1, na1, nq1, nr1, bs, bp, bh, bf, bl, bg] f398 f402 from (hKn.mono k404 (fun _ h9 => h9))).tr ((show hKn [xo, ez, eo, bu, nw0, na0, nq0, nr0, nw1, na1, nq1, nr1, bs, bp, bh, bf, bl, bg] f402 f406 from (hKn.mono k408 (fun _ h9 => h9))).tr ((show hKn [xo, ez, eo, bu, nw0, na0, nq0, nr0, nw1, na1, nq1, nr1, bs, bp, bh, bf, bl, bg] f406 f410 from (hKn.mono k412 (fun _ h9 => h9))).tr (show hKn [xo, ez, eo, bu, nw0, na0, nq0, nr0, nw1, na1, nq1, nr1, bs, bp, bh, bf, bl, bg] f410 f414 from (hKn.mono k416 (fun _ h9 => h9)))))))))))))))))))))))), rfl⟩ hw hS (lv_sub hl9 [0, 3, 4, 5, 6, 7] rfl)
                                                  · obtain ⟨hC9, hk9, el9⟩ := hI
                                                    rw [el9] at hl9
                                                    refine lv_iload hx hb dL_isTold_149 (lv_at hl9 0 rfl) ?_
                                                    refine lv_aload hx hb dL_isTold_151 (lv_at hl9 5 rfl) ?_
                                                    refine lv_bipush (v := 9) hx hb dL_isTold_153 (by decide) ?_
                                                    have h418 : f9 lg = some (.inl (cI G, 10, .inl (g10 tk gl a n x cg))) := hk9 _ _ k_lg (Nat.ne_of_beq_eq_false rfl) (hdos _ (List.mem_cons_of_mem _ (List.mem_cons_of_mem _ (List.mem_cons_of_mem _ List.mem_cons_self))))
                                                    refine hp_iald B0 hw h418 (by unfold vp_in; decide) dL_isTold_155 ?_
                                                    refine hp_c (v := (nI cg)) (rfl) ?_
                                                    refine lv_icmp_ge (tgt := 180) hx hb dL_isTold_156 (by decide) (fun c9 => absurd c9 (nI_ge hj (by omega))) (fun _ => ?_)
                                                    refine lv_aload_n hx hb dL_isTold_159 rfl (lv_at hl9 1 rfl) ?_
                                                    refine lv_iload hx hb dL_isTold_160 (lv_at hl9 0 rfl) ?_
                                                    refine hp_SH (As := [.ref xo, .int (nI j)]) (rest := []) B0 hw hS (c_V_givenAt_ok hl G f9 xo ez eo bu nw0 na0 nq0 nr0 nw1 na1 nq1 nr1 bs bp bh bf bl bg S0 S1 gw0 ga0 gw1 ga1 n a cg x sa pk fl gv gh gl hC9 (Nat.lt_of_le_of_lt hl0 (by decide)) (Nat.lt_of_le_of_lt hl1 (by decide)) j (by omega)) mH_L_givenAt qM_L_158 rfl rfl hl9.1 (Nat.le_of_ble_eq_true rfl) ⟨⟨Nat.le_of_ble_eq_true rfl, Nat.le_of_ble_eq_true rfl⟩, (by omega), (by omega)⟩ dL_isTold_162 (fun E ce q9 f419 H locs hPX hw hS hce hcv hcl => ?_) (fun v f419 H locs hP hw hS => ?_)
                                                    · exact hPX.elim
                                                    · obtain ⟨ev9, hC420, k421⟩ := hP
                                                      subst ev9
                                                      have hC420 : CXW G f419 xo ez eo bu nw0 na0 nq0 nr0 nw1 na1 nq1 nr1 bs bp bh bf bl bg S0 S1 gw0 ga0 gw1 ga1 n a cg x sa pk fl gv gh gl := hC420
                                                      refine W.eq (g2 := F0 m 165 ls [.int ((nI (gv j)))]) rfl ?_
                                                      refine lv_aload_n hx hb dL_isTold_165 rfl (lv_at hl9 4 rfl) ?_
                                                      refine lv_iload hx hb dL_isTold_166 (lv_at hl9 0 rfl) ?_
                                                      have h422 : f9 lr = some (.inl (cI G, 60, .inl (nf gv))) := hk9 _ _ k_lr (Nat.ne_of_beq_eq_false rfl) (hdos _ (List.mem_cons_of_mem _ (List.mem_cons_of_mem _ List.mem_cons_self)))
                                                      have h423 : f419 lr = some (.inl (cI G, 60, .inl (nf gv))) := k421 _ _ h422 (Nat.ne_of_beq_eq_false rfl) (hdos _ (List.mem_cons_of_mem _ (List.mem_cons_of_mem _ List.mem_cons_self)))
                                                      refine hp_iald B0 hw h423 (vp_in_nI (show j < 60 by omega) (by omega)) dL_isTold_168 ?_
                                                      refine hp_c (v := (nI (gv j))) (nf_at (nI_clamp (by omega))) ?_
                                                      refine lv_icmp_eq (tgt := 174) hx hb dL_isTold_169 (by decide) (fun _ => ?_) (fun c9 => absurd rfl c9)
                                                      refine lv_iinc (v := (nI (j + 1))) (lv' := [(5, .int (nI (j + 1))), (0, .ref xo), (1, .ref lq), (2, .ref le), (3, .ref lr), (4, .ref lg)]) hx hb dL_isTold_174 hl9 (k := 0) rfl (nI_1 j) (by decide) rfl (fun ls hl9 => ?_)
                                                      refine lv_goto (tgt := 149) hx hb dL_isTold_177 (by decide) ?_
                                                      exact hp_cs (by omega) (by omega) (ih _ _ H locs ls ⟨hC420, ((show hKn [xo, ez, eo, bu, nw0, na0, nq0, nr0, nw1, na1, nq1, nr1, bs, bp, bh, bf, bl, bg] f f9 from (hKn.mono hk9 (fun _ h9 => h9))).tr (show hKn [xo, ez, eo, bu, nw0, na0, nq0, nr0, nw1, na1, nq1, nr1, bs, bp, bh, bf, bl, bg] f9 f419 from (hKn.mono k421 (fun _ h9 => h9)))), rfl⟩ hw hS (lv_sub hl9 [0, 1, 2, 3, 4, 5] rfl))
                                                  · obtain ⟨hC9, hk9, el9⟩ := hI
                                                    rw [el9] at hl9
                                                    refine W.widen (k := 34 + 60 * 0) (n := 204 + 60 * 0) (by omega) (by omega) ?_
                                                    refine hp_cs (c2 := 34) (s2 := 204) rfl rfl ?_
                                                    refine lv_iload hx hb dL_isTold_149 (lv_at hl9 0 rfl) ?_
                                                    refine lv_aload hx hb dL_isTold_151 (lv_at hl9 5 rfl) ?_
                                                    refine lv_bipush (v := 9) hx hb dL_isTold_153 (by decide) ?_
                                                    have h424 : f9 lg = some (.inl (cI G, 10, .inl (g10 tk gl a n x cg))) := hk9 _ _ k_lg (Nat.ne_of_beq_eq_false rfl) (hdos _ (List.mem_cons_of_mem _ (List.mem_cons_of_mem _ (List.mem_cons_of_mem _ List.mem_cons_self))))
                                                    refine hp_iald B0 hw h424 (by unfold vp_in; decide) dL_isTold_155 ?_
                                                    refine hp_c (v := (nI cg)) (rfl) ?_
                                                    refine lv_icmp_ge (tgt := 180) hx hb dL_isTold_156 (by decide) (fun _ => ?_) (fun c9 => absurd (nI_le (Nat.le_refl _) (by omega)) c9)
                                                    refine lv_aload_n hx hb dL_isTold_180 rfl (lv_at hl9 1 rfl) ?_
                                                    have h425 : f9 xo = some (.inr (4, [.ref ez, .ref eo, .ref bu])) := by obtain ⟨_, _, h9⟩ := hC9; exact h9.1
                                                    refine hp_V (ci := 4) (As := []) (rest := []) B0 hw hS (c_P_given_ok hl G f9 xo ez eo bu nw0 na0 nq0 nr0 nw1 na1 nq1 nr1 bs bp bh bf bl bg S0 S1 gw0 ga0 gw1 ga1 n a cg x sa pk fl gv gh gl hC9 (Nat.lt_of_le_of_lt hl0 (by decide)) (Nat.lt_of_le_of_lt hl1 (by decide))) mV_X4_given qM_L_160 rfl h425 rfl rfl hl9.1 (Nat.le_of_ble_eq_true rfl) ⟨⟨Nat.le_of_ble_eq_true rfl, Nat.le_of_ble_eq_true rfl⟩, Nat.le_of_ble_eq_true rfl, Nat.le_of_ble_eq_true rfl⟩ dL_isTold_181 (fun E ce q9 f426 H locs hPX hw hS hce hcv hcl => ?_) (fun v f426 H locs hP hw hS => ?_)
                                                    · exact hPX.elim
                                                    · obtain ⟨ev9, hC427, k428⟩ := hP
                                                      subst ev9
                                                      refine W.eq (g2 := F0 m 184 ls [.int (nI cg)]) rfl ?_
                                                      refine lv_aload hx hb dL_isTold_184 (lv_at hl9 5 rfl) ?_
                                                      refine lv_bipush (v := 9) hx hb dL_isTold_186 (by decide) ?_
                                                      have h429 : f426 lg = some (.inl (cI G, 10, .inl (g10 tk gl a n x cg))) := k428 _ _ h424 (Nat.ne_of_beq_eq_false rfl) (hdos _ (List.mem_cons_of_mem _ (List.mem_cons_of_mem _ (List.mem_cons_of_mem _ List.mem_cons_self))))
                                                      refine hp_iald B0 hw h429 (by unfold vp_in; decide) dL_isTold_188 ?_
                                                      refine hp_c (v := (nI cg)) (rfl) ?_
                                                      refine lv_icmp_ne (tgt := 308) hx hb dL_isTold_189 (by decide) (fun c9 => absurd rfl c9) (fun _ => ?_)
                                                      refine lv_aload_n hx hb dL_isTold_192 rfl (lv_at hl9 1 rfl) ?_
                                                      have h430 : f426 xo = some (.inr (4, [.ref ez, .ref eo, .ref bu])) := by obtain ⟨_, _, h9⟩ := hC427; exact h9.1
                                                      refine hp_V (ci := 4) (As := []) (rest := []) B0 hw hS (c_P_next_ok hl G f426 xo ez eo bu nw0 na0 nq0 nr0 nw1 na1 nq1 nr1 bs bp bh bf bl bg S0 S1 gw0 ga0 gw1 ga1 n a cg x sa pk fl gv gh gl hC427 (Nat.lt_of_le_of_lt hl0 (by decide)) (Nat.lt_of_le_of_lt hl1 (by decide))) mV_X4_next qM_L_164 rfl h430 rfl rfl hl9.1 (Nat.le_of_ble_eq_true rfl) ⟨⟨Nat.le_of_ble_eq_true rfl, Nat.le_of_ble_eq_true rfl⟩, Nat.le_of_ble_eq_true rfl, Nat.le_of_ble_eq_true rfl⟩ dL_isTold_193 (fun E ce q9 f431 H locs hPX hw hS hce hcv hcl => ?_) (fun v f431 H locs hP hw hS => ?_)
                                                      · exact hPX.elim
                                                      · obtain ⟨ev9, hC432, k433⟩ := hP
                                                        subst ev9
                                                        refine W.eq (g2 := F0 m 196 ls [.int (nI x)]) rfl ?_
                                                        refine lv_aload hx hb dL_isTold_196 (lv_at hl9 5 rfl) ?_
                                                        refine lv_bipush (v := 8) hx hb dL_isTold_198 (by decide) ?_
                                                        have h434 : f431 lg = some (.inl (cI G, 10, .inl (g10 tk gl a n x cg))) := k433 _ _ h429 (Nat.ne_of_beq_eq_false rfl) (hdos _ (List.mem_cons_of_mem _ (List.mem_cons_of_mem _ (List.mem_cons_of_mem _ List.mem_cons_self))))
                                                        refine hp_iald B0 hw h434 (by unfold vp_in; decide) dL_isTold_200 ?_
                                                        refine hp_c (v := (nI x)) (rfl) ?_
                                                        refine lv_icmp_ne (tgt := 308) hx hb dL_isTold_201 (by decide) (fun c9 => absurd rfl c9) (fun _ => ?_)
                                                        refine lv_aload_n hx hb dL_isTold_204 rfl (lv_at hl9 1 rfl) ?_
                                                        refine lv_aload hx hb dL_isTold_205 (lv_at hl9 5 rfl) ?_
                                                        refine lv_bipush (v := 9) hx hb dL_isTold_207 (by decide) ?_
                                                        refine hp_iald B0 hw h434 (by unfold vp_in; decide) dL_isTold_209 ?_
                                                        refine hp_c (v := (nI cg)) (rfl) ?_
                                                        refine hp_SH (As := [.ref xo, .int (nI cg)]) (rest := []) B0 hw hS (c_V_givenAt_I hl G f431 xo ez eo bu nw0 na0 nq0 nr0 nw1 na1 nq1 nr1 bs bp bh bf bl bg S0 S1 gw0 ga0 gw1 ga1 n a cg x sa pk fl gv gh gl hC432 (Nat.lt_of_le_of_lt hl0 (by decide)) (Nat.lt_of_le_of_lt hl1 (by decide)) (nI cg) (by rw [nI_toInt (by omega)]; omega)) mH_L_givenAt qM_L_158 rfl rfl hl9.1 (Nat.le_of_ble_eq_true rfl) ⟨⟨Nat.le_of_ble_eq_true rfl, Nat.le_of_ble_eq_true rfl⟩, Nat.le_of_ble_eq_true rfl, Nat.le_of_ble_eq_true rfl⟩ dL_isTold_210 (fun E ce q9 f435 H locs hPX hw hS hce hcv hcl => ?_) (fun v f435 H locs hP hw hS => ?_)
                                                        · exact hPX.elim
                                                        · obtain ⟨ev9, hC436, k437⟩ := hP
                                                          subst ev9
                                                          have hC436 : CXW G f435 xo ez eo bu nw0 na0 nq0 nr0 nw1 na1 nq1 nr1 bs bp bh bf bl bg S0 S1 gw0 ga0 gw1 ga1 n a cg x sa pk fl gv gh gl := hC436
                                                          refine W.eq (g2 := F0 m 213 ls [.int (-71)]) rfl ?_
                                                          refine lv_bipush (v := (-71)) hx hb dL_isTold_213 (by decide) ?_
                                                          refine lv_icmp_ne (tgt := 308) hx hb dL_isTold_215 (by decide) (fun c9 => absurd (by decide) c9) (fun _ => ?_)
                                                          refine lv_aload_n hx hb dL_isTold_218 rfl (lv_at hl9 1 rfl) ?_
                                                          refine lv_iconst (v := (-1)) hx hb dL_isTold_219 (by decide) ?_
                                                          refine hp_SH (As := [.ref xo, .int (-1)]) (rest := []) B0 hw hS (c_V_givenAt_I hl G f435 xo ez eo bu nw0 na0 nq0 nr0 nw1 na1 nq1 nr1 bs bp bh bf bl bg S0 S1 gw0 ga0 gw1 ga1 n a cg x sa pk fl gv gh gl hC436 (Nat.lt_of_le_of_lt hl0 (by decide)) (Nat.lt_of_le_of_lt hl1 (by decide)) (-1) (fun h9 => absurd h9.1 (by decide))) mH_L_givenAt qM_L_158 rfl rfl hl9.1 (Nat.le_of_ble_eq_true rfl) ⟨⟨Nat.le_of_ble_eq_true rfl, Nat.le_of_ble_eq_true rfl⟩, Nat.le_of_ble_eq_true rfl, Nat.le_of_ble_eq_true rfl⟩ dL_isTold_220 (fun E ce q9 f438 H locs hPX hw hS hce hcv hcl => ?_) (fun v f438 H locs hP hw hS => ?_)
                                                          · exact hPX.elim
                                                          · obtain ⟨ev9, hC439, k440⟩ := hP
                                                            subst ev9
                                                            have hC439 : CXW G f438 xo ez eo bu nw0 na0 nq0 nr0 nw1 na1 nq1 nr1 bs bp bh bf bl bg S0 S1 gw0 ga0 gw1 ga1 n a cg x sa pk fl gv gh gl := hC439
                                                            refine W.eq (g2 := F0 m 223 ls [.int (-71)]) rfl ?_
                                                            refine lv_bipush (v := (-71)) hx hb dL_isTold_223 (by decide) ?_
                                                            refine lv_icmp_ne (tgt := 308) hx hb dL_isTold_225 (by decide) (fun c9 => absurd (by decide) c9) (fun _ => ?_)
                                                            refine lv_aload_n hx hb dL_isTold_228 rfl (lv_at hl9 1 rfl) ?_
                                                            refine lv_ldc (v := 2147483647) hx hb B0.2.2.2.1 (B0.2.2.2.2.1 _ qK_L_68) dL_isTold_229 ?_
                                                            refine hp_SH (As := [.ref xo, .int 2147483647]) (rest := []) B0 hw hS (c_V_givenAt_I hl G f438 xo ez eo bu nw0 na0 nq0 nr0 nw1 na1 nq1 nr1 bs bp bh bf bl bg S0 S1 gw0 ga0 gw1 ga1 n a cg x sa pk fl gv gh gl hC439 (Nat.lt_of_le_of_lt hl0 (by decide)) (Nat.lt_of_le_of_lt hl1 (by decide)) 2147483647 (fun h9 => by have h8 := h9.2; rw [show (2147483647 : Int32).toInt = 2147483647 from by decide] at h8; omega)) mH_L_givenAt qM_L_158 rfl rfl hl9.1 (Nat.le_of_ble_eq_true rfl) ⟨⟨Nat.le_of_ble_eq_true rfl, Nat.le_of_ble_eq_true rfl⟩, Nat.le_of_ble_eq_true rfl, Nat.le_of_ble_eq_true rfl⟩ dL_isTold_231 (fun E ce q9 f441 H locs hPX hw hS hce hcv hcl => ?_) (fun v f441 H locs hP hw hS => ?_)
                                                            · exact hPX.elim
                                                            · obtain ⟨ev9, hC442, k443⟩ := hP
                                                              subst ev9
                                                              have hC442 : CXW G f441 xo ez eo bu nw0 na0 nq0 nr0 nw1 na1 nq1 nr1 bs bp bh bf bl bg S0 S1 gw0 ga0 gw1 ga1 n a cg x sa pk fl gv gh gl := hC442
                                                              refine W.eq (g2 := F0 m 234 ls [.int (-71)]) rfl ?_
                                                              refine lv_bipush (v := (-71)) hx hb dL_isTold_234 (by decide) ?_
                                                              refine lv_icmp_ne (tgt := 308) hx hb dL_isTold_236 (by decide) (fun c9 => absurd (by decide) c9) (fun _ => ?_)
                                                              refine lv_aload_n hx hb dL_isTold_239 rfl (lv_at hl9 1 rfl) ?_
                                                              refine lv_iconst (v := 2) hx hb dL_isTold_240 (by decide) ?_
                                                              refine hp_SH (As := [.ref xo, .int 2]) (rest := []) B0 hw hS (c_V_stateOf_E hl G f441 xo ez eo bu nw0 na0 nq0 nr0 nw1 na1 nq1 nr1 bs bp bh bf bl bg S0 S1 gw0 ga0 gw1 ga1 n a cg x sa pk fl gv gh gl hC442 (Nat.lt_of_le_of_lt hl0 (by decide)) (Nat.lt_of_le_of_lt hl1 (by decide)) 2 (by decide)) mH_L_stateOf qM_L_141 rfl rfl hl9.1 (Nat.le_of_ble_eq_true rfl) ⟨⟨Nat.le_of_ble_eq_true rfl, Nat.le_of_ble_eq_true rfl⟩, Nat.le_of_ble_eq_true rfl, Nat.le_of_ble_eq_true rfl⟩ dL_isTold_241 (fun E ce q9 f444 H locs hPX hw hS hce hcv hcl => ?_) (fun v f444 H locs hP hw hS => ?_)
                                                              · exact hPX.elim
                                                              · obtain ⟨ev9, hC445, k446⟩ := hP
                                                                subst ev9
                                                                have hC445 : CXW G f444 xo ez eo bu nw0 na0 nq0 nr0 nw1 na1 nq1 nr1 bs bp bh bf bl bg S0 S1 gw0 ga0 gw1 ga1 n a cg x sa pk fl gv gh gl := hC445
                                                                refine W.eq (g2 := F0 m 244 ls [.int (-71)]) rfl ?_
                                                                refine lv_bipush (v := (-71)) hx hb dL_isTold_244 (by decide) ?_
                                                                refine lv_icmp_ne (tgt := 308) hx hb dL_isTold_246 (by decide) (fun c9 => absurd (by decide) c9) (fun _ => ?_)
                                                                refine lv_aload_n hx hb dL_isTold_249 rfl (lv_at hl9 1 rfl) ?_
                                                                refine lv_ldc (v := (-2147483648)) hx hb B0.2.2.2.1 (B0.2.2.2.2.1 _ qK_L_67) dL_isTold_250 ?_
                                                                refine hp_SH (As := [.ref xo, .int (-2147483648)]) (rest := []) B0 hw hS (c_V_stateOf_E hl G f444 xo ez eo bu nw0 na0 nq0 nr0 nw1 na1 nq1 nr1 bs bp bh bf bl bg S0 S1 gw0 ga0 gw1 ga1 n a cg x sa pk fl gv gh gl hC445 (Nat.lt_of_le_of_lt hl0 (by decide)) (Nat.lt_of_le_of_lt hl1 (by decide)) (-2147483648) (by decide)) mH_L_stateOf qM_L_141 rfl rfl hl9.1 (Nat.le_of_ble_eq_true rfl) ⟨⟨Nat.le_of_ble_eq_true rfl, Nat.le_of_ble_eq_true rfl⟩, Nat.le_of_ble_eq_true rfl, Nat.le_of_ble_eq_true rfl⟩ dL_isTold_252 (fun E ce q9 f447 H locs hPX hw hS hce hcv hcl => ?_) (fun v f447 H locs hP hw hS => ?_)
                                                                · exact hPX.elim
                                                                · obtain ⟨ev9, hC448, k449⟩ := hP
                                                                  subst ev9
                                                                  have hC448 : CXW G f447 xo ez eo bu nw0 na0 nq0 nr0 nw1 na1 nq1 nr1 bs bp bh bf bl bg S0 S1 gw0 ga0 gw1 ga1 n a cg x sa pk fl gv gh gl := hC448
                                                                  refine W.eq (g2 := F0 m 255 ls [.int (-71)]) rfl ?_
                                                                  refine lv_bipush (v := (-71)) hx hb dL_isTold_255 (by decide) ?_
                                                                  refine lv_icmp_ne (tgt := 308) hx hb dL_isTold_257 (by decide) (fun c9 => absurd (by decide) c9) (fun _ => ?_)
                                                                  refine lv_aload_n hx hb dL_isTold_260 rfl (lv_at hl9 1 rfl) ?_
                                                                  refine lv_iconst (v := 0) hx hb dL_isTold_261 (by decide) ?_
                                                                  refine lv_bipush (v := 6) hx hb dL_isTold_262 (by decide) ?_
                                                                  refine hp_SH (As := [.ref xo, .int 0, .int 6]) (rest := []) B0 hw hS (c_V_asked_O0 hl G f447 xo ez eo bu nw0 na0 nq0 nr0 nw1 na1 nq1 nr1 bs bp bh bf bl bg S0 S1 gw0 ga0 gw1 ga1 n a cg x sa pk fl gv gh gl hC448 (Nat.lt_of_le_of_lt hl0 (by decide)) (Nat.lt_of_le_of_lt hl1 (by decide)) 6 (by decide)) mH_L_asked qM_L_155 rfl rfl hl9.1 (Nat.le_of_ble_eq_true rfl) ⟨⟨Nat.le_of_ble_eq_true rfl, Nat.le_of_ble_eq_true rfl⟩, Nat.le_of_ble_eq_true rfl, Nat.le_of_ble_eq_true rfl⟩ dL_isTold_264 (fun E ce q9 f450 H locs hPX hw hS hce hcv hcl => ?_) (fun v f450 H locs hP hw hS => ?_)
                                                                  · exact hPX.elim
                                                                  · obtain ⟨ev9, hC451, k452⟩ := hP
                                                                    subst ev9
                                                                    have hC451 : CXW G f450 xo ez eo bu nw0 na0 nq0 nr0 nw1 na1 nq1 nr1 bs bp bh bf bl bg S0 S1 gw0 ga0 gw1 ga1 n a cg x sa pk fl gv gh gl := hC451
                                                                    refine W.eq (g2 := F0 m 267 ls [.int (-71)]) rfl ?_
                                                                    refine lv_bipush (v := (-71)) hx hb dL_isTold_267 (by decide) ?_
                                                                    refine lv_icmp_ne (tgt := 308) hx hb dL_isTold_269 (by decide) (fun c9 => absurd (by decide) c9) (fun _ => ?_)
                                                                    refine lv_aload_n hx hb dL_isTold_272 rfl (lv_at hl9 1 rfl) ?_
                                                                    refine lv_iconst (v := 2) hx hb dL_isTold_273 (by decide) ?_
                                                                    refine lv_iconst (v := 0) hx hb dL_isTold_274 (by decide) ?_
                                                                    refine hp_SH (As := [.ref xo, .int 2, .int 0]) (rest := []) B0 hw hS (c_V_asked_E hl G f450 xo ez eo bu nw0 na0 nq0 nr0 nw1 na1 nq1 nr1 bs bp bh bf bl bg S0 S1 gw0 ga0 gw1 ga1 n a cg x sa pk fl gv gh gl hC451 (Nat.lt_of_le_of_lt hl0 (by decide)) (Nat.lt_of_le_of_lt hl1 (by decide)) 2 0 (by decide)) mH_L_asked qM_L_155 rfl rfl hl9.1 (Nat.le_of_ble_eq_true rfl) ⟨⟨Nat.le_of_ble_eq_true rfl, Nat.le_of_ble_eq_true rfl⟩, Nat.le_of_ble_eq_true rfl, Nat.le_of_ble_eq_true rfl⟩ dL_isTold_275 (fun E ce q9 f453 H locs hPX hw hS hce hcv hcl => ?_) (fun v f453 H locs hP hw hS => ?_)
                                                                    · exact hPX.elim
                                                                    · obtain ⟨ev9, hC454, k455⟩ := hP
                                                                      subst ev9
                                                                      have hC454 : CXW G f453 xo ez eo bu nw0 na0 nq0 nr0 nw1 na1 nq1 nr1 bs bp bh bf bl bg S0 S1 gw0 ga0 gw1 ga1 n a cg x sa pk fl gv gh gl := hC454
                                                                      refine W.eq (g2 := F0 m 278 ls [.int (-71)]) rfl ?_
                                                                      refine lv_bipush (v := (-71)) hx hb dL_isTold_278 (by decide) ?_
                                                                      refine lv_icmp_ne (tgt := 308) hx hb dL_isTold_280 (by decide) (fun c9 => absurd (by decide) c9) (fun _ => ?_)
                                                                      refine lv_aload_n hx hb dL_isTold_283 rfl (lv_at hl9 1 rfl) ?_
                                                                      refine lv_iconst (v := 0) hx hb dL_isTold_284 (by decide) ?_
                                                                      refine lv_iconst (v := (-1)) hx hb dL_isTold_285 (by decide) ?_
                                                                      refine hp_SH (As := [.ref xo, .int 0, .int (-1)]) (rest := []) B0 hw hS (c_V_asked_O0 hl G f453 xo ez eo bu nw0 na0 nq0 nr0 nw1 na1 nq1 nr1 bs bp bh bf bl bg S0 S1 gw0 ga0 gw1 ga1 n a cg x sa pk fl gv gh gl hC454 (Nat.lt_of_le_of_lt hl0 (by decide)) (Nat.lt_of_le_of_lt hl1 (by decide)) (-1) (by decide)) mH_L_asked qM_L_155 rfl rfl hl9.1 (Nat.le_of_ble_eq_true rfl) ⟨⟨Nat.le_of_ble_eq_true rfl, Nat.le_of_ble_eq_true rfl⟩, Nat.le_of_ble_eq_true rfl, Nat.le_of_ble_eq_true rfl⟩ dL_isTold_286 (fun E ce q9 f456 H locs hPX hw hS hce hcv hcl => ?_) (fun v f456 H locs hP hw hS => ?_)
                                                                      · exact hPX.elim
                                                                      · obtain ⟨ev9, hC457, k458⟩ := hP
                                                                        subst ev9
                                                                        have hC457 : CXW G f456 xo ez eo bu nw0 na0 nq0 nr0 nw1 na1 nq1 nr1 bs bp bh bf bl bg S0 S1 gw0 ga0 gw1 ga1 n a cg x sa pk fl gv gh gl := hC457
                                                                        refine W.eq (g2 := F0 m 289 ls [.int (-71)]) rfl ?_
                                                                        refine lv_bipush (v := (-71)) hx hb dL_isTold_289 (by decide) ?_
                                                                        refine lv_icmp_ne (tgt := 308) hx hb dL_isTold_291 (by decide) (fun c9 => absurd (by decide) c9) (fun _ => ?_)
                                                                        refine lv_aload_n hx hb dL_isTold_294 rfl (lv_at hl9 1 rfl) ?_
                                                                        refine lv_iconst (v := (-1)) hx hb dL_isTold_295 (by decide) ?_
                                                                        refine hp_SH (As := [.ref xo, .int (-1)]) (rest := []) B0 hw hS (c_V_underWay_E hl G f456 xo ez eo bu nw0 na0 nq0 nr0 nw1 na1 nq1 nr1 bs bp bh bf bl bg S0 S1 gw0 ga0 gw1 ga1 n a cg x sa pk fl gv gh gl hC457 (Nat.lt_of_le_of_lt hl0 (by decide)) (Nat.lt_of_le_of_lt hl1 (by decide)) (-1) (by decide)) mH_L_underWay qM_L_150 rfl rfl hl9.1 (Nat.le_of_ble_eq_true rfl) ⟨⟨Nat.le_of_ble_eq_true rfl, Nat.le_of_ble_eq_true rfl⟩, Nat.le_of_ble_eq_true rfl, Nat.le_of_ble_eq_true rfl⟩ dL_isTold_296 (fun E ce q9 f459 H locs hPX hw hS hce hcv hcl => ?_) (fun v f459 H locs hP hw hS => ?_)
                                                                        · exact hPX.elim
                                                                        · obtain ⟨ev9, hC460, k461⟩ := hP
                                                                          subst ev9
                                                                          have hC460 : CXW G f459 xo ez eo bu nw0 na0 nq0 nr0 nw1 na1 nq1 nr1 bs bp bh bf bl bg S0 S1 gw0 ga0 gw1 ga1 n a cg x sa pk fl gv gh gl := hC460
                                                                          refine W.eq (g2 := F0 m 299 ls [.int (-71)]) rfl ?_
                                                                          refine lv_bipush (v := (-71)) hx hb dL_isTold_299 (by decide) ?_
                                                                          refine lv_icmp_ne (tgt := 308) hx hb dL_isTold_301 (by decide) (fun c9 => absurd (by decide) c9) (fun _ => ?_)
                                                                          refine lv_iconst (v := 1) hx hb dL_isTold_304 (by decide) ?_
                                                                          refine lv_goto (tgt := 309) hx hb dL_isTold_305 (by decide) ?_
                                                                          exact hp_zret (v := 1) B0 hw hS hr ⟨Nat.le_of_ble_eq_true rfl, Nat.le_of_ble_eq_true rfl⟩ (rfl) dL_isTold_309 (⟨rfl, hC460, ((show hKn [xo, ez, eo, bu, nw0, na0, nq0, nr0, nw1, na1, nq1, nr1, bs, bp, bh, bf, bl, bg] f f9 from (hKn.mono hk9 (fun _ h9 => h9))).tr ((show hKn [xo, ez, eo, bu, nw0, na0, nq0, nr0, nw1, na1, nq1, nr1, bs, bp, bh, bf, bl, bg] f9 f426 from (hKn.mono k428 (fun _ h9 => h9))).tr ((show hKn [xo, ez, eo, bu, nw0, na0, nq0, nr0, nw1, na1, nq1, nr1, bs, bp, bh, bf, bl, bg] f426 f431 from (hKn.mono k433 (fun _ h9 => h9))).tr ((show hKn [xo, ez, eo, bu, nw0, na0, nq0, nr0, nw1, na1, nq1, nr1, bs, bp, bh, bf, bl, bg] f431 f435 from (hKn.mono k437 (fun _ h9 => h9))).tr ((show hKn [xo, ez, eo, bu, nw0, na0, nq0, nr0, nw1, na1, nq1, nr1, bs, bp, bh, bf, bl, bg] f435 f438 from (hKn.mono k440 (fun _ h9 => h9))).tr ((show hKn [xo, ez, eo, bu, nw0, na0, nq0, nr0, nw1, na1, nq1, nr1, bs, bp, bh, bf, bl, bg] f438 f441 from (hKn.mono k443 (fun _ h9 => h9))).tr ((show hKn [xo, ez, eo, bu, nw0, na0, nq0, nr0, nw1, na1, nq1, nr1, bs, bp, bh, bf, bl, bg] f441 f444 from (hKn.mono k446 (fun _ h9 => h9))).tr ((show hKn [xo, ez, eo, bu, nw0, na0, nq0, nr0, nw1, na1, nq1, nr1, bs, bp, bh, bf, bl, bg] f444 f447 from (hKn.mono k449 (fun _ h9 => h9))).tr ((show hKn [xo, ez, eo, bu, nw0, na0, nq0, nr0, nw1, na1, nq1, nr1, bs, bp, bh, bf, bl, bg] f447 f450 from (hKn.mono k452 (fun _ h9 => h9))).tr ((show hKn [xo, ez, eo, bu, nw0, na0, nq0, nr0, nw1, na1, nq1, nr1, bs, bp, bh, bf, bl, bg] f450 f453 from (hKn.mono k455 (fun _ h9 => h9))).tr ((show hKn [xo, ez, eo, bu, nw0, na0, nq0, nr0, nw1, na1, nq1, nr1, bs, bp, bh, bf, bl, bg] f453 f456 from (hKn.mono k458 (fun _ h9 => h9))).tr (show hKn [xo, ez, eo, bu, nw0, na0, nq0, nr0, nw1, na1, nq1, nr1, bs, bp, bh, bf, bl, bg] f456 f459 from (hKn.mono k461 (fun _ h9 => h9))))))))))))))⟩)

