def g10r (tk : Nat → Nat) (gl : Nat → Int32) (a n x c : Nat) : Nat → Int32 := fun i => if i < 3 then nI (tk i) else if i < 6 then gl (i - 3) else if i = 6 then nI a else if i = 7 then nI n else if i = 8 then nI x else if i = 9 then nI c else 0
theorem g10_t {tk : Nat → Nat} {gl : Nat → Int32} {a n x c j v : Nat} (hj : j < 3) : upd (g10r tk gl a n x c) j (nI v) = g10r (va_up tk j v) gl a n x c := by
  funext i
  simp only [upd, g10r, va_up]
  by_cases e : i = j
  · rw [if_pos e, if_pos (by omega), if_pos e]
  · rw [if_neg e, if_neg e]
theorem g10_l {tk : Nat → Nat} {gl : Nat → Int32} {a n x c j : Nat} {v : Int32} (hj : j < 3) : upd (g10r tk gl a n x c) (3 + j) v = g10r tk (upd gl j v) a n x c := by
  funext i
  simp only [upd, g10r]
  by_cases e : i = 3 + j
  · rw [if_pos e, if_neg (by omega), if_pos (by omega), if_pos (by omega)]
  · rw [if_neg e]
    by_cases l : i < 3
    · rw [if_pos l, if_pos l]
    · rw [if_neg l, if_neg l]
      by_cases l2 : i < 6
      · rw [if_pos l2, if_pos l2, if_neg (by omega)]
      · rw [if_neg l2, if_neg l2]
theorem g10_6 {tk : Nat → Nat} {gl : Nat → Int32} {a n x c v : Nat} : upd (g10r tk gl a n x c) 6 (nI v) = g10r tk gl v n x c := by
  funext i; simp only [upd, g10r]; by_cases h : i = 6 <;> simp [h]
theorem g10_7 {tk : Nat → Nat} {gl : Nat → Int32} {a n x c v : Nat} : upd (g10r tk gl a n x c) 7 (nI v) = g10r tk gl a v x c := by
  funext i; simp only [upd, g10r]; by_cases h : i = 7 <;> simp [h]
theorem g10_8 {tk : Nat → Nat} {gl : Nat → Int32} {a n x c v : Nat} : upd (g10r tk gl a n x c) 8 (nI v) = g10r tk gl a n v c := by
  funext i; simp only [upd, g10r]; by_cases h : i = 8 <;> simp [h]
theorem g10_9 {tk : Nat → Nat} {gl : Nat → Int32} {a n x c v : Nat} : upd (g10r tk gl a n x c) 9 (nI v) = g10r tk gl a n x v := by
  funext i; simp only [upd, g10r]; by_cases h : i = 9 <;> simp [h]
/-- the pieces that have come, as bits -/
def HB (hn : Nat) (gh : Nat → Int32) : Prop := hn < 2 ^ 60 ∧ ∀ i, i < 60 → (hn / 2 ^ i % 2 = 1 ↔ ¬ gh i = 0)
set_option maxHeartbeats 4000000 in
set_option maxRecDepth 100000 in
theorem c_L_isTold {l : Launch} (hl : l.stackTraces = false) (G : hG) (f : hM) (xo ez eo bu nw0 na0 nq0 nr0 nw1 na1 nq1 nr1 bs bp bh bf bl bg : Nat) (S0 : ES) (S1 : ES) (gw0 : Nat → Int32) (ga0 : Nat → Int32) (gw1 : Nat → Int32) (ga1 : Nat → Int32) (n : Nat) (a : Nat) (cg : Nat) (x : Nat) (sa : Nat → Nat) (pk : Nat → Nat) (fl : Nat → Nat) (gv : Nat → Nat) (gh : Nat → Int32) (gl : Nat → Int32) (hC : CXW G f xo ez eo bu nw0 na0 nq0 nr0 nw1 na1 nq1 nr1 bs bp bh bf bl bg S0 S1 gw0 ga0 gw1 ga1 n a cg x sa pk fl gv gh gl) (lq le lr lg : Nat) (hdis : ∀ p, p ∈ [xo, ez, eo, bu, nw0, na0, nq0, nr0, nw1, na1, nq1, nr1, bs, bp, bh, bf, bl, bg] → p ∉ [lq, le, lr, lg]) (hdos : ∀ p, p ∈ [lq, le, lr, lg] → p ∉ [xo, ez, eo, bu, nw0, na0, nq0, nr0, nw1, na1, nq1, nr1, bs, bp, bh, bf, bl, bg]) (b : Nat) (gw2 ga2 gw3 ga3 : Nat → Int32) (hInv : INV b S0 S1 gw2 ga2 gw3 ga3) (hl0 : S0.2.2.2.2.2.2.2.2.length ≤ 52) (hl1 : S1.2.2.2.2.2.2.2.2.length ≤ 52) (tk : Nat → Nat) (k_lq : f lq = some (.inl (cI G, 12, .inl (j6r S0.2.2.2.2.2.2.2.1 S1.2.2.2.2.2.2.2.1)))) (k_le : f le = some (.inl (cI G, 16, .inl (jE (eSt S0) (eSt S1))))) (k_lr : f lr = some (.inl (cI G, 60, .inl (nf gv)))) (k_lg : f lg = some (.inl (cI G, 10, .inl (g10r tk gl a n x cg)))) : CT l yL_isTold (.code yL_isTold cL_isTold 8 (some .boolean)) 9 150 45 270 G [.ref xo, .ref lq, .ref le, .ref lr, .ref lg] f (fun v f1 => v = some (.int 1) ∧ CXW G f1 xo ez eo bu nw0 na0 nq0 nr0 nw1 na1 nq1 nr1 bs bp bh bf bl bg S0 S1 gw0 ga0 gw1 ga1 n a cg x sa pk fl gv gh gl ∧ hKn [xo, ez, eo, bu, nw0, na0, nq0, nr0, nw1, na1, nq1, nr1, bs, bp, bh, bf, bl, bg] f f1) (fun E f1 => False) := by
  refine hp_start hl (own := RL) (by decide) rfl (Nat.le_of_ble_eq_true rfl) ?_
  intro p e s m args below meth c B0 hr hnm hout hw hS ls hl9
  have hx := B0.1
  have hb := B0.2.1
  have hl9 : lv_has ls 8 [(0, .ref xo), (1, .ref lq), (2, .ref le), (3, .ref lr), (4, .ref lg)] := hl9
  have n_lq_le : lq ≠ le := hneL k_lq k_le (Nat.ne_of_beq_eq_false rfl)
  have n_lq_lr : lq ≠ lr := hneL k_lq k_lr (Nat.ne_of_beq_eq_false rfl)
  have n_lq_lg : lq ≠ lg := hneL k_lq k_lg (Nat.ne_of_beq_eq_false rfl)
  have n_le_lr : le ≠ lr := hneL k_le k_lr (Nat.ne_of_beq_eq_false rfl)
  have n_le_lg : le ≠ lg := hneL k_le k_lg (Nat.ne_of_beq_eq_false rfl)
  have n_lr_lg : lr ≠ lg := hneL k_lr k_lg (Nat.ne_of_beq_eq_false rfl)
  obtain ⟨hSo0, hSo1, -, -, -, -⟩ := id hInv
  have hc60 : cg ≤ 60 := by obtain ⟨_, _, h9⟩ := hC; exact (h9.2.2.2.2.2.2.2.2.2.2.2.2.2.2.1).cc
  have hlp0 := hSo0.2.2.2.1
  have hlp1 := hSo1.2.2.2.1
  have k_xo : f xo = some (.inr (4, [.ref ez, .ref eo, .ref bu])) := by obtain ⟨_, _, h9⟩ := hC; exact h9.1
  refine lv_iconst (v := 0) hx hb dL_isTold_0 (by decide) ?_
  refine lv_istore (lv' := [(5, .int 0), (0, .ref xo), (1, .ref lq), (2, .ref le), (3, .ref lr), (4, .ref lg)]) hx hb dL_isTold_1 hl9 (by decide) rfl (fun ls hl9 => ?_)
  refine lv_iload hx hb dL_isTold_3 (lv_at hl9 0 rfl) ?_
  refine lv_iconst (v := 2) hx hb dL_isTold_5 (by decide) ?_
  refine lv_icmp_ge (tgt := 146) hx hb dL_isTold_6 (by decide) (fun c9 => absurd c9 (by decide)) (fun _ => ?_)
  refine lv_bipush (v := 8) hx hb dL_isTold_9 (by decide) ?_
  refine lv_iload hx hb dL_isTold_11 (lv_at hl9 0 rfl) ?_
  refine lv_imul hx hb dL_isTold_13 ?_
  refine hp_c (v := 0) (by decide) ?_
  refine lv_istore (lv' := [(6, .int 0), (5, .int 0), (0, .ref xo), (1, .ref lq), (2, .ref le), (3, .ref lr), (4, .ref lg)]) hx hb dL_isTold_14 hl9 (by decide) rfl (fun ls hl9 => ?_)
  refine lv_aload_n hx hb dL_isTold_16 rfl (lv_at hl9 2 rfl) ?_
  refine lv_iload hx hb dL_isTold_17 (lv_at hl9 1 rfl) ?_
  refine hp_SH (As := [.ref xo, .int 0]) (rest := []) B0 hw hS (c_V_stateOf_0 hl G f xo ez eo bu nw0 na0 nq0 nr0 nw1 na1 nq1 nr1 bs bp bh bf bl bg S0 S1 gw0 ga0 gw1 ga1 n a cg x sa pk fl gv gh gl hC (Nat.lt_of_le_of_lt hl0 (by decide)) (Nat.lt_of_le_of_lt hl1 (by decide)) ) mH_L_stateOf qM_L_141 rfl rfl hl9.1 (Nat.le_of_ble_eq_true rfl) ⟨⟨Nat.le_of_ble_eq_true rfl, Nat.le_of_ble_eq_true rfl⟩, Nat.le_of_ble_eq_true rfl, Nat.le_of_ble_eq_true rfl⟩ dL_isTold_19 (fun E ce q9 f1 H locs hPX hw hS hce hcv hcl => ?_) (fun v f1 H locs hP hw hS => ?_)
  · exact hPX.elim
  · obtain ⟨ev9, hC2, k3⟩ := hP
    subst ev9
    have hC2 : CXW G f1 xo ez eo bu nw0 na0 nq0 nr0 nw1 na1 nq1 nr1 bs bp bh bf bl bg S0 S1 gw0 ga0 gw1 ga1 n a cg x sa pk fl gv gh gl := hC2
    refine W.eq (g2 := F0 m 22 ls [.int (S0.1)]) rfl ?_
    refine lv_aload_n hx hb dL_isTold_22 rfl (lv_at hl9 4 rfl) ?_
    refine lv_iload hx hb dL_isTold_23 (lv_at hl9 0 rfl) ?_
    have h4 : f1 le = some (.inl (cI G, 16, .inl (jE (eSt S0) (eSt S1)))) := k3 _ _ k_le (Nat.ne_of_beq_eq_false rfl) (hdos _ (List.mem_cons_of_mem _ List.mem_cons_self))
    refine hp_iald B0 hw h4 (by unfold vp_in; decide) dL_isTold_25 ?_
    refine hp_c (v := S0.1) (rfl) ?_
    refine lv_icmp_ne (tgt := 99) hx hb dL_isTold_26 (by decide) (fun c9 => absurd rfl c9) (fun _ => ?_)
    refine lv_aload_n hx hb dL_isTold_29 rfl (lv_at hl9 2 rfl) ?_
    refine lv_iload hx hb dL_isTold_30 (lv_at hl9 1 rfl) ?_
    have h5 : f1 xo = some (.inr (4, [.ref ez, .ref eo, .ref bu])) := by obtain ⟨_, _, h9⟩ := hC2; exact h9.1
    refine hp_V (ci := 4) (As := [.int 0]) (rest := []) B0 hw hS (c_P_requests_0 hl G f1 xo ez eo bu nw0 na0 nq0 nr0 nw1 na1 nq1 nr1 bs bp bh bf bl bg S0 S1 gw0 ga0 gw1 ga1 n a cg x sa pk fl gv gh gl hC2 (Nat.lt_of_le_of_lt hl0 (by decide)) (Nat.lt_of_le_of_lt hl1 (by decide))) mV_X4_requests qM_L_143 rfl h5 rfl rfl hl9.1 (Nat.le_of_ble_eq_true rfl) ⟨⟨Nat.le_of_ble_eq_true rfl, Nat.le_of_ble_eq_true rfl⟩, Nat.le_of_ble_eq_true rfl, Nat.le_of_ble_eq_true rfl⟩ dL_isTold_32 (fun E ce q9 f6 H locs hPX hw hS hce hcv hcl => ?_) (fun v f6 H locs hP hw hS => ?_)
    · exact hPX.elim
    · obtain ⟨ev9, hC7, k8⟩ := hP
      subst ev9
      refine W.eq (g2 := F0 m 35 ls [.int S0.2.2.1]) rfl ?_
      refine lv_aload_n hx hb dL_isTold_35 rfl (lv_at hl9 4 rfl) ?_
      refine lv_iload hx hb dL_isTold_36 (lv_at hl9 0 rfl) ?_
      refine lv_iconst (v := 2) hx hb dL_isTold_38 (by decide) ?_
      refine lv_iadd hx hb dL_isTold_39 ?_
      refine hp_c (v := 2) (by decide) ?_
      have h10 : f6 le = some (.inl (cI G, 16, .inl (jE (eSt S0) (eSt S1)))) := k8 _ _ h4 (Nat.ne_of_beq_eq_false rfl) (hdos _ (List.mem_cons_of_mem _ List.mem_cons_self))
      refine hp_iald B0 hw h10 (by unfold vp_in; decide) dL_isTold_40 ?_
      refine hp_c (v := S0.2.2.1) (rfl) ?_
      refine lv_icmp_ne (tgt := 99) hx hb dL_isTold_41 (by decide) (fun c9 => absurd rfl c9) (fun _ => ?_)
      refine lv_aload_n hx hb dL_isTold_44 rfl (lv_at hl9 2 rfl) ?_
      refine lv_iload hx hb dL_isTold_45 (lv_at hl9 1 rfl) ?_
      have h11 : f6 xo = some (.inr (4, [.ref ez, .ref eo, .ref bu])) := by obtain ⟨_, _, h9⟩ := hC7; exact h9.1
      refine hp_V (ci := 4) (As := [.int 0]) (rest := []) B0 hw hS (c_P_isLooped_0 hl G f6 xo ez eo bu nw0 na0 nq0 nr0 nw1 na1 nq1 nr1 bs bp bh bf bl bg S0 S1 gw0 ga0 gw1 ga1 n a cg x sa pk fl gv gh gl hC7 (Nat.lt_of_le_of_lt hl0 (by decide)) (Nat.lt_of_le_of_lt hl1 (by decide))) mV_X4_isLooped qM_L_146 rfl h11 rfl rfl hl9.1 (Nat.le_of_ble_eq_true rfl) ⟨⟨Nat.le_of_ble_eq_true rfl, Nat.le_of_ble_eq_true rfl⟩, Nat.le_of_ble_eq_true rfl, Nat.le_of_ble_eq_true rfl⟩ dL_isTold_47 (fun E ce q9 f12 H locs hPX hw hS hce hcv hcl => ?_) (fun v f12 H locs hP hw hS => ?_)
      · exact hPX.elim
      · obtain ⟨ev9, hC13, k14⟩ := hP
        subst ev9
        refine W.eq (g2 := F0 m 50 ls [.int S0.2.2.2.2.1]) rfl ?_
        refine lv_aload_n hx hb dL_isTold_50 rfl (lv_at hl9 4 rfl) ?_
        refine lv_iload hx hb dL_isTold_51 (lv_at hl9 0 rfl) ?_
        refine lv_iconst (v := 4) hx hb dL_isTold_53 (by decide) ?_
        refine lv_iadd hx hb dL_isTold_54 ?_
        refine hp_c (v := 4) (by decide) ?_
        have h15 : f12 le = some (.inl (cI G, 16, .inl (jE (eSt S0) (eSt S1)))) := k14 _ _ h10 (Nat.ne_of_beq_eq_false rfl) (hdos _ (List.mem_cons_of_mem _ List.mem_cons_self))
        refine hp_iald B0 hw h15 (by unfold vp_in; decide) dL_isTold_55 ?_
        refine hp_c (v := S0.2.2.2.2.1) (rfl) ?_
        refine lv_iconst (v := 1) hx hb dL_isTold_56 (by decide) ?_
        refine lv_icmp_ne (tgt := 64) hx hb dL_isTold_57 (by decide) (fun c16 => ?_) (fun c16 => ?_)
        · refine lv_iconst (v := 0) hx hb dL_isTold_64 (by decide) ?_
          refine lv_icmp_ne (tgt := 99) hx hb dL_isTold_65 (by decide) (fun c9 => absurd (hlp0.resolve_right c16) c9) (fun _ => ?_)
          refine lv_aload_n hx hb dL_isTold_68 rfl (lv_at hl9 2 rfl) ?_
          refine lv_iload hx hb dL_isTold_69 (lv_at hl9 1 rfl) ?_
          refine hp_SH (As := [.ref xo, .int 0]) (rest := []) B0 hw hS (c_V_underWay_0 hl G f12 xo ez eo bu nw0 na0 nq0 nr0 nw1 na1 nq1 nr1 bs bp bh bf bl bg S0 S1 gw0 ga0 gw1 ga1 n a cg x sa pk fl gv gh gl hC13 (Nat.lt_of_le_of_lt hl0 (by decide)) (Nat.lt_of_le_of_lt hl1 (by decide)) ) mH_L_underWay qM_L_150 rfl rfl hl9.1 (Nat.le_of_ble_eq_true rfl) ⟨⟨Nat.le_of_ble_eq_true rfl, Nat.le_of_ble_eq_true rfl⟩, Nat.le_of_ble_eq_true rfl, Nat.le_of_ble_eq_true rfl⟩ dL_isTold_71 (fun E ce q9 f17 H locs hPX hw hS hce hcv hcl => ?_) (fun v f17 H locs hP hw hS => ?_)
          · exact hPX.elim
          · obtain ⟨ev9, hC18, k19⟩ := hP
            subst ev9
            have hC18 : CXW G f17 xo ez eo bu nw0 na0 nq0 nr0 nw1 na1 nq1 nr1 bs bp bh bf bl bg S0 S1 gw0 ga0 gw1 ga1 n a cg x sa pk fl gv gh gl := hC18
            refine W.eq (g2 := F0 m 74 ls [.int ((nI S0.2.2.2.2.2.2.2.2.length))]) rfl ?_
            refine lv_aload_n hx hb dL_isTold_74 rfl (lv_at hl9 4 rfl) ?_
            refine lv_iload hx hb dL_isTold_75 (lv_at hl9 0 rfl) ?_
            refine lv_bipush (v := 7) hx hb dL_isTold_77 (by decide) ?_
            refine lv_iadd hx hb dL_isTold_79 ?_
            refine hp_c (v := 7) (by decide) ?_
            have h20 : f17 le = some (.inl (cI G, 16, .inl (jE (eSt S0) (eSt S1)))) := k19 _ _ h15 (Nat.ne_of_beq_eq_false rfl) (hdos _ (List.mem_cons_of_mem _ List.mem_cons_self))
            refine hp_iald B0 hw h20 (by unfold vp_in; decide) dL_isTold_80 ?_
            refine hp_c (v := (nI S0.2.2.2.2.2.2.2.2.length)) (rfl) ?_
            refine lv_icmp_ne (tgt := 99) hx hb dL_isTold_81 (by decide) (fun c9 => absurd rfl c9) (fun _ => ?_)
            refine lv_aload_n hx hb dL_isTold_84 rfl (lv_at hl9 2 rfl) ?_
            refine lv_iload hx hb dL_isTold_85 (lv_at hl9 1 rfl) ?_
            have h21 : f17 xo = some (.inr (4, [.ref ez, .ref eo, .ref bu])) := by obtain ⟨_, _, h9⟩ := hC18; exact h9.1
            refine hp_V (ci := 4) (As := [.int 0]) (rest := []) B0 hw hS (c_P_missed_0 hl G f17 xo ez eo bu nw0 na0 nq0 nr0 nw1 na1 nq1 nr1 bs bp bh bf bl bg S0 S1 gw0 ga0 gw1 ga1 n a cg x sa pk fl gv gh gl hC18 (Nat.lt_of_le_of_lt hl0 (by decide)) (Nat.lt_of_le_of_lt hl1 (by decide))) mV_X4_missed qM_L_152 rfl h21 rfl rfl hl9.1 (Nat.le_of_ble_eq_true rfl) ⟨⟨Nat.le_of_ble_eq_true rfl, Nat.le_of_ble_eq_true rfl⟩, Nat.le_of_ble_eq_true rfl, Nat.le_of_ble_eq_true rfl⟩ dL_isTold_87 (fun E ce q9 f22 H locs hPX hw hS hce hcv hcl => ?_) (fun v f22 H locs hP hw hS => ?_)
            · exact hPX.elim
            · obtain ⟨ev9, hC23, k24⟩ := hP
              subst ev9
              refine W.eq (g2 := F0 m 90 ls [.int S0.2.2.2.2.2.1]) rfl ?_
              refine lv_aload_n hx hb dL_isTold_90 rfl (lv_at hl9 4 rfl) ?_
              refine lv_iload hx hb dL_isTold_91 (lv_at hl9 0 rfl) ?_
              refine lv_iconst (v := 5) hx hb dL_isTold_93 (by decide) ?_
              refine lv_iadd hx hb dL_isTold_94 ?_
              refine hp_c (v := 5) (by decide) ?_
              have h25 : f22 le = some (.inl (cI G, 16, .inl (jE (eSt S0) (eSt S1)))) := k24 _ _ h20 (Nat.ne_of_beq_eq_false rfl) (hdos _ (List.mem_cons_of_mem _ List.mem_cons_self))
              refine hp_iald B0 hw h25 (by unfold vp_in; decide) dL_isTold_95 ?_
              refine hp_c (v := S0.2.2.2.2.2.1) (rfl) ?_
              refine lv_icmp_eq (tgt := 101) hx hb dL_isTold_96 (by decide) (fun _ => ?_) (fun c9 => absurd rfl c9)
              refine lv_iconst (v := 0) hx hb dL_isTold_101 (by decide) ?_
              refine lv_istore (lv' := [(7, .int 0), (6, .int 0), (5, .int 0), (0, .ref xo), (1, .ref lq), (2, .ref le), (3, .ref lr), (4, .ref lg)]) hx hb dL_isTold_102 hl9 (by decide) rfl (fun ls hl9 => ?_)
              refine lv_iload hx hb dL_isTold_104 (lv_at hl9 0 rfl) ?_
              refine lv_bipush (v := 6) hx hb dL_isTold_106 (by decide) ?_
              refine lv_icmp_ge (tgt := 140) hx hb dL_isTold_108 (by decide) (fun c9 => absurd c9 (by decide)) (fun _ => ?_)
              refine lv_aload_n hx hb dL_isTold_111 rfl (lv_at hl9 3 rfl) ?_
              refine lv_iload hx hb dL_isTold_112 (lv_at hl9 2 rfl) ?_
              refine lv_iload hx hb dL_isTold_114 (lv_at hl9 0 rfl) ?_
              refine hp_SH (As := [.ref xo, .int 0, .int 0]) (rest := []) B0 hw hS (c_V_asked_0 hl G f22 xo ez eo bu nw0 na0 nq0 nr0 nw1 na1 nq1 nr1 bs bp bh bf bl bg S0 S1 gw0 ga0 gw1 ga1 n a cg x sa pk fl gv gh gl hC23 (Nat.lt_of_le_of_lt hl0 (by decide)) (Nat.lt_of_le_of_lt hl1 (by decide)) 0 (by decide)) mH_L_asked qM_L_155 rfl rfl hl9.1 (Nat.le_of_ble_eq_true rfl) ⟨⟨Nat.le_of_ble_eq_true rfl, Nat.le_of_ble_eq_true rfl⟩, Nat.le_of_ble_eq_true rfl, Nat.le_of_ble_eq_true rfl⟩ dL_isTold_116 (fun E ce q9 f26 H locs hPX hw hS hce hcv hcl => ?_) (fun v f26 H locs hP hw hS => ?_)
              · exact hPX.elim
              · obtain ⟨ev9, hC27, k28⟩ := hP
                subst ev9
                have hC27 : CXW G f26 xo ez eo bu nw0 na0 nq0 nr0 nw1 na1 nq1 nr1 bs bp bh bf bl bg S0 S1 gw0 ga0 gw1 ga1 n a cg x sa pk fl gv gh gl := hC27
                refine W.eq (g2 := F0 m 119 ls [.int ((S0.2.2.2.2.2.2.2.1 0))]) rfl ?_
                refine lv_aload_n hx hb dL_isTold_119 rfl (lv_at hl9 4 rfl) ?_
                refine lv_bipush (v := 6) hx hb dL_isTold_120 (by decide) ?_
                refine lv_iload hx hb dL_isTold_122 (lv_at hl9 2 rfl) ?_
                refine lv_imul hx hb dL_isTold_124 ?_
                refine hp_c (v := 0) (by decide) ?_
                refine lv_iload hx hb dL_isTold_125 (lv_at hl9 0 rfl) ?_
                refine lv_iadd hx hb dL_isTold_127 ?_
                refine hp_c (v := 0) (by decide) ?_
                have h29 : f1 lq = some (.inl (cI G, 12, .inl (j6r S0.2.2.2.2.2.2.2.1 S1.2.2.2.2.2.2.2.1))) := k3 _ _ k_lq (Nat.ne_of_beq_eq_false rfl) (hdos _ List.mem_cons_self)
                have h30 : f6 lq = some (.inl (cI G, 12, .inl (j6r S0.2.2.2.2.2.2.2.1 S1.2.2.2.2.2.2.2.1))) := k8 _ _ h29 (Nat.ne_of_beq_eq_false rfl) (hdos _ List.mem_cons_self)
                have h31 : f12 lq = some (.inl (cI G, 12, .inl (j6r S0.2.2.2.2.2.2.2.1 S1.2.2.2.2.2.2.2.1))) := k14 _ _ h30 (Nat.ne_of_beq_eq_false rfl) (hdos _ List.mem_cons_self)
                have h32 : f17 lq = some (.inl (cI G, 12, .inl (j6r S0.2.2.2.2.2.2.2.1 S1.2.2.2.2.2.2.2.1))) := k19 _ _ h31 (Nat.ne_of_beq_eq_false rfl) (hdos _ List.mem_cons_self)
                have h33 : f22 lq = some (.inl (cI G, 12, .inl (j6r S0.2.2.2.2.2.2.2.1 S1.2.2.2.2.2.2.2.1))) := k24 _ _ h32 (Nat.ne_of_beq_eq_false rfl) (hdos _ List.mem_cons_self)
                have h34 : f26 lq = some (.inl (cI G, 12, .inl (j6r S0.2.2.2.2.2.2.2.1 S1.2.2.2.2.2.2.2.1))) := k28 _ _ h33 (Nat.ne_of_beq_eq_false rfl) (hdos _ List.mem_cons_self)
                refine hp_iald B0 hw h34 (by unfold vp_in; decide) dL_isTold_128 ?_
                refine hp_c (v := (S0.2.2.2.2.2.2.2.1 0)) (rfl) ?_
                refine lv_icmp_eq (tgt := 134) hx hb dL_isTold_129 (by decide) (fun _ => ?_) (fun c9 => absurd rfl c9)
                refine lv_iinc (v := 1) (lv' := [(7, .int 1), (6, .int 0), (5, .int 0), (0, .ref xo), (1, .ref lq), (2, .ref le), (3, .ref lr), (4, .ref lg)]) hx hb dL_isTold_134 hl9 (k := 0) rfl (by decide) (by decide) rfl (fun ls hl9 => ?_)
                refine lv_goto (tgt := 104) hx hb dL_isTold_137 (by decide) ?_
                refine lv_iload hx hb dL_isTold_104 (lv_at hl9 0 rfl) ?_
                refine lv_bipush (v := 6) hx hb dL_isTold_106 (by decide) ?_
                refine lv_icmp_ge (tgt := 140) hx hb dL_isTold_108 (by decide) (fun c9 => absurd c9 (by decide)) (fun _ => ?_)
                refine lv_aload_n hx hb dL_isTold_111 rfl (lv_at hl9 3 rfl) ?_
                refine lv_iload hx hb dL_isTold_112 (lv_at hl9 2 rfl) ?_
                refine lv_iload hx hb dL_isTold_114 (lv_at hl9 0 rfl) ?_
                refine hp_SH (As := [.ref xo, .int 0, .int 1]) (rest := []) B0 hw hS (c_V_asked_0 hl G f26 xo ez eo bu nw0 na0 nq0 nr0 nw1 na1 nq1 nr1 bs bp bh bf bl bg S0 S1 gw0 ga0 gw1 ga1 n a cg x sa pk fl gv gh gl hC27 (Nat.lt_of_le_of_lt hl0 (by decide)) (Nat.lt_of_le_of_lt hl1 (by decide)) 1 (by decide)) mH_L_asked qM_L_155 rfl rfl hl9.1 (Nat.le_of_ble_eq_true rfl) ⟨⟨Nat.le_of_ble_eq_true rfl, Nat.le_of_ble_eq_true rfl⟩, Nat.le_of_ble_eq_true rfl, Nat.le_of_ble_eq_true rfl⟩ dL_isTold_116 (fun E ce q9 f35 H locs hPX hw hS hce hcv hcl => ?_) (fun v f35 H locs hP hw hS => ?_)
                · exact hPX.elim
                · obtain ⟨ev9, hC36, k37⟩ := hP
                  subst ev9
                  have hC36 : CXW G f35 xo ez eo bu nw0 na0 nq0 nr0 nw1 na1 nq1 nr1 bs bp bh bf bl bg S0 S1 gw0 ga0 gw1 ga1 n a cg x sa pk fl gv gh gl := hC36
                  refine W.eq (g2 := F0 m 119 ls [.int ((S0.2.2.2.2.2.2.2.1 1))]) rfl ?_
                  refine lv_aload_n hx hb dL_isTold_119 rfl (lv_at hl9 4 rfl) ?_
                  refine lv_bipush (v := 6) hx hb dL_isTold_120 (by decide) ?_
                  refine lv_iload hx hb dL_isTold_122 (lv_at hl9 2 rfl) ?_
                  refine lv_imul hx hb dL_isTold_124 ?_
                  refine hp_c (v := 0) (by decide) ?_
                  refine lv_iload hx hb dL_isTold_125 (lv_at hl9 0 rfl) ?_
                  refine lv_iadd hx hb dL_isTold_127 ?_
                  refine hp_c (v := 1) (by decide) ?_
                  have h38 : f35 lq = some (.inl (cI G, 12, .inl (j6r S0.2.2.2.2.2.2.2.1 S1.2.2.2.2.2.2.2.1))) := k37 _ _ h34 (Nat.ne_of_beq_eq_false rfl) (hdos _ List.mem_cons_self)
                  refine hp_iald B0 hw h38 (by unfold vp_in; decide) dL_isTold_128 ?_
                  refine hp_c (v := (S0.2.2.2.2.2.2.2.1 1)) (rfl) ?_
                  refine lv_icmp_eq (tgt := 134) hx hb dL_isTold_129 (by decide) (fun _ => ?_) (fun c9 => absurd rfl c9)
                  refine lv_iinc (v := 2) (lv' := [(7, .int 2), (6, .int 0), (5, .int 0), (0, .ref xo), (1, .ref lq), (2, .ref le), (3, .ref lr), (4, .ref lg)]) hx hb dL_isTold_134 hl9 (k := 0) rfl (by decide) (by decide) rfl (fun ls hl9 => ?_)
                  refine lv_goto (tgt := 104) hx hb dL_isTold_137 (by decide) ?_
                  refine lv_iload hx hb dL_isTold_104 (lv_at hl9 0 rfl) ?_
                  refine lv_bipush (v := 6) hx hb dL_isTold_106 (by decide) ?_
                  refine lv_icmp_ge (tgt := 140) hx hb dL_isTold_108 (by decide) (fun c9 => absurd c9 (by decide)) (fun _ => ?_)
                  refine lv_aload_n hx hb dL_isTold_111 rfl (lv_at hl9 3 rfl) ?_
                  refine lv_iload hx hb dL_isTold_112 (lv_at hl9 2 rfl) ?_
                  refine lv_iload hx hb dL_isTold_114 (lv_at hl9 0 rfl) ?_
                  refine hp_SH (As := [.ref xo, .int 0, .int 2]) (rest := []) B0 hw hS (c_V_asked_0 hl G f35 xo ez eo bu nw0 na0 nq0 nr0 nw1 na1 nq1 nr1 bs bp bh bf bl bg S0 S1 gw0 ga0 gw1 ga1 n a cg x sa pk fl gv gh gl hC36 (Nat.lt_of_le_of_lt hl0 (by decide)) (Nat.lt_of_le_of_lt hl1 (by decide)) 2 (by decide)) mH_L_asked qM_L_155 rfl rfl hl9.1 (Nat.le_of_ble_eq_true rfl) ⟨⟨Nat.le_of_ble_eq_true rfl, Nat.le_of_ble_eq_true rfl⟩, Nat.le_of_ble_eq_true rfl, Nat.le_of_ble_eq_true rfl⟩ dL_isTold_116 (fun E ce q9 f39 H locs hPX hw hS hce hcv hcl => ?_) (fun v f39 H locs hP hw hS => ?_)
                  · exact hPX.elim
                  · obtain ⟨ev9, hC40, k41⟩ := hP
                    subst ev9
                    have hC40 : CXW G f39 xo ez eo bu nw0 na0 nq0 nr0 nw1 na1 nq1 nr1 bs bp bh bf bl bg S0 S1 gw0 ga0 gw1 ga1 n a cg x sa pk fl gv gh gl := hC40
                    refine W.eq (g2 := F0 m 119 ls [.int ((S0.2.2.2.2.2.2.2.1 2))]) rfl ?_
                    refine lv_aload_n hx hb dL_isTold_119 rfl (lv_at hl9 4 rfl) ?_
                    refine lv_bipush (v := 6) hx hb dL_isTold_120 (by decide) ?_
                    refine lv_iload hx hb dL_isTold_122 (lv_at hl9 2 rfl) ?_
                    refine lv_imul hx hb dL_isTold_124 ?_
                    refine hp_c (v := 0) (by decide) ?_
                    refine lv_iload hx hb dL_isTold_125 (lv_at hl9 0 rfl) ?_
                    refine lv_iadd hx hb dL_isTold_127 ?_
                    refine hp_c (v := 2) (by decide) ?_
                    have h42 : f39 lq = some (.inl (cI G, 12, .inl (j6r S0.2.2.2.2.2.2.2.1 S1.2.2.2.2.2.2.2.1))) := k41 _ _ h38 (Nat.ne_of_beq_eq_false rfl) (hdos _ List.mem_cons_self)
                    refine hp_iald B0 hw h42 (by unfold vp_in; decide) dL_isTold_128 ?_
                    refine hp_c (v := (S0.2.2.2.2.2.2.2.1 2)) (rfl) ?_
                    refine lv_icmp_eq (tgt := 134) hx hb dL_isTold_129 (by decide) (fun _ => ?_) (fun c9 => absurd rfl c9)
                    refine lv_iinc (v := 3) (lv' := [(7, .int 3), (6, .int 0), (5, .int 0), (0, .ref xo), (1, .ref lq), (2, .ref le), (3, .ref lr), (4, .ref lg)]) hx hb dL_isTold_134 hl9 (k := 0) rfl (by decide) (by decide) rfl (fun ls hl9 => ?_)
                    refine lv_goto (tgt := 104) hx hb dL_isTold_137 (by decide) ?_
                    refine lv_iload hx hb dL_isTold_104 (lv_at hl9 0 rfl) ?_
                    refine lv_bipush (v := 6) hx hb dL_isTold_106 (by decide) ?_
                    refine lv_icmp_ge (tgt := 140) hx hb dL_isTold_108 (by decide) (fun c9 => absurd c9 (by decide)) (fun _ => ?_)
                    refine lv_aload_n hx hb dL_isTold_111 rfl (lv_at hl9 3 rfl) ?_
                    refine lv_iload hx hb dL_isTold_112 (lv_at hl9 2 rfl) ?_
                    refine lv_iload hx hb dL_isTold_114 (lv_at hl9 0 rfl) ?_
                    refine hp_SH (As := [.ref xo, .int 0, .int 3]) (rest := []) B0 hw hS (c_V_asked_0 hl G f39 xo ez eo bu nw0 na0 nq0 nr0 nw1 na1 nq1 nr1 bs bp bh bf bl bg S0 S1 gw0 ga0 gw1 ga1 n a cg x sa pk fl gv gh gl hC40 (Nat.lt_of_le_of_lt hl0 (by decide)) (Nat.lt_of_le_of_lt hl1 (by decide)) 3 (by decide)) mH_L_asked qM_L_155 rfl rfl hl9.1 (Nat.le_of_ble_eq_true rfl) ⟨⟨Nat.le_of_ble_eq_true rfl, Nat.le_of_ble_eq_true rfl⟩, Nat.le_of_ble_eq_true rfl, Nat.le_of_ble_eq_true rfl⟩ dL_isTold_116 (fun E ce q9 f43 H locs hPX hw hS hce hcv hcl => ?_) (fun v f43 H locs hP hw hS => ?_)
                    · exact hPX.elim
                    · obtain ⟨ev9, hC44, k45⟩ := hP
                      subst ev9
                      have hC44 : CXW G f43 xo ez eo bu nw0 na0 nq0 nr0 nw1 na1 nq1 nr1 bs bp bh bf bl bg S0 S1 gw0 ga0 gw1 ga1 n a cg x sa pk fl gv gh gl := hC44
                      refine W.eq (g2 := F0 m 119 ls [.int ((S0.2.2.2.2.2.2.2.1 3))]) rfl ?_
                      refine lv_aload_n hx hb dL_isTold_119 rfl (lv_at hl9 4 rfl) ?_
                      refine lv_bipush (v := 6) hx hb dL_isTold_120 (by decide) ?_
                      refine lv_iload hx hb dL_isTold_122 (lv_at hl9 2 rfl) ?_
                      refine lv_imul hx hb dL_isTold_124 ?_
                      refine hp_c (v := 0) (by decide) ?_
                      refine lv_iload hx hb dL_isTold_125 (lv_at hl9 0 rfl) ?_
                      refine lv_iadd hx hb dL_isTold_127 ?_
                      refine hp_c (v := 3) (by decide) ?_
                      have h46 : f43 lq = some (.inl (cI G, 12, .inl (j6r S0.2.2.2.2.2.2.2.1 S1.2.2.2.2.2.2.2.1))) := k45 _ _ h42 (Nat.ne_of_beq_eq_false rfl) (hdos _ List.mem_cons_self)
                      refine hp_iald B0 hw h46 (by unfold vp_in; decide) dL_isTold_128 ?_
                      refine hp_c (v := (S0.2.2.2.2.2.2.2.1 3)) (rfl) ?_
                      refine lv_icmp_eq (tgt := 134) hx hb dL_isTold_129 (by decide) (fun _ => ?_) (fun c9 => absurd rfl c9)
                      refine lv_iinc (v := 4) (lv' := [(7, .int 4), (6, .int 0), (5, .int 0), (0, .ref xo), (1, .ref lq), (2, .ref le), (3, .ref lr), (4, .ref lg)]) hx hb dL_isTold_134 hl9 (k := 0) rfl (by decide) (by decide) rfl (fun ls hl9 => ?_)
                      refine lv_goto (tgt := 104) hx hb dL_isTold_137 (by decide) ?_
                      refine lv_iload hx hb dL_isTold_104 (lv_at hl9 0 rfl) ?_
                      refine lv_bipush (v := 6) hx hb dL_isTold_106 (by decide) ?_
                      refine lv_icmp_ge (tgt := 140) hx hb dL_isTold_108 (by decide) (fun c9 => absurd c9 (by decide)) (fun _ => ?_)
                      refine lv_aload_n hx hb dL_isTold_111 rfl (lv_at hl9 3 rfl) ?_
                      refine lv_iload hx hb dL_isTold_112 (lv_at hl9 2 rfl) ?_
                      refine lv_iload hx hb dL_isTold_114 (lv_at hl9 0 rfl) ?_
                      refine hp_SH (As := [.ref xo, .int 0, .int 4]) (rest := []) B0 hw hS (c_V_asked_0 hl G f43 xo ez eo bu nw0 na0 nq0 nr0 nw1 na1 nq1 nr1 bs bp bh bf bl bg S0 S1 gw0 ga0 gw1 ga1 n a cg x sa pk fl gv gh gl hC44 (Nat.lt_of_le_of_lt hl0 (by decide)) (Nat.lt_of_le_of_lt hl1 (by decide)) 4 (by decide)) mH_L_asked qM_L_155 rfl rfl hl9.1 (Nat.le_of_ble_eq_true rfl) ⟨⟨Nat.le_of_ble_eq_true rfl, Nat.le_of_ble_eq_true rfl⟩, Nat.le_of_ble_eq_true rfl, Nat.le_of_ble_eq_true rfl⟩ dL_isTold_116 (fun E ce q9 f47 H locs hPX hw hS hce hcv hcl => ?_) (fun v f47 H locs hP hw hS => ?_)
                      · exact hPX.elim
                      · obtain ⟨ev9, hC48, k49⟩ := hP
                        subst ev9
                        have hC48 : CXW G f47 xo ez eo bu nw0 na0 nq0 nr0 nw1 na1 nq1 nr1 bs bp bh bf bl bg S0 S1 gw0 ga0 gw1 ga1 n a cg x sa pk fl gv gh gl := hC48
                        refine W.eq (g2 := F0 m 119 ls [.int ((S0.2.2.2.2.2.2.2.1 4))]) rfl ?_
                        refine lv_aload_n hx hb dL_isTold_119 rfl (lv_at hl9 4 rfl) ?_
                        refine lv_bipush (v := 6) hx hb dL_isTold_120 (by decide) ?_
                        refine lv_iload hx hb dL_isTold_122 (lv_at hl9 2 rfl) ?_
                        refine lv_imul hx hb dL_isTold_124 ?_
                        refine hp_c (v := 0) (by decide) ?_
                        refine lv_iload hx hb dL_isTold_125 (lv_at hl9 0 rfl) ?_
                        refine lv_iadd hx hb dL_isTold_127 ?_
                        refine hp_c (v := 4) (by decide) ?_
                        have h50 : f47 lq = some (.inl (cI G, 12, .inl (j6r S0.2.2.2.2.2.2.2.1 S1.2.2.2.2.2.2.2.1))) := k49 _ _ h46 (Nat.ne_of_beq_eq_false rfl) (hdos _ List.mem_cons_self)
                        refine hp_iald B0 hw h50 (by unfold vp_in; decide) dL_isTold_128 ?_
                        refine hp_c (v := (S0.2.2.2.2.2.2.2.1 4)) (rfl) ?_
                        refine lv_icmp_eq (tgt := 134) hx hb dL_isTold_129 (by decide) (fun _ => ?_) (fun c9 => absurd rfl c9)
                        refine lv_iinc (v := 5) (lv' := [(7, .int 5), (6, .int 0), (5, .int 0), (0, .ref xo), (1, .ref lq), (2, .ref le), (3, .ref lr), (4, .ref lg)]) hx hb dL_isTold_134 hl9 (k := 0) rfl (by decide) (by decide) rfl (fun ls hl9 => ?_)
                        refine lv_goto (tgt := 104) hx hb dL_isTold_137 (by decide) ?_
                        refine lv_iload hx hb dL_isTold_104 (lv_at hl9 0 rfl) ?_
                        refine lv_bipush (v := 6) hx hb dL_isTold_106 (by decide) ?_
                        refine lv_icmp_ge (tgt := 140) hx hb dL_isTold_108 (by decide) (fun c9 => absurd c9 (by decide)) (fun _ => ?_)
                        refine lv_aload_n hx hb dL_isTold_111 rfl (lv_at hl9 3 rfl) ?_
                        refine lv_iload hx hb dL_isTold_112 (lv_at hl9 2 rfl) ?_
                        refine lv_iload hx hb dL_isTold_114 (lv_at hl9 0 rfl) ?_
                        refine hp_SH (As := [.ref xo, .int 0, .int 5]) (rest := []) B0 hw hS (c_V_asked_0 hl G f47 xo ez eo bu nw0 na0 nq0 nr0 nw1 na1 nq1 nr1 bs bp bh bf bl bg S0 S1 gw0 ga0 gw1 ga1 n a cg x sa pk fl gv gh gl hC48 (Nat.lt_of_le_of_lt hl0 (by decide)) (Nat.lt_of_le_of_lt hl1 (by decide)) 5 (by decide)) mH_L_asked qM_L_155 rfl rfl hl9.1 (Nat.le_of_ble_eq_true rfl) ⟨⟨Nat.le_of_ble_eq_true rfl, Nat.le_of_ble_eq_true rfl⟩, Nat.le_of_ble_eq_true rfl, Nat.le_of_ble_eq_true rfl⟩ dL_isTold_116 (fun E ce q9 f51 H locs hPX hw hS hce hcv hcl => ?_) (fun v f51 H locs hP hw hS => ?_)
                        · exact hPX.elim
                        · obtain ⟨ev9, hC52, k53⟩ := hP
                          subst ev9
                          have hC52 : CXW G f51 xo ez eo bu nw0 na0 nq0 nr0 nw1 na1 nq1 nr1 bs bp bh bf bl bg S0 S1 gw0 ga0 gw1 ga1 n a cg x sa pk fl gv gh gl := hC52
                          refine W.eq (g2 := F0 m 119 ls [.int ((S0.2.2.2.2.2.2.2.1 5))]) rfl ?_
                          refine lv_aload_n hx hb dL_isTold_119 rfl (lv_at hl9 4 rfl) ?_
                          refine lv_bipush (v := 6) hx hb dL_isTold_120 (by decide) ?_
                          refine lv_iload hx hb dL_isTold_122 (lv_at hl9 2 rfl) ?_
                          refine lv_imul hx hb dL_isTold_124 ?_
                          refine hp_c (v := 0) (by decide) ?_
                          refine lv_iload hx hb dL_isTold_125 (lv_at hl9 0 rfl) ?_
                          refine lv_iadd hx hb dL_isTold_127 ?_
                          refine hp_c (v := 5) (by decide) ?_
                          have h54 : f51 lq = some (.inl (cI G, 12, .inl (j6r S0.2.2.2.2.2.2.2.1 S1.2.2.2.2.2.2.2.1))) := k53 _ _ h50 (Nat.ne_of_beq_eq_false rfl) (hdos _ List.mem_cons_self)
                          refine hp_iald B0 hw h54 (by unfold vp_in; decide) dL_isTold_128 ?_
                          refine hp_c (v := (S0.2.2.2.2.2.2.2.1 5)) (rfl) ?_
                          refine lv_icmp_eq (tgt := 134) hx hb dL_isTold_129 (by decide) (fun _ => ?_) (fun c9 => absurd rfl c9)
                          refine lv_iinc (v := 6) (lv' := [(7, .int 6), (6, .int 0), (5, .int 0), (0, .ref xo), (1, .ref lq), (2, .ref le), (3, .ref lr), (4, .ref lg)]) hx hb dL_isTold_134 hl9 (k := 0) rfl (by decide) (by decide) rfl (fun ls hl9 => ?_)
                          refine lv_goto (tgt := 104) hx hb dL_isTold_137 (by decide) ?_
                          refine lv_iload hx hb dL_isTold_104 (lv_at hl9 0 rfl) ?_
                          refine lv_bipush (v := 6) hx hb dL_isTold_106 (by decide) ?_
                          refine lv_icmp_ge (tgt := 140) hx hb dL_isTold_108 (by decide) (fun _ => ?_) (fun c9 => absurd (by decide) c9)
                          refine lv_iinc (v := 1) (lv' := [(5, .int 1), (7, .int 6), (6, .int 0), (0, .ref xo), (1, .ref lq), (2, .ref le), (3, .ref lr), (4, .ref lg)]) hx hb dL_isTold_140 hl9 (k := 2) rfl (by decide) (by decide) rfl (fun ls hl9 => ?_)
                          refine lv_goto (tgt := 3) hx hb dL_isTold_143 (by decide) ?_
                          refine lv_iload hx hb dL_isTold_3 (lv_at hl9 0 rfl) ?_
                          refine lv_iconst (v := 2) hx hb dL_isTold_5 (by decide) ?_
                          refine lv_icmp_ge (tgt := 146) hx hb dL_isTold_6 (by decide) (fun c9 => absurd c9 (by decide)) (fun _ => ?_)
                          refine lv_bipush (v := 8) hx hb dL_isTold_9 (by decide) ?_
                          refine lv_iload hx hb dL_isTold_11 (lv_at hl9 0 rfl) ?_
                          refine lv_imul hx hb dL_isTold_13 ?_
                          refine hp_c (v := 8) (by decide) ?_
                          refine lv_istore (lv' := [(6, .int 8), (5, .int 1), (7, .int 6), (0, .ref xo), (1, .ref lq), (2, .ref le), (3, .ref lr), (4, .ref lg)]) hx hb dL_isTold_14 hl9 (by decide) rfl (fun ls hl9 => ?_)
                          refine lv_aload_n hx hb dL_isTold_16 rfl (lv_at hl9 3 rfl) ?_
                          refine lv_iload hx hb dL_isTold_17 (lv_at hl9 1 rfl) ?_
                          refine hp_SH (As := [.ref xo, .int 1]) (rest := []) B0 hw hS (c_V_stateOf_1 hl G f51 xo ez eo bu nw0 na0 nq0 nr0 nw1 na1 nq1 nr1 bs bp bh bf bl bg S0 S1 gw0 ga0 gw1 ga1 n a cg x sa pk fl gv gh gl hC52 (Nat.lt_of_le_of_lt hl0 (by decide)) (Nat.lt_of_le_of_lt hl1 (by decide)) ) mH_L_stateOf qM_L_141 rfl rfl hl9.1 (Nat.le_of_ble_eq_true rfl) ⟨⟨Nat.le_of_ble_eq_true rfl, Nat.le_of_ble_eq_true rfl⟩, Nat.le_of_ble_eq_true rfl, Nat.le_of_ble_eq_true rfl⟩ dL_isTold_19 (fun E ce q9 f55 H locs hPX hw hS hce hcv hcl => ?_) (fun v f55 H locs hP hw hS => ?_)
                          · exact hPX.elim
                          · obtain ⟨ev9, hC56, k57⟩ := hP
                            subst ev9
                            have hC56 : CXW G f55 xo ez eo bu nw0 na0 nq0 nr0 nw1 na1 nq1 nr1 bs bp bh bf bl bg S0 S1 gw0 ga0 gw1 ga1 n a cg x sa pk fl gv gh gl := hC56
                            refine W.eq (g2 := F0 m 22 ls [.int (S1.1)]) rfl ?_
                            refine lv_aload_n hx hb dL_isTold_22 rfl (lv_at hl9 5 rfl) ?_
                            refine lv_iload hx hb dL_isTold_23 (lv_at hl9 0 rfl) ?_
                            have h58 : f26 le = some (.inl (cI G, 16, .inl (jE (eSt S0) (eSt S1)))) := k28 _ _ h25 (Nat.ne_of_beq_eq_false rfl) (hdos _ (List.mem_cons_of_mem _ List.mem_cons_self))
                            have h59 : f35 le = some (.inl (cI G, 16, .inl (jE (eSt S0) (eSt S1)))) := k37 _ _ h58 (Nat.ne_of_beq_eq_false rfl) (hdos _ (List.mem_cons_of_mem _ List.mem_cons_self))
                            have h60 : f39 le = some (.inl (cI G, 16, .inl (jE (eSt S0) (eSt S1)))) := k41 _ _ h59 (Nat.ne_of_beq_eq_false rfl) (hdos _ (List.mem_cons_of_mem _ List.mem_cons_self))
                            have h61 : f43 le = some (.inl (cI G, 16, .inl (jE (eSt S0) (eSt S1)))) := k45 _ _ h60 (Nat.ne_of_beq_eq_false rfl) (hdos _ (List.mem_cons_of_mem _ List.mem_cons_self))
                            have h62 : f47 le = some (.inl (cI G, 16, .inl (jE (eSt S0) (eSt S1)))) := k49 _ _ h61 (Nat.ne_of_beq_eq_false rfl) (hdos _ (List.mem_cons_of_mem _ List.mem_cons_self))
                            have h63 : f51 le = some (.inl (cI G, 16, .inl (jE (eSt S0) (eSt S1)))) := k53 _ _ h62 (Nat.ne_of_beq_eq_false rfl) (hdos _ (List.mem_cons_of_mem _ List.mem_cons_self))
                            have h64 : f55 le = some (.inl (cI G, 16, .inl (jE (eSt S0) (eSt S1)))) := k57 _ _ h63 (Nat.ne_of_beq_eq_false rfl) (hdos _ (List.mem_cons_of_mem _ List.mem_cons_self))
                            refine hp_iald B0 hw h64 (by unfold vp_in; decide) dL_isTold_25 ?_
                            refine hp_c (v := S1.1) (rfl) ?_
                            refine lv_icmp_ne (tgt := 99) hx hb dL_isTold_26 (by decide) (fun c9 => absurd rfl c9) (fun _ => ?_)
                            refine lv_aload_n hx hb dL_isTold_29 rfl (lv_at hl9 3 rfl) ?_
                            refine lv_iload hx hb dL_isTold_30 (lv_at hl9 1 rfl) ?_
                            have h65 : f55 xo = some (.inr (4, [.ref ez, .ref eo, .ref bu])) := by obtain ⟨_, _, h9⟩ := hC56; exact h9.1
                            refine hp_V (ci := 4) (As := [.int 1]) (rest := []) B0 hw hS (c_P_requests_1 hl G f55 xo ez eo bu nw0 na0 nq0 nr0 nw1 na1 nq1 nr1 bs bp bh bf bl bg S0 S1 gw0 ga0 gw1 ga1 n a cg x sa pk fl gv gh gl hC56 (Nat.lt_of_le_of_lt hl0 (by decide)) (Nat.lt_of_le_of_lt hl1 (by decide))) mV_X4_requests qM_L_143 rfl h65 rfl rfl hl9.1 (Nat.le_of_ble_eq_true rfl) ⟨⟨Nat.le_of_ble_eq_true rfl, Nat.le_of_ble_eq_true rfl⟩, Nat.le_of_ble_eq_true rfl, Nat.le_of_ble_eq_true rfl⟩ dL_isTold_32 (fun E ce q9 f66 H locs hPX hw hS hce hcv hcl => ?_) (fun v f66 H locs hP hw hS => ?_)
                            · exact hPX.elim
                            · obtain ⟨ev9, hC67, k68⟩ := hP
                              subst ev9
                              refine W.eq (g2 := F0 m 35 ls [.int S1.2.2.1]) rfl ?_
                              refine lv_aload_n hx hb dL_isTold_35 rfl (lv_at hl9 5 rfl) ?_
                              refine lv_iload hx hb dL_isTold_36 (lv_at hl9 0 rfl) ?_
                              refine lv_iconst (v := 2) hx hb dL_isTold_38 (by decide) ?_
                              refine lv_iadd hx hb dL_isTold_39 ?_
                              refine hp_c (v := 10) (by decide) ?_
                              have h69 : f66 le = some (.inl (cI G, 16, .inl (jE (eSt S0) (eSt S1)))) := k68 _ _ h64 (Nat.ne_of_beq_eq_false rfl) (hdos _ (List.mem_cons_of_mem _ List.mem_cons_self))
                              refine hp_iald B0 hw h69 (by unfold vp_in; decide) dL_isTold_40 ?_
                              refine hp_c (v := S1.2.2.1) (rfl) ?_
                              refine lv_icmp_ne (tgt := 99) hx hb dL_isTold_41 (by decide) (fun c9 => absurd rfl c9) (fun _ => ?_)
                              refine lv_aload_n hx hb dL_isTold_44 rfl (lv_at hl9 3 rfl) ?_
                              refine lv_iload hx hb dL_isTold_45 (lv_at hl9 1 rfl) ?_
                              have h70 : f66 xo = some (.inr (4, [.ref ez, .ref eo, .ref bu])) := by obtain ⟨_, _, h9⟩ := hC67; exact h9.1
                              refine hp_V (ci := 4) (As := [.int 1]) (rest := []) B0 hw hS (c_P_isLooped_1 hl G f66 xo ez eo bu nw0 na0 nq0 nr0 nw1 na1 nq1 nr1 bs bp bh bf bl bg S0 S1 gw0 ga0 gw1 ga1 n a cg x sa pk fl gv gh gl hC67 (Nat.lt_of_le_of_lt hl0 (by decide)) (Nat.lt_of_le_of_lt hl1 (by decide))) mV_X4_isLooped qM_L_146 rfl h70 rfl rfl hl9.1 (Nat.le_of_ble_eq_true rfl) ⟨⟨Nat.le_of_ble_eq_true rfl, Nat.le_of_ble_eq_true rfl⟩, Nat.le_of_ble_eq_true rfl, Nat.le_of_ble_eq_true rfl⟩ dL_isTold_47 (fun E ce q9 f71 H locs hPX hw hS hce hcv hcl => ?_) (fun v f71 H locs hP hw hS => ?_)
                              · exact hPX.elim
                              · obtain ⟨ev9, hC72, k73⟩ := hP
                                subst ev9
                                refine W.eq (g2 := F0 m 50 ls [.int S1.2.2.2.2.1]) rfl ?_
                                refine lv_aload_n hx hb dL_isTold_50 rfl (lv_at hl9 5 rfl) ?_
                                refine lv_iload hx hb dL_isTold_51 (lv_at hl9 0 rfl) ?_
                                refine lv_iconst (v := 4) hx hb dL_isTold_53 (by decide) ?_
                                refine lv_iadd hx hb dL_isTold_54 ?_
                                refine hp_c (v := 12) (by decide) ?_
                                have h74 : f71 le = some (.inl (cI G, 16, .inl (jE (eSt S0) (eSt S1)))) := k73 _ _ h69 (Nat.ne_of_beq_eq_false rfl) (hdos _ (List.mem_cons_of_mem _ List.mem_cons_self))
                                refine hp_iald B0 hw h74 (by unfold vp_in; decide) dL_isTold_55 ?_
                                refine hp_c (v := S1.2.2.2.2.1) (rfl) ?_
                                refine lv_iconst (v := 1) hx hb dL_isTold_56 (by decide) ?_
                                refine lv_icmp_ne (tgt := 64) hx hb dL_isTold_57 (by decide) (fun c75 => ?_) (fun c75 => ?_)
                                · refine lv_iconst (v := 0) hx hb dL_isTold_64 (by decide) ?_
                                  refine lv_icmp_ne (tgt := 99) hx hb dL_isTold_65 (by decide) (fun c9 => absurd (hlp1.resolve_right c75) c9) (fun _ => ?_)
                                  refine lv_aload_n hx hb dL_isTold_68 rfl (lv_at hl9 3 rfl) ?_
                                  refine lv_iload hx hb dL_isTold_69 (lv_at hl9 1 rfl) ?_
                                  refine hp_SH (As := [.ref xo, .int 1]) (rest := []) B0 hw hS (c_V_underWay_1 hl G f71 xo ez eo bu nw0 na0 nq0 nr0 nw1 na1 nq1 nr1 bs bp bh bf bl bg S0 S1 gw0 ga0 gw1 ga1 n a cg x sa pk fl gv gh gl hC72 (Nat.lt_of_le_of_lt hl0 (by decide)) (Nat.lt_of_le_of_lt hl1 (by decide)) ) mH_L_underWay qM_L_150 rfl rfl hl9.1 (Nat.le_of_ble_eq_true rfl) ⟨⟨Nat.le_of_ble_eq_true rfl, Nat.le_of_ble_eq_true rfl⟩, Nat.le_of_ble_eq_true rfl, Nat.le_of_ble_eq_true rfl⟩ dL_isTold_71 (fun E ce q9 f76 H locs hPX hw hS hce hcv hcl => ?_) (fun v f76 H locs hP hw hS => ?_)
                                  · exact hPX.elim
                                  · obtain ⟨ev9, hC77, k78⟩ := hP
                                    subst ev9
                                    have hC77 : CXW G f76 xo ez eo bu nw0 na0 nq0 nr0 nw1 na1 nq1 nr1 bs bp bh bf bl bg S0 S1 gw0 ga0 gw1 ga1 n a cg x sa pk fl gv gh gl := hC77
                                    refine W.eq (g2 := F0 m 74 ls [.int ((nI S1.2.2.2.2.2.2.2.2.length))]) rfl ?_
                                    refine lv_aload_n hx hb dL_isTold_74 rfl (lv_at hl9 5 rfl) ?_
                                    refine lv_iload hx hb dL_isTold_75 (lv_at hl9 0 rfl) ?_
                                    refine lv_bipush (v := 7) hx hb dL_isTold_77 (by decide) ?_
                                    refine lv_iadd hx hb dL_isTold_79 ?_
                                    refine hp_c (v := 15) (by decide) ?_
                                    have h79 : f76 le = some (.inl (cI G, 16, .inl (jE (eSt S0) (eSt S1)))) := k78 _ _ h74 (Nat.ne_of_beq_eq_false rfl) (hdos _ (List.mem_cons_of_mem _ List.mem_cons_self))
                                    refine hp_iald B0 hw h79 (by unfold vp_in; decide) dL_isTold_80 ?_
                                    refine hp_c (v := (nI S1.2.2.2.2.2.2.2.2.length)) (rfl) ?_
                                    refine lv_icmp_ne (tgt := 99) hx hb dL_isTold_81 (by decide) (fun c9 => absurd rfl c9) (fun _ => ?_)
                                    refine lv_aload_n hx hb dL_isTold_84 rfl (lv_at hl9 3 rfl) ?_
                                    refine lv_iload hx hb dL_isTold_85 (lv_at hl9 1 rfl) ?_
                                    have h80 : f76 xo = some (.inr (4, [.ref ez, .ref eo, .ref bu])) := by obtain ⟨_, _, h9⟩ := hC77; exact h9.1
                                    refine hp_V (ci := 4) (As := [.int 1]) (rest := []) B0 hw hS (c_P_missed_1 hl G f76 xo ez eo bu nw0 na0 nq0 nr0 nw1 na1 nq1 nr1 bs bp bh bf bl bg S0 S1 gw0 ga0 gw1 ga1 n a cg x sa pk fl gv gh gl hC77 (Nat.lt_of_le_of_lt hl0 (by decide)) (Nat.lt_of_le_of_lt hl1 (by decide))) mV_X4_missed qM_L_152 rfl h80 rfl rfl hl9.1 (Nat.le_of_ble_eq_true rfl) ⟨⟨Nat.le_of_ble_eq_true rfl, Nat.le_of_ble_eq_true rfl⟩, Nat.le_of_ble_eq_true rfl, Nat.le_of_ble_eq_true rfl⟩ dL_isTold_87 (fun E ce q9 f81 H locs hPX hw hS hce hcv hcl => ?_) (fun v f81 H locs hP hw hS => ?_)
                                    · exact hPX.elim
                                    · obtain ⟨ev9, hC82, k83⟩ := hP
                                      subst ev9
                                      refine W.eq (g2 := F0 m 90 ls [.int S1.2.2.2.2.2.1]) rfl ?_
                                      refine lv_aload_n hx hb dL_isTold_90 rfl (lv_at hl9 5 rfl) ?_
                                      refine lv_iload hx hb dL_isTold_91 (lv_at hl9 0 rfl) ?_
                                      refine lv_iconst (v := 5) hx hb dL_isTold_93 (by decide) ?_
                                      refine lv_iadd hx hb dL_isTold_94 ?_
                                      refine hp_c (v := 13) (by decide) ?_
                                      have h84 : f81 le = some (.inl (cI G, 16, .inl (jE (eSt S0) (eSt S1)))) := k83 _ _ h79 (Nat.ne_of_beq_eq_false rfl) (hdos _ (List.mem_cons_of_mem _ List.mem_cons_self))
                                      refine hp_iald B0 hw h84 (by unfold vp_in; decide) dL_isTold_95 ?_
                                      refine hp_c (v := S1.2.2.2.2.2.1) (rfl) ?_
                                      refine lv_icmp_eq (tgt := 101) hx hb dL_isTold_96 (by decide) (fun _ => ?_) (fun c9 => absurd rfl c9)
                                      refine lv_iconst (v := 0) hx hb dL_isTold_101 (by decide) ?_
                                      refine lv_istore (lv' := [(7, .int 0), (6, .int 8), (5, .int 1), (0, .ref xo), (1, .ref lq), (2, .ref le), (3, .ref lr), (4, .ref lg)]) hx hb dL_isTold_102 hl9 (by decide) rfl (fun ls hl9 => ?_)
                                      refine lv_iload hx hb dL_isTold_104 (lv_at hl9 0 rfl) ?_
                                      refine lv_bipush (v := 6) hx hb dL_isTold_106 (by decide) ?_
                                      refine lv_icmp_ge (tgt := 140) hx hb dL_isTold_108 (by decide) (fun c9 => absurd c9 (by decide)) (fun _ => ?_)
                                      refine lv_aload_n hx hb dL_isTold_111 rfl (lv_at hl9 3 rfl) ?_
                                      refine lv_iload hx hb dL_isTold_112 (lv_at hl9 2 rfl) ?_
                                      refine lv_iload hx hb dL_isTold_114 (lv_at hl9 0 rfl) ?_
                                      refine hp_SH (As := [.ref xo, .int 1, .int 0]) (rest := []) B0 hw hS (c_V_asked_1 hl G f81 xo ez eo bu nw0 na0 nq0 nr0 nw1 na1 nq1 nr1 bs bp bh bf bl bg S0 S1 gw0 ga0 gw1 ga1 n a cg x sa pk fl gv gh gl hC82 (Nat.lt_of_le_of_lt hl0 (by decide)) (Nat.lt_of_le_of_lt hl1 (by decide)) 0 (by decide)) mH_L_asked qM_L_155 rfl rfl hl9.1 (Nat.le_of_ble_eq_true rfl) ⟨⟨Nat.le_of_ble_eq_true rfl, Nat.le_of_ble_eq_true rfl⟩, Nat.le_of_ble_eq_true rfl, Nat.le_of_ble_eq_true rfl⟩ dL_isTold_116 (fun E ce q9 f85 H locs hPX hw hS hce hcv hcl => ?_) (fun v f85 H locs hP hw hS => ?_)
                                      · exact hPX.elim
                                      · obtain ⟨ev9, hC86, k87⟩ := hP
                                        subst ev9
                                        have hC86 : CXW G f85 xo ez eo bu nw0 na0 nq0 nr0 nw1 na1 nq1 nr1 bs bp bh bf bl bg S0 S1 gw0 ga0 gw1 ga1 n a cg x sa pk fl gv gh gl := hC86
                                        refine W.eq (g2 := F0 m 119 ls [.int ((S1.2.2.2.2.2.2.2.1 0))]) rfl ?_
                                        refine lv_aload_n hx hb dL_isTold_119 rfl (lv_at hl9 4 rfl) ?_
                                        refine lv_bipush (v := 6) hx hb dL_isTold_120 (by decide) ?_
                                        refine lv_iload hx hb dL_isTold_122 (lv_at hl9 2 rfl) ?_
                                        refine lv_imul hx hb dL_isTold_124 ?_
                                        refine hp_c (v := 6) (by decide) ?_
                                        refine lv_iload hx hb dL_isTold_125 (lv_at hl9 0 rfl) ?_
                                        refine lv_iadd hx hb dL_isTold_127 ?_
                                        refine hp_c (v := 6) (by decide) ?_
                                        have h88 : f55 lq = some (.inl (cI G, 12, .inl (j6r S0.2.2.2.2.2.2.2.1 S1.2.2.2.2.2.2.2.1))) := k57 _ _ h54 (Nat.ne_of_beq_eq_false rfl) (hdos _ List.mem_cons_self)
                                        have h89 : f66 lq = some (.inl (cI G, 12, .inl (j6r S0.2.2.2.2.2.2.2.1 S1.2.2.2.2.2.2.2.1))) := k68 _ _ h88 (Nat.ne_of_beq_eq_false rfl) (hdos _ List.mem_cons_self)
                                        have h90 : f71 lq = some (.inl (cI G, 12, .inl (j6r S0.2.2.2.2.2.2.2.1 S1.2.2.2.2.2.2.2.1))) := k73 _ _ h89 (Nat.ne_of_beq_eq_false rfl) (hdos _ List.mem_cons_self)
                                        have h91 : f76 lq = some (.inl (cI G, 12, .inl (j6r S0.2.2.2.2.2.2.2.1 S1.2.2.2.2.2.2.2.1))) := k78 _ _ h90 (Nat.ne_of_beq_eq_false rfl) (hdos _ List.mem_cons_self)
                                        have h92 : f81 lq = some (.inl (cI G, 12, .inl (j6r S0.2.2.2.2.2.2.2.1 S1.2.2.2.2.2.2.2.1))) := k83 _ _ h91 (Nat.ne_of_beq_eq_false rfl) (hdos _ List.mem_cons_self)
                                        have h93 : f85 lq = some (.inl (cI G, 12, .inl (j6r S0.2.2.2.2.2.2.2.1 S1.2.2.2.2.2.2.2.1))) := k87 _ _ h92 (Nat.ne_of_beq_eq_false rfl) (hdos _ List.mem_cons_self)
                                        refine hp_iald B0 hw h93 (by unfold vp_in; decide) dL_isTold_128 ?_
                                        refine hp_c (v := (S1.2.2.2.2.2.2.2.1 0)) (rfl) ?_
                                        refine lv_icmp_eq (tgt := 134) hx hb dL_isTold_129 (by decide) (fun _ => ?_) (fun c9 => absurd rfl c9)
                                        refine lv_iinc (v := 1) (lv' := [(7, .int 1), (6, .int 8), (5, .int 1), (0, .ref xo), (1, .ref lq), (2, .ref le), (3, .ref lr), (4, .ref lg)]) hx hb dL_isTold_134 hl9 (k := 0) rfl (by decide) (by decide) rfl (fun ls hl9 => ?_)
                                        refine lv_goto (tgt := 104) hx hb dL_isTold_137 (by decide) ?_
                                        refine lv_iload hx hb dL_isTold_104 (lv_at hl9 0 rfl) ?_
                                        refine lv_bipush (v := 6) hx hb dL_isTold_106 (by decide) ?_
                                        refine lv_icmp_ge (tgt := 140) hx hb dL_isTold_108 (by decide) (fun c9 => absurd c9 (by decide)) (fun _ => ?_)
                                        refine lv_aload_n hx hb dL_isTold_111 rfl (lv_at hl9 3 rfl) ?_
                                        refine lv_iload hx hb dL_isTold_112 (lv_at hl9 2 rfl) ?_
                                        refine lv_iload hx hb dL_isTold_114 (lv_at hl9 0 rfl) ?_
                                        refine hp_SH (As := [.ref xo, .int 1, .int 1]) (rest := []) B0 hw hS (c_V_asked_1 hl G f85 xo ez eo bu nw0 na0 nq0 nr0 nw1 na1 nq1 nr1 bs bp bh bf bl bg S0 S1 gw0 ga0 gw1 ga1 n a cg x sa pk fl gv gh gl hC86 (Nat.lt_of_le_of_lt hl0 (by decide)) (Nat.lt_of_le_of_lt hl1 (by decide)) 1 (by decide)) mH_L_asked qM_L_155 rfl rfl hl9.1 (Nat.le_of_ble_eq_true rfl) ⟨⟨Nat.le_of_ble_eq_true rfl, Nat.le_of_ble_eq_true rfl⟩, Nat.le_of_ble_eq_true rfl, Nat.le_of_ble_eq_true rfl⟩ dL_isTold_116 (fun E ce q9 f94 H locs hPX hw hS hce hcv hcl => ?_) (fun v f94 H locs hP hw hS => ?_)
                                        · exact hPX.elim
                                        · obtain ⟨ev9, hC95, k96⟩ := hP
                                          subst ev9
                                          have hC95 : CXW G f94 xo ez eo bu nw0 na0 nq0 nr0 nw1 na1 nq1 nr1 bs bp bh bf bl bg S0 S1 gw0 ga0 gw1 ga1 n a cg x sa pk fl gv gh gl := hC95
                                          refine W.eq (g2 := F0 m 119 ls [.int ((S1.2.2.2.2.2.2.2.1 1))]) rfl ?_
                                          refine lv_aload_n hx hb dL_isTold_119 rfl (lv_at hl9 4 rfl) ?_
                                          refine lv_bipush (v := 6) hx hb dL_isTold_120 (by decide) ?_
                                          refine lv_iload hx hb dL_isTold_122 (lv_at hl9 2 rfl) ?_
                                          refine lv_imul hx hb dL_isTold_124 ?_
                                          refine hp_c (v := 6) (by decide) ?_
                                          refine lv_iload hx hb dL_isTold_125 (lv_at hl9 0 rfl) ?_
                                          refine lv_iadd hx hb dL_isTold_127 ?_
                                          refine hp_c (v := 7) (by decide) ?_
                                          have h97 : f94 lq = some (.inl (cI G, 12, .inl (j6r S0.2.2.2.2.2.2.2.1 S1.2.2.2.2.2.2.2.1))) := k96 _ _ h93 (Nat.ne_of_beq_eq_false rfl) (hdos _ List.mem_cons_self)
                                          refine hp_iald B0 hw h97 (by unfold vp_in; decide) dL_isTold_128 ?_
                                          refine hp_c (v := (S1.2.2.2.2.2.2.2.1 1)) (rfl) ?_
                                          refine lv_icmp_eq (tgt := 134) hx hb dL_isTold_129 (by decide) (fun _ => ?_) (fun c9 => absurd rfl c9)
                                          refine lv_iinc (v := 2) (lv' := [(7, .int 2), (6, .int 8), (5, .int 1), (0, .ref xo), (1, .ref lq), (2, .ref le), (3, .ref lr), (4, .ref lg)]) hx hb dL_isTold_134 hl9 (k := 0) rfl (by decide) (by decide) rfl (fun ls hl9 => ?_)
                                          refine lv_goto (tgt := 104) hx hb dL_isTold_137 (by decide) ?_
                                          refine lv_iload hx hb dL_isTold_104 (lv_at hl9 0 rfl) ?_
                                          refine lv_bipush (v := 6) hx hb dL_isTold_106 (by decide) ?_
                                          refine lv_icmp_ge (tgt := 140) hx hb dL_isTold_108 (by decide) (fun c9 => absurd c9 (by decide)) (fun _ => ?_)
                                          refine lv_aload_n hx hb dL_isTold_111 rfl (lv_at hl9 3 rfl) ?_
                                          refine lv_iload hx hb dL_isTold_112 (lv_at hl9 2 rfl) ?_
                                          refine lv_iload hx hb dL_isTold_114 (lv_at hl9 0 rfl) ?_
                                          refine hp_SH (As := [.ref xo, .int 1, .int 2]) (rest := []) B0 hw hS (c_V_asked_1 hl G f94 xo ez eo bu nw0 na0 nq0 nr0 nw1 na1 nq1 nr1 bs bp bh bf bl bg S0 S1 gw0 ga0 gw1 ga1 n a cg x sa pk fl gv gh gl hC95 (Nat.lt_of_le_of_lt hl0 (by decide)) (Nat.lt_of_le_of_lt hl1 (by decide)) 2 (by decide)) mH_L_asked qM_L_155 rfl rfl hl9.1 (Nat.le_of_ble_eq_true rfl) ⟨⟨Nat.le_of_ble_eq_true rfl, Nat.le_of_ble_eq_true rfl⟩, Nat.le_of_ble_eq_true rfl, Nat.le_of_ble_eq_true rfl⟩ dL_isTold_116 (fun E ce q9 f98 H locs hPX hw hS hce hcv hcl => ?_) (fun v f98 H locs hP hw hS => ?_)
                                          · exact hPX.elim
                                          · obtain ⟨ev9, hC99, k100⟩ := hP
                                            subst ev9
                                            have hC99 : CXW G f98 xo ez eo bu nw0 na0 nq0 nr0 nw1 na1 nq1 nr1 bs bp bh bf bl bg S0 S1 gw0 ga0 gw1 ga1 n a cg x sa pk fl gv gh gl := hC99
                                            refine W.eq (g2 := F0 m 119 ls [.int ((S1.2.2.2.2.2.2.2.1 2))]) rfl ?_
                                            refine lv_aload_n hx hb dL_isTold_119 rfl (lv_at hl9 4 rfl) ?_
                                            refine lv_bipush (v := 6) hx hb dL_isTold_120 (by decide) ?_
                                            refine lv_iload hx hb dL_isTold_122 (lv_at hl9 2 rfl) ?_
                                            refine lv_imul hx hb dL_isTold_124 ?_
                                            refine hp_c (v := 6) (by decide) ?_
                                            refine lv_iload hx hb dL_isTold_125 (lv_at hl9 0 rfl) ?_
                                            refine lv_iadd hx hb dL_isTold_127 ?_
                                            refine hp_c (v := 8) (by decide) ?_
                                            have h101 : f98 lq = some (.inl (cI G, 12, .inl (j6r S0.2.2.2.2.2.2.2.1 S1.2.2.2.2.2.2.2.1))) := k100 _ _ h97 (Nat.ne_of_beq_eq_false rfl) (hdos _ List.mem_cons_self)
                                            refine hp_iald B0 hw h101 (by unfold vp_in; decide) dL_isTold_128 ?_
                                            refine hp_c (v := (S1.2.2.2.2.2.2.2.1 2)) (rfl) ?_
                                            refine lv_icmp_eq (tgt := 134) hx hb dL_isTold_129 (by decide) (fun _ => ?_) (fun c9 => absurd rfl c9)
                                            refine lv_iinc (v := 3) (lv' := [(7, .int 3), (6, .int 8), (5, .int 1), (0, .ref xo), (1, .ref lq), (2, .ref le), (3, .ref lr), (4, .ref lg)]) hx hb dL_isTold_134 hl9 (k := 0) rfl (by decide) (by decide) rfl (fun ls hl9 => ?_)
                                            refine lv_goto (tgt := 104) hx hb dL_isTold_137 (by decide) ?_
                                            refine lv_iload hx hb dL_isTold_104 (lv_at hl9 0 rfl) ?_
                                            refine lv_bipush (v := 6) hx hb dL_isTold_106 (by decide) ?_
                                            refine lv_icmp_ge (tgt := 140) hx hb dL_isTold_108 (by decide) (fun c9 => absurd c9 (by decide)) (fun _ => ?_)
                                            refine lv_aload_n hx hb dL_isTold_111 rfl (lv_at hl9 3 rfl) ?_
                                            refine lv_iload hx hb dL_isTold_112 (lv_at hl9 2 rfl) ?_
                                            refine lv_iload hx hb dL_isTold_114 (lv_at hl9 0 rfl) ?_
                                            refine hp_SH (As := [.ref xo, .int 1, .int 3]) (rest := []) B0 hw hS (c_V_asked_1 hl G f98 xo ez eo bu nw0 na0 nq0 nr0 nw1 na1 nq1 nr1 bs bp bh bf bl bg S0 S1 gw0 ga0 gw1 ga1 n a cg x sa pk fl gv gh gl hC99 (Nat.lt_of_le_of_lt hl0 (by decide)) (Nat.lt_of_le_of_lt hl1 (by decide)) 3 (by decide)) mH_L_asked qM_L_155 rfl rfl hl9.1 (Nat.le_of_ble_eq_true rfl) ⟨⟨Nat.le_of_ble_eq_true rfl, Nat.le_of_ble_eq_true rfl⟩, Nat.le_of_ble_eq_true rfl, Nat.le_of_ble_eq_true rfl⟩ dL_isTold_116 (fun E ce q9 f102 H locs hPX hw hS hce hcv hcl => ?_) (fun v f102 H locs hP hw hS => ?_)
                                            · exact hPX.elim
                                            · obtain ⟨ev9, hC103, k104⟩ := hP
                                              subst ev9
                                              have hC103 : CXW G f102 xo ez eo bu nw0 na0 nq0 nr0 nw1 na1 nq1 nr1 bs bp bh bf bl bg S0 S1 gw0 ga0 gw1 ga1 n a cg x sa pk fl gv gh gl := hC103
                                              refine W.eq (g2 := F0 m 119 ls [.int ((S1.2.2.2.2.2.2.2.1 3))]) rfl ?_
                                              refine lv_aload_n hx hb dL_isTold_119 rfl (lv_at hl9 4 rfl) ?_
                                              refine lv_bipush (v := 6) hx hb dL_isTold_120 (by decide) ?_
                                              refine lv_iload hx hb dL_isTold_122 (lv_at hl9 2 rfl) ?_
                                              refine lv_imul hx hb dL_isTold_124 ?_
                                              refine hp_c (v := 6) (by decide) ?_
                                              refine lv_iload hx hb dL_isTold_125 (lv_at hl9 0 rfl) ?_
                                              refine lv_iadd hx hb dL_isTold_127 ?_
                                              refine hp_c (v := 9) (by decide) ?_
                                              have h105 : f102 lq = some (.inl (cI G, 12, .inl (j6r S0.2.2.2.2.2.2.2.1 S1.2.2.2.2.2.2.2.1))) := k104 _ _ h101 (Nat.ne_of_beq_eq_false rfl) (hdos _ List.mem_cons_self)
                                              refine hp_iald B0 hw h105 (by unfold vp_in; decide) dL_isTold_128 ?_
                                              refine hp_c (v := (S1.2.2.2.2.2.2.2.1 3)) (rfl) ?_
                                              refine lv_icmp_eq (tgt := 134) hx hb dL_isTold_129 (by decide) (fun _ => ?_) (fun c9 => absurd rfl c9)
                                              refine lv_iinc (v := 4) (lv' := [(7, .int 4), (6, .int 8), (5, .int 1), (0, .ref xo), (1, .ref lq), (2, .ref le), (3, .ref lr), (4, .ref lg)]) hx hb dL_isTold_134 hl9 (k := 0) rfl (by decide) (by decide) rfl (fun ls hl9 => ?_)
                                              refine lv_goto (tgt := 104) hx hb dL_isTold_137 (by decide) ?_
                                              refine lv_iload hx hb dL_isTold_104 (lv_at hl9 0 rfl) ?_
                                              refine lv_bipush (v := 6) hx hb dL_isTold_106 (by decide) ?_
                                              refine lv_icmp_ge (tgt := 140) hx hb dL_isTold_108 (by decide) (fun c9 => absurd c9 (by decide)) (fun _ => ?_)
                                              refine lv_aload_n hx hb dL_isTold_111 rfl (lv_at hl9 3 rfl) ?_
                                              refine lv_iload hx hb dL_isTold_112 (lv_at hl9 2 rfl) ?_
                                              refine lv_iload hx hb dL_isTold_114 (lv_at hl9 0 rfl) ?_
                                              refine hp_SH (As := [.ref xo, .int 1, .int 4]) (rest := []) B0 hw hS (c_V_asked_1 hl G f102 xo ez eo bu nw0 na0 nq0 nr0 nw1 na1 nq1 nr1 bs bp bh bf bl bg S0 S1 gw0 ga0 gw1 ga1 n a cg x sa pk fl gv gh gl hC103 (Nat.lt_of_le_of_lt hl0 (by decide)) (Nat.lt_of_le_of_lt hl1 (by decide)) 4 (by decide)) mH_L_asked qM_L_155 rfl rfl hl9.1 (Nat.le_of_ble_eq_true rfl) ⟨⟨Nat.le_of_ble_eq_true rfl, Nat.le_of_ble_eq_true rfl⟩, Nat.le_of_ble_eq_true rfl, Nat.le_of_ble_eq_true rfl⟩ dL_isTold_116 (fun E ce q9 f106 H locs hPX hw hS hce hcv hcl => ?_) (fun v f106 H locs hP hw hS => ?_)
                                              · exact hPX.elim
                                              · obtain ⟨ev9, hC107, k108⟩ := hP
                                                subst ev9
                                                have hC107 : CXW G f106 xo ez eo bu nw0 na0 nq0 nr0 nw1 na1 nq1 nr1 bs bp bh bf bl bg S0 S1 gw0 ga0 gw1 ga1 n a cg x sa pk fl gv gh gl := hC107
                                                refine W.eq (g2 := F0 m 119 ls [.int ((S1.2.2.2.2.2.2.2.1 4))]) rfl ?_
                                                refine lv_aload_n hx hb dL_isTold_119 rfl (lv_at hl9 4 rfl) ?_
                                                refine lv_bipush (v := 6) hx hb dL_isTold_120 (by decide) ?_
                                                refine lv_iload hx hb dL_isTold_122 (lv_at hl9 2 rfl) ?_
                                                refine lv_imul hx hb dL_isTold_124 ?_
                                                refine hp_c (v := 6) (by decide) ?_
                                                refine lv_iload hx hb dL_isTold_125 (lv_at hl9 0 rfl) ?_
                                                refine lv_iadd hx hb dL_isTold_127 ?_
                                                refine hp_c (v := 10) (by decide) ?_
                                                have h109 : f106 lq = some (.inl (cI G, 12, .inl (j6r S0.2.2.2.2.2.2.2.1 S1.2.2.2.2.2.2.2.1))) := k108 _ _ h105 (Nat.ne_of_beq_eq_false rfl) (hdos _ List.mem_cons_self)
                                                refine hp_iald B0 hw h109 (by unfold vp_in; decide) dL_isTold_128 ?_
                                                refine hp_c (v := (S1.2.2.2.2.2.2.2.1 4)) (rfl) ?_
                                                refine lv_icmp_eq (tgt := 134) hx hb dL_isTold_129 (by decide) (fun _ => ?_) (fun c9 => absurd rfl c9)
                                                refine lv_iinc (v := 5) (lv' := [(7, .int 5), (6, .int 8), (5, .int 1), (0, .ref xo), (1, .ref lq), (2, .ref le), (3, .ref lr), (4, .ref lg)]) hx hb dL_isTold_134 hl9 (k := 0) rfl (by decide) (by decide) rfl (fun ls hl9 => ?_)
                                                refine lv_goto (tgt := 104) hx hb dL_isTold_137 (by decide) ?_
                                                refine lv_iload hx hb dL_isTold_104 (lv_at hl9 0 rfl) ?_
                                                refine lv_bipush (v := 6) hx hb dL_isTold_106 (by decide) ?_
                                                refine lv_icmp_ge (tgt := 140) hx hb dL_isTold_108 (by decide) (fun c9 => absurd c9 (by decide)) (fun _ => ?_)
                                                refine lv_aload_n hx hb dL_isTold_111 rfl (lv_at hl9 3 rfl) ?_
                                                refine lv_iload hx hb dL_isTold_112 (lv_at hl9 2 rfl) ?_
                                                refine lv_iload hx hb dL_isTold_114 (lv_at hl9 0 rfl) ?_
                                                refine hp_SH (As := [.ref xo, .int 1, .int 5]) (rest := []) B0 hw hS (c_V_asked_1 hl G f106 xo ez eo bu nw0 na0 nq0 nr0 nw1 na1 nq1 nr1 bs bp bh bf bl bg S0 S1 gw0 ga0 gw1 ga1 n a cg x sa pk fl gv gh gl hC107 (Nat.lt_of_le_of_lt hl0 (by decide)) (Nat.lt_of_le_of_lt hl1 (by decide)) 5 (by decide)) mH_L_asked qM_L_155 rfl rfl hl9.1 (Nat.le_of_ble_eq_true rfl) ⟨⟨Nat.le_of_ble_eq_true rfl, Nat.le_of_ble_eq_true rfl⟩, Nat.le_of_ble_eq_true rfl, Nat.le_of_ble_eq_true rfl⟩ dL_isTold_116 (fun E ce q9 f110 H locs hPX hw hS hce hcv hcl => ?_) (fun v f110 H locs hP hw hS => ?_)
                                                · exact hPX.elim
                                                · obtain ⟨ev9, hC111, k112⟩ := hP
                                                  subst ev9
                                                  have hC111 : CXW G f110 xo ez eo bu nw0 na0 nq0 nr0 nw1 na1 nq1 nr1 bs bp bh bf bl bg S0 S1 gw0 ga0 gw1 ga1 n a cg x sa pk fl gv gh gl := hC111
                                                  refine W.eq (g2 := F0 m 119 ls [.int ((S1.2.2.2.2.2.2.2.1 5))]) rfl ?_
                                                  refine lv_aload_n hx hb dL_isTold_119 rfl (lv_at hl9 4 rfl) ?_
                                                  refine lv_bipush (v := 6) hx hb dL_isTold_120 (by decide) ?_
                                                  refine lv_iload hx hb dL_isTold_122 (lv_at hl9 2 rfl) ?_
                                                  refine lv_imul hx hb dL_isTold_124 ?_
                                                  refine hp_c (v := 6) (by decide) ?_
                                                  refine lv_iload hx hb dL_isTold_125 (lv_at hl9 0 rfl) ?_
                                                  refine lv_iadd hx hb dL_isTold_127 ?_
                                                  refine hp_c (v := 11) (by decide) ?_
                                                  have h113 : f110 lq = some (.inl (cI G, 12, .inl (j6r S0.2.2.2.2.2.2.2.1 S1.2.2.2.2.2.2.2.1))) := k112 _ _ h109 (Nat.ne_of_beq_eq_false rfl) (hdos _ List.mem_cons_self)
                                                  refine hp_iald B0 hw h113 (by unfold vp_in; decide) dL_isTold_128 ?_
                                                  refine hp_c (v := (S1.2.2.2.2.2.2.2.1 5)) (rfl) ?_
                                                  refine lv_icmp_eq (tgt := 134) hx hb dL_isTold_129 (by decide) (fun _ => ?_) (fun c9 => absurd rfl c9)
                                                  refine lv_iinc (v := 6) (lv' := [(7, .int 6), (6, .int 8), (5, .int 1), (0, .ref xo), (1, .ref lq), (2, .ref le), (3, .ref lr), (4, .ref lg)]) hx hb dL_isTold_134 hl9 (k := 0) rfl (by decide) (by decide) rfl (fun ls hl9 => ?_)
                                                  refine lv_goto (tgt := 104) hx hb dL_isTold_137 (by decide) ?_
                                                  refine lv_iload hx hb dL_isTold_104 (lv_at hl9 0 rfl) ?_
                                                  refine lv_bipush (v := 6) hx hb dL_isTold_106 (by decide) ?_
                                                  refine lv_icmp_ge (tgt := 140) hx hb dL_isTold_108 (by decide) (fun _ => ?_) (fun c9 => absurd (by decide) c9)
                                                  refine lv_iinc (v := 2) (lv' := [(5, .int 2), (7, .int 6), (6, .int 8), (0, .ref xo), (1, .ref lq), (2, .ref le), (3, .ref lr), (4, .ref lg)]) hx hb dL_isTold_140 hl9 (k := 2) rfl (by decide) (by decide) rfl (fun ls hl9 => ?_)
                                                  refine lv_goto (tgt := 3) hx hb dL_isTold_143 (by decide) ?_
                                                  refine lv_iload hx hb dL_isTold_3 (lv_at hl9 0 rfl) ?_
                                                  refine lv_iconst (v := 2) hx hb dL_isTold_5 (by decide) ?_
                                                  refine lv_icmp_ge (tgt := 146) hx hb dL_isTold_6 (by decide) (fun _ => ?_) (fun c9 => absurd (by decide) c9)
                                                  refine lv_iconst (v := 0) hx hb dL_isTold_146 (by decide) ?_
                                                  refine lv_istore (lv' := [(5, .int 0), (7, .int 6), (6, .int 8), (0, .ref xo), (1, .ref lq), (2, .ref le), (3, .ref lr), (4, .ref lg)]) hx hb dL_isTold_147 hl9 (by decide) rfl (fun ls hl9 => ?_)
                                                  refine hp_cs (c2 := 34 + 0 * 0) (s2 := 204 + 0 * 0) rfl rfl ?_
                                                  refine hp_forC (nL := 8) (pc := 149) (fun j f9 lv9 => CXW G f9 xo ez eo bu nw0 na0 nq0 nr0 nw1 na1 nq1 nr1 bs bp bh bf bl bg S0 S1 gw0 ga0 gw1 ga1 n a cg x sa pk fl gv gh gl ∧ hKn [xo, ez, eo, bu, nw0, na0, nq0, nr0, nw1, na1, nq1, nr1, bs, bp, bh, bf, bl, bg] f f9 ∧ lv9 = [(5, .int (nI j)), (0, .ref xo), (1, .ref lq), (2, .ref le), (3, .ref lr), (4, .ref lg)]) cg 34 204 0 0 (fun j f9 lv9 H locs ls hj hI hw hS hl9 ih => ?_) (fun f9 lv9 H locs ls hI hw hS hl9 => ?_) cg 0 (Nat.zero_add _) f110 _ _ _ ls ⟨hC111, ((show hKn [xo, ez, eo, bu, nw0, na0, nq0, nr0, nw1, na1, nq1, nr1, bs, bp, bh, bf, bl, bg] f f1 from (hKn.mono k3 (fun _ h9 => h9))).tr ((show hKn [xo, ez, eo, bu, nw0, na0, nq0, nr0, nw1, na1, nq1, nr1, bs, bp, bh, bf, bl, bg] f1 f6 from (hKn.mono k8 (fun _ h9 => h9))).tr ((show hKn [xo, ez, eo, bu, nw0, na0, nq0, nr0, nw1, na1, nq1, nr1, bs, bp, bh, bf, bl, bg] f6 f12 from (hKn.mono k14 (fun _ h9 => h9))).tr ((show hKn [xo, ez, eo, bu, nw0, na0, nq0, nr0, nw1, na1, nq1, nr1, bs, bp, bh, bf, bl, bg] f12 f17 from (hKn.mono k19 (fun _ h9 => h9))).tr ((show hKn [xo, ez, eo, bu, nw0, na0, nq0, nr0, nw1, na1, nq1, nr1, bs, bp, bh, bf, bl, bg] f17 f22 from (hKn.mono k24 (fun _ h9 => h9))).tr ((show hKn [xo, ez, eo, bu, nw0, na0, nq0, nr0, nw1, na1, nq1, nr1, bs, bp, bh, bf, bl, bg] f22 f26 from (hKn.mono k28 (fun _ h9 => h9))).tr ((show hKn [xo, ez, eo, bu, nw0, na0, nq0, nr0, nw1, na1, nq1, nr1, bs, bp, bh, bf, bl, bg] f26 f35 from (hKn.mono k37 (fun _ h9 => h9))).tr ((show hKn [xo, ez, eo, bu, nw0, na0, nq0, nr0, nw1, na1, nq1, nr1, bs, bp, bh, bf, bl, bg] f35 f39 from (hKn.mono k41 (fun _ h9 => h9))).tr ((show hKn [xo, ez, eo, bu, nw0, na0, nq0, nr0, nw1, na1, nq1, nr1, bs, bp, bh, bf, bl, bg] f39 f43 from (hKn.mono k45 (fun _ h9 => h9))).tr ((show hKn [xo, ez, eo, bu, nw0, na0, nq0, nr0, nw1, na1, nq1, nr1, bs, bp, bh, bf, bl, bg] f43 f47 from (hKn.mono k49 (fun _ h9 => h9))).tr ((show hKn [xo, ez, eo, bu, nw0, na0, nq0, nr0, nw1, na1, nq1, nr1, bs, bp, bh, bf, bl, bg] f47 f51 from (hKn.mono k53 (fun _ h9 => h9))).tr ((show hKn [xo, ez, eo, bu, nw0, na0, nq0, nr0, nw1, na1, nq1, nr1, bs, bp, bh, bf, bl, bg] f51 f55 from (hKn.mono k57 (fun _ h9 => h9))).tr ((show hKn [xo, ez, eo, bu, nw0, na0, nq0, nr0, nw1, na1, nq1, nr1, bs, bp, bh, bf, bl, bg] f55 f66 from (hKn.mono k68 (fun _ h9 => h9))).tr ((show hKn [xo, ez, eo, bu, nw0, na0, nq0, nr0, nw1, na1, nq1, nr1, bs, bp, bh, bf, bl, bg] f66 f71 from (hKn.mono k73 (fun _ h9 => h9))).tr ((show hKn [xo, ez, eo, bu, nw0, na0, nq0, nr0, nw1, na1, nq1, nr1, bs, bp, bh, bf, bl, bg] f71 f76 from (hKn.mono k78 (fun _ h9 => h9))).tr ((show hKn [xo, ez, eo, bu, nw0, na0, nq0, nr0, nw1, na1, nq1, nr1, bs, bp, bh, bf, bl, bg] f76 f81 from (hKn.mono k83 (fun _ h9 => h9))).tr ((show hKn [xo, ez, eo, bu, nw0, na0, nq0, nr0, nw1, na1, nq1, nr1, bs, bp, bh, bf, bl, bg] f81 f85 from (hKn.mono k87 (fun _ h9 => h9))).tr ((show hKn [xo, ez, eo, bu, nw0, na0, nq0, nr0, nw1, na1, nq1, nr1, bs, bp, bh, bf, bl, bg] f85 f94 from (hKn.mono k96 (fun _ h9 => h9))).tr ((show hKn [xo, ez, eo, bu, nw0, na0, nq0, nr0, nw1, na1, nq1, nr1, bs, bp, bh, bf, bl, bg] f94 f98 from (hKn.mono k100 (fun _ h9 => h9))).tr ((show hKn [xo, ez, eo, bu, nw0, na0, nq0, nr0, nw1, na1, nq1, nr1, bs, bp, bh, bf, bl, bg] f98 f102 from (hKn.mono k104 (fun _ h9 => h9))).tr ((show hKn [xo, ez, eo, bu, nw0, na0, nq0, nr0, nw1, na1, nq1, nr1, bs, bp, bh, bf, bl, bg] f102 f106 from (hKn.mono k108 (fun _ h9 => h9))).tr (show hKn [xo, ez, eo, bu, nw0, na0, nq0, nr0, nw1, na1, nq1, nr1, bs, bp, bh, bf, bl, bg] f106 f110 from (hKn.mono k112 (fun _ h9 => h9)))))))))))))))))))))))), rfl⟩ hw hS (lv_sub hl9 [0, 3, 4, 5, 6, 7] rfl)
                                                  · obtain ⟨hC9, hk9, el9⟩ := hI
                                                    rw [el9] at hl9
                                                    refine lv_iload hx hb dL_isTold_149 (lv_at hl9 0 rfl) ?_
                                                    refine lv_aload hx hb dL_isTold_151 (lv_at hl9 5 rfl) ?_
                                                    refine lv_bipush (v := 9) hx hb dL_isTold_153 (by decide) ?_
                                                    have h114 : f9 lg = some (.inl (cI G, 10, .inl (g10r tk gl a n x cg))) := hk9 _ _ k_lg (Nat.ne_of_beq_eq_false rfl) (hdos _ (List.mem_cons_of_mem _ (List.mem_cons_of_mem _ (List.mem_cons_of_mem _ List.mem_cons_self))))
                                                    refine hp_iald B0 hw h114 (by unfold vp_in; decide) dL_isTold_155 ?_
                                                    refine hp_c (v := (nI cg)) (rfl) ?_
                                                    refine lv_icmp_ge (tgt := 180) hx hb dL_isTold_156 (by decide) (fun c9 => absurd c9 (nI_ge hj (by omega))) (fun _ => ?_)
                                                    refine lv_aload_n hx hb dL_isTold_159 rfl (lv_at hl9 1 rfl) ?_
                                                    refine lv_iload hx hb dL_isTold_160 (lv_at hl9 0 rfl) ?_
                                                    refine hp_SH (As := [.ref xo, .int (nI j)]) (rest := []) B0 hw hS (c_V_givenAt_ok hl G f9 xo ez eo bu nw0 na0 nq0 nr0 nw1 na1 nq1 nr1 bs bp bh bf bl bg S0 S1 gw0 ga0 gw1 ga1 n a cg x sa pk fl gv gh gl hC9 (Nat.lt_of_le_of_lt hl0 (by decide)) (Nat.lt_of_le_of_lt hl1 (by decide)) j (by omega)) mH_L_givenAt qM_L_158 rfl rfl hl9.1 (Nat.le_of_ble_eq_true rfl) ⟨⟨Nat.le_of_ble_eq_true rfl, Nat.le_of_ble_eq_true rfl⟩, (by first | omega | (dsimp only; omega)), (by first | omega | (dsimp only; omega))⟩ dL_isTold_162 (fun E ce q9 f115 H locs hPX hw hS hce hcv hcl => ?_) (fun v f115 H locs hP hw hS => ?_)
                                                    · exact hPX.elim
                                                    · obtain ⟨ev9, hC116, k117⟩ := hP
                                                      subst ev9
                                                      have hC116 : CXW G f115 xo ez eo bu nw0 na0 nq0 nr0 nw1 na1 nq1 nr1 bs bp bh bf bl bg S0 S1 gw0 ga0 gw1 ga1 n a cg x sa pk fl gv gh gl := hC116
                                                      refine W.eq (g2 := F0 m 165 ls [.int ((nI (gv j)))]) rfl ?_
                                                      refine lv_aload_n hx hb dL_isTold_165 rfl (lv_at hl9 4 rfl) ?_
                                                      refine lv_iload hx hb dL_isTold_166 (lv_at hl9 0 rfl) ?_
                                                      have h118 : f9 lr = some (.inl (cI G, 60, .inl (nf gv))) := hk9 _ _ k_lr (Nat.ne_of_beq_eq_false rfl) (hdos _ (List.mem_cons_of_mem _ (List.mem_cons_of_mem _ List.mem_cons_self)))
                                                      have h119 : f115 lr = some (.inl (cI G, 60, .inl (nf gv))) := k117 _ _ h118 (Nat.ne_of_beq_eq_false rfl) (hdos _ (List.mem_cons_of_mem _ (List.mem_cons_of_mem _ List.mem_cons_self)))
                                                      refine hp_iald B0 hw h119 (vp_in_nI (show j < 60 by omega) (by omega)) dL_isTold_168 ?_
                                                      refine hp_c (v := (nI (gv j))) (nf_at (nI_clamp (by omega))) ?_
                                                      refine lv_icmp_eq (tgt := 174) hx hb dL_isTold_169 (by decide) (fun _ => ?_) (fun c9 => absurd rfl c9)
                                                      refine lv_iinc (v := (nI (j + 1))) (lv' := [(5, .int (nI (j + 1))), (0, .ref xo), (1, .ref lq), (2, .ref le), (3, .ref lr), (4, .ref lg)]) hx hb dL_isTold_174 hl9 (k := 0) rfl (nI_1 j) (by decide) rfl (fun ls hl9 => ?_)
                                                      refine lv_goto (tgt := 149) hx hb dL_isTold_177 (by decide) ?_
                                                      exact hp_cs (by omega) (by omega) (ih _ _ H locs ls ⟨hC116, ((show hKn [xo, ez, eo, bu, nw0, na0, nq0, nr0, nw1, na1, nq1, nr1, bs, bp, bh, bf, bl, bg] f f9 from (hKn.mono hk9 (fun _ h9 => h9))).tr (show hKn [xo, ez, eo, bu, nw0, na0, nq0, nr0, nw1, na1, nq1, nr1, bs, bp, bh, bf, bl, bg] f9 f115 from (hKn.mono k117 (fun _ h9 => h9)))), rfl⟩ hw hS (lv_sub hl9 [0, 1, 2, 3, 4, 5] rfl))
                                                  · obtain ⟨hC9, hk9, el9⟩ := hI
                                                    rw [el9] at hl9
                                                    refine W.widen (k := 34 + 60 * 0) (n := 204 + 60 * 0) (by omega) (by omega) ?_
                                                    refine hp_cs (c2 := 34) (s2 := 204) rfl rfl ?_
                                                    refine lv_iload hx hb dL_isTold_149 (lv_at hl9 0 rfl) ?_
                                                    refine lv_aload hx hb dL_isTold_151 (lv_at hl9 5 rfl) ?_
                                                    refine lv_bipush (v := 9) hx hb dL_isTold_153 (by decide) ?_
                                                    have h120 : f9 lg = some (.inl (cI G, 10, .inl (g10r tk gl a n x cg))) := hk9 _ _ k_lg (Nat.ne_of_beq_eq_false rfl) (hdos _ (List.mem_cons_of_mem _ (List.mem_cons_of_mem _ (List.mem_cons_of_mem _ List.mem_cons_self))))
                                                    refine hp_iald B0 hw h120 (by unfold vp_in; decide) dL_isTold_155 ?_
                                                    refine hp_c (v := (nI cg)) (rfl) ?_
                                                    refine lv_icmp_ge (tgt := 180) hx hb dL_isTold_156 (by decide) (fun _ => ?_) (fun c9 => absurd (nI_le (Nat.le_refl _) (by omega)) c9)
                                                    refine lv_aload_n hx hb dL_isTold_180 rfl (lv_at hl9 1 rfl) ?_
                                                    have h121 : f9 xo = some (.inr (4, [.ref ez, .ref eo, .ref bu])) := by obtain ⟨_, _, h9⟩ := hC9; exact h9.1
                                                    refine hp_V (ci := 4) (As := []) (rest := []) B0 hw hS (c_P_given_ok hl G f9 xo ez eo bu nw0 na0 nq0 nr0 nw1 na1 nq1 nr1 bs bp bh bf bl bg S0 S1 gw0 ga0 gw1 ga1 n a cg x sa pk fl gv gh gl hC9 (Nat.lt_of_le_of_lt hl0 (by decide)) (Nat.lt_of_le_of_lt hl1 (by decide))) mV_X4_given qM_L_160 rfl h121 rfl rfl hl9.1 (Nat.le_of_ble_eq_true rfl) ⟨⟨Nat.le_of_ble_eq_true rfl, Nat.le_of_ble_eq_true rfl⟩, Nat.le_of_ble_eq_true rfl, Nat.le_of_ble_eq_true rfl⟩ dL_isTold_181 (fun E ce q9 f122 H locs hPX hw hS hce hcv hcl => ?_) (fun v f122 H locs hP hw hS => ?_)
                                                    · exact hPX.elim
                                                    · obtain ⟨ev9, hC123, k124⟩ := hP
                                                      subst ev9
                                                      refine W.eq (g2 := F0 m 184 ls [.int (nI cg)]) rfl ?_
                                                      refine lv_aload hx hb dL_isTold_184 (lv_at hl9 5 rfl) ?_
                                                      refine lv_bipush (v := 9) hx hb dL_isTold_186 (by decide) ?_
                                                      have h125 : f122 lg = some (.inl (cI G, 10, .inl (g10r tk gl a n x cg))) := k124 _ _ h120 (Nat.ne_of_beq_eq_false rfl) (hdos _ (List.mem_cons_of_mem _ (List.mem_cons_of_mem _ (List.mem_cons_of_mem _ List.mem_cons_self))))
                                                      refine hp_iald B0 hw h125 (by unfold vp_in; decide) dL_isTold_188 ?_
                                                      refine hp_c (v := (nI cg)) (rfl) ?_
                                                      refine lv_icmp_ne (tgt := 308) hx hb dL_isTold_189 (by decide) (fun c9 => absurd rfl c9) (fun _ => ?_)
                                                      refine lv_aload_n hx hb dL_isTold_192 rfl (lv_at hl9 1 rfl) ?_
                                                      have h126 : f122 xo = some (.inr (4, [.ref ez, .ref eo, .ref bu])) := by obtain ⟨_, _, h9⟩ := hC123; exact h9.1
                                                      refine hp_V (ci := 4) (As := []) (rest := []) B0 hw hS (c_P_next_ok hl G f122 xo ez eo bu nw0 na0 nq0 nr0 nw1 na1 nq1 nr1 bs bp bh bf bl bg S0 S1 gw0 ga0 gw1 ga1 n a cg x sa pk fl gv gh gl hC123 (Nat.lt_of_le_of_lt hl0 (by decide)) (Nat.lt_of_le_of_lt hl1 (by decide))) mV_X4_next qM_L_164 rfl h126 rfl rfl hl9.1 (Nat.le_of_ble_eq_true rfl) ⟨⟨Nat.le_of_ble_eq_true rfl, Nat.le_of_ble_eq_true rfl⟩, Nat.le_of_ble_eq_true rfl, Nat.le_of_ble_eq_true rfl⟩ dL_isTold_193 (fun E ce q9 f127 H locs hPX hw hS hce hcv hcl => ?_) (fun v f127 H locs hP hw hS => ?_)
                                                      · exact hPX.elim
                                                      · obtain ⟨ev9, hC128, k129⟩ := hP
                                                        subst ev9
                                                        refine W.eq (g2 := F0 m 196 ls [.int (nI x)]) rfl ?_
                                                        refine lv_aload hx hb dL_isTold_196 (lv_at hl9 5 rfl) ?_
                                                        refine lv_bipush (v := 8) hx hb dL_isTold_198 (by decide) ?_
                                                        have h130 : f127 lg = some (.inl (cI G, 10, .inl (g10r tk gl a n x cg))) := k129 _ _ h125 (Nat.ne_of_beq_eq_false rfl) (hdos _ (List.mem_cons_of_mem _ (List.mem_cons_of_mem _ (List.mem_cons_of_mem _ List.mem_cons_self))))
                                                        refine hp_iald B0 hw h130 (by unfold vp_in; decide) dL_isTold_200 ?_
                                                        refine hp_c (v := (nI x)) (rfl) ?_
                                                        refine lv_icmp_ne (tgt := 308) hx hb dL_isTold_201 (by decide) (fun c9 => absurd rfl c9) (fun _ => ?_)
                                                        refine lv_aload_n hx hb dL_isTold_204 rfl (lv_at hl9 1 rfl) ?_
                                                        refine lv_aload hx hb dL_isTold_205 (lv_at hl9 5 rfl) ?_
                                                        refine lv_bipush (v := 9) hx hb dL_isTold_207 (by decide) ?_
                                                        refine hp_iald B0 hw h130 (by unfold vp_in; decide) dL_isTold_209 ?_
                                                        refine hp_c (v := (nI cg)) (rfl) ?_
                                                        refine hp_SH (As := [.ref xo, .int (nI cg)]) (rest := []) B0 hw hS (c_V_givenAt_I hl G f127 xo ez eo bu nw0 na0 nq0 nr0 nw1 na1 nq1 nr1 bs bp bh bf bl bg S0 S1 gw0 ga0 gw1 ga1 n a cg x sa pk fl gv gh gl hC128 (Nat.lt_of_le_of_lt hl0 (by decide)) (Nat.lt_of_le_of_lt hl1 (by decide)) (nI cg) (by rw [nI_toInt (by omega)]; omega)) mH_L_givenAt qM_L_158 rfl rfl hl9.1 (Nat.le_of_ble_eq_true rfl) ⟨⟨Nat.le_of_ble_eq_true rfl, Nat.le_of_ble_eq_true rfl⟩, Nat.le_of_ble_eq_true rfl, Nat.le_of_ble_eq_true rfl⟩ dL_isTold_210 (fun E ce q9 f131 H locs hPX hw hS hce hcv hcl => ?_) (fun v f131 H locs hP hw hS => ?_)
                                                        · exact hPX.elim
                                                        · obtain ⟨ev9, hC132, k133⟩ := hP
                                                          subst ev9
                                                          have hC132 : CXW G f131 xo ez eo bu nw0 na0 nq0 nr0 nw1 na1 nq1 nr1 bs bp bh bf bl bg S0 S1 gw0 ga0 gw1 ga1 n a cg x sa pk fl gv gh gl := hC132
                                                          refine W.eq (g2 := F0 m 213 ls [.int (-71)]) rfl ?_
                                                          refine lv_bipush (v := (-71)) hx hb dL_isTold_213 (by decide) ?_
                                                          refine lv_icmp_ne (tgt := 308) hx hb dL_isTold_215 (by decide) (fun c9 => absurd (by decide) c9) (fun _ => ?_)
                                                          refine lv_aload_n hx hb dL_isTold_218 rfl (lv_at hl9 1 rfl) ?_
                                                          refine lv_iconst (v := (-1)) hx hb dL_isTold_219 (by decide) ?_
                                                          refine hp_SH (As := [.ref xo, .int (-1)]) (rest := []) B0 hw hS (c_V_givenAt_I hl G f131 xo ez eo bu nw0 na0 nq0 nr0 nw1 na1 nq1 nr1 bs bp bh bf bl bg S0 S1 gw0 ga0 gw1 ga1 n a cg x sa pk fl gv gh gl hC132 (Nat.lt_of_le_of_lt hl0 (by decide)) (Nat.lt_of_le_of_lt hl1 (by decide)) (-1) (fun h9 => absurd h9.1 (by decide))) mH_L_givenAt qM_L_158 rfl rfl hl9.1 (Nat.le_of_ble_eq_true rfl) ⟨⟨Nat.le_of_ble_eq_true rfl, Nat.le_of_ble_eq_true rfl⟩, Nat.le_of_ble_eq_true rfl, Nat.le_of_ble_eq_true rfl⟩ dL_isTold_220 (fun E ce q9 f134 H locs hPX hw hS hce hcv hcl => ?_) (fun v f134 H locs hP hw hS => ?_)
                                                          · exact hPX.elim
                                                          · obtain ⟨ev9, hC135, k136⟩ := hP
                                                            subst ev9
                                                            have hC135 : CXW G f134 xo ez eo bu nw0 na0 nq0 nr0 nw1 na1 nq1 nr1 bs bp bh bf bl bg S0 S1 gw0 ga0 gw1 ga1 n a cg x sa pk fl gv gh gl := hC135
                                                            refine W.eq (g2 := F0 m 223 ls [.int (-71)]) rfl ?_
                                                            refine lv_bipush (v := (-71)) hx hb dL_isTold_223 (by decide) ?_
                                                            refine lv_icmp_ne (tgt := 308) hx hb dL_isTold_225 (by decide) (fun c9 => absurd (by decide) c9) (fun _ => ?_)
                                                            refine lv_aload_n hx hb dL_isTold_228 rfl (lv_at hl9 1 rfl) ?_
                                                            refine lv_ldc (v := 2147483647) hx hb B0.2.2.2.1 (B0.2.2.2.2.1 _ qK_L_68) dL_isTold_229 ?_
                                                            refine hp_SH (As := [.ref xo, .int 2147483647]) (rest := []) B0 hw hS (c_V_givenAt_I hl G f134 xo ez eo bu nw0 na0 nq0 nr0 nw1 na1 nq1 nr1 bs bp bh bf bl bg S0 S1 gw0 ga0 gw1 ga1 n a cg x sa pk fl gv gh gl hC135 (Nat.lt_of_le_of_lt hl0 (by decide)) (Nat.lt_of_le_of_lt hl1 (by decide)) 2147483647 (fun h9 => by have h8 := h9.2; rw [show (2147483647 : Int32).toInt = 2147483647 from by decide] at h8; omega)) mH_L_givenAt qM_L_158 rfl rfl hl9.1 (Nat.le_of_ble_eq_true rfl) ⟨⟨Nat.le_of_ble_eq_true rfl, Nat.le_of_ble_eq_true rfl⟩, Nat.le_of_ble_eq_true rfl, Nat.le_of_ble_eq_true rfl⟩ dL_isTold_231 (fun E ce q9 f137 H locs hPX hw hS hce hcv hcl => ?_) (fun v f137 H locs hP hw hS => ?_)
                                                            · exact hPX.elim
                                                            · obtain ⟨ev9, hC138, k139⟩ := hP
                                                              subst ev9
                                                              have hC138 : CXW G f137 xo ez eo bu nw0 na0 nq0 nr0 nw1 na1 nq1 nr1 bs bp bh bf bl bg S0 S1 gw0 ga0 gw1 ga1 n a cg x sa pk fl gv gh gl := hC138
                                                              refine W.eq (g2 := F0 m 234 ls [.int (-71)]) rfl ?_
                                                              refine lv_bipush (v := (-71)) hx hb dL_isTold_234 (by decide) ?_
                                                              refine lv_icmp_ne (tgt := 308) hx hb dL_isTold_236 (by decide) (fun c9 => absurd (by decide) c9) (fun _ => ?_)
                                                              refine lv_aload_n hx hb dL_isTold_239 rfl (lv_at hl9 1 rfl) ?_
                                                              refine lv_iconst (v := 2) hx hb dL_isTold_240 (by decide) ?_
                                                              refine hp_SH (As := [.ref xo, .int 2]) (rest := []) B0 hw hS (c_V_stateOf_E hl G f137 xo ez eo bu nw0 na0 nq0 nr0 nw1 na1 nq1 nr1 bs bp bh bf bl bg S0 S1 gw0 ga0 gw1 ga1 n a cg x sa pk fl gv gh gl hC138 (Nat.lt_of_le_of_lt hl0 (by decide)) (Nat.lt_of_le_of_lt hl1 (by decide)) 2 (by decide)) mH_L_stateOf qM_L_141 rfl rfl hl9.1 (Nat.le_of_ble_eq_true rfl) ⟨⟨Nat.le_of_ble_eq_true rfl, Nat.le_of_ble_eq_true rfl⟩, Nat.le_of_ble_eq_true rfl, Nat.le_of_ble_eq_true rfl⟩ dL_isTold_241 (fun E ce q9 f140 H locs hPX hw hS hce hcv hcl => ?_) (fun v f140 H locs hP hw hS => ?_)
                                                              · exact hPX.elim
                                                              · obtain ⟨ev9, hC141, k142⟩ := hP
                                                                subst ev9
                                                                have hC141 : CXW G f140 xo ez eo bu nw0 na0 nq0 nr0 nw1 na1 nq1 nr1 bs bp bh bf bl bg S0 S1 gw0 ga0 gw1 ga1 n a cg x sa pk fl gv gh gl := hC141
                                                                refine W.eq (g2 := F0 m 244 ls [.int (-71)]) rfl ?_
                                                                refine lv_bipush (v := (-71)) hx hb dL_isTold_244 (by decide) ?_
                                                                refine lv_icmp_ne (tgt := 308) hx hb dL_isTold_246 (by decide) (fun c9 => absurd (by decide) c9) (fun _ => ?_)
                                                                refine lv_aload_n hx hb dL_isTold_249 rfl (lv_at hl9 1 rfl) ?_
                                                                refine lv_ldc (v := (-2147483648)) hx hb B0.2.2.2.1 (B0.2.2.2.2.1 _ qK_L_67) dL_isTold_250 ?_
                                                                refine hp_SH (As := [.ref xo, .int (-2147483648)]) (rest := []) B0 hw hS (c_V_stateOf_E hl G f140 xo ez eo bu nw0 na0 nq0 nr0 nw1 na1 nq1 nr1 bs bp bh bf bl bg S0 S1 gw0 ga0 gw1 ga1 n a cg x sa pk fl gv gh gl hC141 (Nat.lt_of_le_of_lt hl0 (by decide)) (Nat.lt_of_le_of_lt hl1 (by decide)) (-2147483648) (by decide)) mH_L_stateOf qM_L_141 rfl rfl hl9.1 (Nat.le_of_ble_eq_true rfl) ⟨⟨Nat.le_of_ble_eq_true rfl, Nat.le_of_ble_eq_true rfl⟩, Nat.le_of_ble_eq_true rfl, Nat.le_of_ble_eq_true rfl⟩ dL_isTold_252 (fun E ce q9 f143 H locs hPX hw hS hce hcv hcl => ?_) (fun v f143 H locs hP hw hS => ?_)
                                                                · exact hPX.elim
                                                                · obtain ⟨ev9, hC144, k145⟩ := hP
                                                                  subst ev9
                                                                  have hC144 : CXW G f143 xo ez eo bu nw0 na0 nq0 nr0 nw1 na1 nq1 nr1 bs bp bh bf bl bg S0 S1 gw0 ga0 gw1 ga1 n a cg x sa pk fl gv gh gl := hC144
                                                                  refine W.eq (g2 := F0 m 255 ls [.int (-71)]) rfl ?_
                                                                  refine lv_bipush (v := (-71)) hx hb dL_isTold_255 (by decide) ?_
                                                                  refine lv_icmp_ne (tgt := 308) hx hb dL_isTold_257 (by decide) (fun c9 => absurd (by decide) c9) (fun _ => ?_)
                                                                  refine lv_aload_n hx hb dL_isTold_260 rfl (lv_at hl9 1 rfl) ?_
                                                                  refine lv_iconst (v := 0) hx hb dL_isTold_261 (by decide) ?_
                                                                  refine lv_bipush (v := 6) hx hb dL_isTold_262 (by decide) ?_
                                                                  refine hp_SH (As := [.ref xo, .int 0, .int 6]) (rest := []) B0 hw hS (c_V_asked_O0 hl G f143 xo ez eo bu nw0 na0 nq0 nr0 nw1 na1 nq1 nr1 bs bp bh bf bl bg S0 S1 gw0 ga0 gw1 ga1 n a cg x sa pk fl gv gh gl hC144 (Nat.lt_of_le_of_lt hl0 (by decide)) (Nat.lt_of_le_of_lt hl1 (by decide)) 6 (by decide)) mH_L_asked qM_L_155 rfl rfl hl9.1 (Nat.le_of_ble_eq_true rfl) ⟨⟨Nat.le_of_ble_eq_true rfl, Nat.le_of_ble_eq_true rfl⟩, Nat.le_of_ble_eq_true rfl, Nat.le_of_ble_eq_true rfl⟩ dL_isTold_264 (fun E ce q9 f146 H locs hPX hw hS hce hcv hcl => ?_) (fun v f146 H locs hP hw hS => ?_)
                                                                  · exact hPX.elim
                                                                  · obtain ⟨ev9, hC147, k148⟩ := hP
                                                                    subst ev9
                                                                    have hC147 : CXW G f146 xo ez eo bu nw0 na0 nq0 nr0 nw1 na1 nq1 nr1 bs bp bh bf bl bg S0 S1 gw0 ga0 gw1 ga1 n a cg x sa pk fl gv gh gl := hC147
                                                                    refine W.eq (g2 := F0 m 267 ls [.int (-71)]) rfl ?_
                                                                    refine lv_bipush (v := (-71)) hx hb dL_isTold_267 (by decide) ?_
                                                                    refine lv_icmp_ne (tgt := 308) hx hb dL_isTold_269 (by decide) (fun c9 => absurd (by decide) c9) (fun _ => ?_)
                                                                    refine lv_aload_n hx hb dL_isTold_272 rfl (lv_at hl9 1 rfl) ?_
                                                                    refine lv_iconst (v := 2) hx hb dL_isTold_273 (by decide) ?_
                                                                    refine lv_iconst (v := 0) hx hb dL_isTold_274 (by decide) ?_
                                                                    refine hp_SH (As := [.ref xo, .int 2, .int 0]) (rest := []) B0 hw hS (c_V_asked_E hl G f146 xo ez eo bu nw0 na0 nq0 nr0 nw1 na1 nq1 nr1 bs bp bh bf bl bg S0 S1 gw0 ga0 gw1 ga1 n a cg x sa pk fl gv gh gl hC147 (Nat.lt_of_le_of_lt hl0 (by decide)) (Nat.lt_of_le_of_lt hl1 (by decide)) 2 0 (by decide)) mH_L_asked qM_L_155 rfl rfl hl9.1 (Nat.le_of_ble_eq_true rfl) ⟨⟨Nat.le_of_ble_eq_true rfl, Nat.le_of_ble_eq_true rfl⟩, Nat.le_of_ble_eq_true rfl, Nat.le_of_ble_eq_true rfl⟩ dL_isTold_275 (fun E ce q9 f149 H locs hPX hw hS hce hcv hcl => ?_) (fun v f149 H locs hP hw hS => ?_)
                                                                    · exact hPX.elim
                                                                    · obtain ⟨ev9, hC150, k151⟩ := hP
                                                                      subst ev9
                                                                      have hC150 : CXW G f149 xo ez eo bu nw0 na0 nq0 nr0 nw1 na1 nq1 nr1 bs bp bh bf bl bg S0 S1 gw0 ga0 gw1 ga1 n a cg x sa pk fl gv gh gl := hC150
                                                                      refine W.eq (g2 := F0 m 278 ls [.int (-71)]) rfl ?_
                                                                      refine lv_bipush (v := (-71)) hx hb dL_isTold_278 (by decide) ?_
                                                                      refine lv_icmp_ne (tgt := 308) hx hb dL_isTold_280 (by decide) (fun c9 => absurd (by decide) c9) (fun _ => ?_)
                                                                      refine lv_aload_n hx hb dL_isTold_283 rfl (lv_at hl9 1 rfl) ?_
                                                                      refine lv_iconst (v := 0) hx hb dL_isTold_284 (by decide) ?_
                                                                      refine lv_iconst (v := (-1)) hx hb dL_isTold_285 (by decide) ?_
                                                                      refine hp_SH (As := [.ref xo, .int 0, .int (-1)]) (rest := []) B0 hw hS (c_V_asked_O0 hl G f149 xo ez eo bu nw0 na0 nq0 nr0 nw1 na1 nq1 nr1 bs bp bh bf bl bg S0 S1 gw0 ga0 gw1 ga1 n a cg x sa pk fl gv gh gl hC150 (Nat.lt_of_le_of_lt hl0 (by decide)) (Nat.lt_of_le_of_lt hl1 (by decide)) (-1) (by decide)) mH_L_asked qM_L_155 rfl rfl hl9.1 (Nat.le_of_ble_eq_true rfl) ⟨⟨Nat.le_of_ble_eq_true rfl, Nat.le_of_ble_eq_true rfl⟩, Nat.le_of_ble_eq_true rfl, Nat.le_of_ble_eq_true rfl⟩ dL_isTold_286 (fun E ce q9 f152 H locs hPX hw hS hce hcv hcl => ?_) (fun v f152 H locs hP hw hS => ?_)
                                                                      · exact hPX.elim
                                                                      · obtain ⟨ev9, hC153, k154⟩ := hP
                                                                        subst ev9
                                                                        have hC153 : CXW G f152 xo ez eo bu nw0 na0 nq0 nr0 nw1 na1 nq1 nr1 bs bp bh bf bl bg S0 S1 gw0 ga0 gw1 ga1 n a cg x sa pk fl gv gh gl := hC153
                                                                        refine W.eq (g2 := F0 m 289 ls [.int (-71)]) rfl ?_
                                                                        refine lv_bipush (v := (-71)) hx hb dL_isTold_289 (by decide) ?_
                                                                        refine lv_icmp_ne (tgt := 308) hx hb dL_isTold_291 (by decide) (fun c9 => absurd (by decide) c9) (fun _ => ?_)
                                                                        refine lv_aload_n hx hb dL_isTold_294 rfl (lv_at hl9 1 rfl) ?_
                                                                        refine lv_iconst (v := (-1)) hx hb dL_isTold_295 (by decide) ?_
                                                                        refine hp_SH (As := [.ref xo, .int (-1)]) (rest := []) B0 hw hS (c_V_underWay_E hl G f152 xo ez eo bu nw0 na0 nq0 nr0 nw1 na1 nq1 nr1 bs bp bh bf bl bg S0 S1 gw0 ga0 gw1 ga1 n a cg x sa pk fl gv gh gl hC153 (Nat.lt_of_le_of_lt hl0 (by decide)) (Nat.lt_of_le_of_lt hl1 (by decide)) (-1) (by decide)) mH_L_underWay qM_L_150 rfl rfl hl9.1 (Nat.le_of_ble_eq_true rfl) ⟨⟨Nat.le_of_ble_eq_true rfl, Nat.le_of_ble_eq_true rfl⟩, Nat.le_of_ble_eq_true rfl, Nat.le_of_ble_eq_true rfl⟩ dL_isTold_296 (fun E ce q9 f155 H locs hPX hw hS hce hcv hcl => ?_) (fun v f155 H locs hP hw hS => ?_)
                                                                        · exact hPX.elim
                                                                        · obtain ⟨ev9, hC156, k157⟩ := hP
                                                                          subst ev9
                                                                          have hC156 : CXW G f155 xo ez eo bu nw0 na0 nq0 nr0 nw1 na1 nq1 nr1 bs bp bh bf bl bg S0 S1 gw0 ga0 gw1 ga1 n a cg x sa pk fl gv gh gl := hC156
                                                                          refine W.eq (g2 := F0 m 299 ls [.int (-71)]) rfl ?_
                                                                          refine lv_bipush (v := (-71)) hx hb dL_isTold_299 (by decide) ?_
                                                                          refine lv_icmp_ne (tgt := 308) hx hb dL_isTold_301 (by decide) (fun c9 => absurd (by decide) c9) (fun _ => ?_)
                                                                          refine lv_iconst (v := 1) hx hb dL_isTold_304 (by decide) ?_
                                                                          refine lv_goto (tgt := 309) hx hb dL_isTold_305 (by decide) ?_
                                                                          exact hp_zret (v := 1) B0 hw hS hr ⟨Nat.le_of_ble_eq_true rfl, Nat.le_of_ble_eq_true rfl⟩ (rfl) dL_isTold_309 (⟨rfl, hC156, ((show hKn [xo, ez, eo, bu, nw0, na0, nq0, nr0, nw1, na1, nq1, nr1, bs, bp, bh, bf, bl, bg] f f9 from (hKn.mono hk9 (fun _ h9 => h9))).tr ((show hKn [xo, ez, eo, bu, nw0, na0, nq0, nr0, nw1, na1, nq1, nr1, bs, bp, bh, bf, bl, bg] f9 f122 from (hKn.mono k124 (fun _ h9 => h9))).tr ((show hKn [xo, ez, eo, bu, nw0, na0, nq0, nr0, nw1, na1, nq1, nr1, bs, bp, bh, bf, bl, bg] f122 f127 from (hKn.mono k129 (fun _ h9 => h9))).tr ((show hKn [xo, ez, eo, bu, nw0, na0, nq0, nr0, nw1, na1, nq1, nr1, bs, bp, bh, bf, bl, bg] f127 f131 from (hKn.mono k133 (fun _ h9 => h9))).tr ((show hKn [xo, ez, eo, bu, nw0, na0, nq0, nr0, nw1, na1, nq1, nr1, bs, bp, bh, bf, bl, bg] f131 f134 from (hKn.mono k136 (fun _ h9 => h9))).tr ((show hKn [xo, ez, eo, bu, nw0, na0, nq0, nr0, nw1, na1, nq1, nr1, bs, bp, bh, bf, bl, bg] f134 f137 from (hKn.mono k139 (fun _ h9 => h9))).tr ((show hKn [xo, ez, eo, bu, nw0, na0, nq0, nr0, nw1, na1, nq1, nr1, bs, bp, bh, bf, bl, bg] f137 f140 from (hKn.mono k142 (fun _ h9 => h9))).tr ((show hKn [xo, ez, eo, bu, nw0, na0, nq0, nr0, nw1, na1, nq1, nr1, bs, bp, bh, bf, bl, bg] f140 f143 from (hKn.mono k145 (fun _ h9 => h9))).tr ((show hKn [xo, ez, eo, bu, nw0, na0, nq0, nr0, nw1, na1, nq1, nr1, bs, bp, bh, bf, bl, bg] f143 f146 from (hKn.mono k148 (fun _ h9 => h9))).tr ((show hKn [xo, ez, eo, bu, nw0, na0, nq0, nr0, nw1, na1, nq1, nr1, bs, bp, bh, bf, bl, bg] f146 f149 from (hKn.mono k151 (fun _ h9 => h9))).tr ((show hKn [xo, ez, eo, bu, nw0, na0, nq0, nr0, nw1, na1, nq1, nr1, bs, bp, bh, bf, bl, bg] f149 f152 from (hKn.mono k154 (fun _ h9 => h9))).tr (show hKn [xo, ez, eo, bu, nw0, na0, nq0, nr0, nw1, na1, nq1, nr1, bs, bp, bh, bf, bl, bg] f152 f155 from (hKn.mono k157 (fun _ h9 => h9))))))))))))))⟩)
                                · refine lv_iconst (v := 1) hx hb dL_isTold_60 (by decide) ?_
                                  refine lv_goto (tgt := 65) hx hb dL_isTold_61 (by decide) ?_
                                  refine lv_icmp_ne (tgt := 99) hx hb dL_isTold_65 (by decide) (fun c9 => absurd c75 c9) (fun _ => ?_)
                                  refine lv_aload_n hx hb dL_isTold_68 rfl (lv_at hl9 3 rfl) ?_
                                  refine lv_iload hx hb dL_isTold_69 (lv_at hl9 1 rfl) ?_
                                  refine hp_SH (As := [.ref xo, .int 1]) (rest := []) B0 hw hS (c_V_underWay_1 hl G f71 xo ez eo bu nw0 na0 nq0 nr0 nw1 na1 nq1 nr1 bs bp bh bf bl bg S0 S1 gw0 ga0 gw1 ga1 n a cg x sa pk fl gv gh gl hC72 (Nat.lt_of_le_of_lt hl0 (by decide)) (Nat.lt_of_le_of_lt hl1 (by decide)) ) mH_L_underWay qM_L_150 rfl rfl hl9.1 (Nat.le_of_ble_eq_true rfl) ⟨⟨Nat.le_of_ble_eq_true rfl, Nat.le_of_ble_eq_true rfl⟩, Nat.le_of_ble_eq_true rfl, Nat.le_of_ble_eq_true rfl⟩ dL_isTold_71 (fun E ce q9 f158 H locs hPX hw hS hce hcv hcl => ?_) (fun v f158 H locs hP hw hS => ?_)
                                  · exact hPX.elim
                                  · obtain ⟨ev9, hC159, k160⟩ := hP
                                    subst ev9
                                    have hC159 : CXW G f158 xo ez eo bu nw0 na0 nq0 nr0 nw1 na1 nq1 nr1 bs bp bh bf bl bg S0 S1 gw0 ga0 gw1 ga1 n a cg x sa pk fl gv gh gl := hC159
                                    refine W.eq (g2 := F0 m 74 ls [.int ((nI S1.2.2.2.2.2.2.2.2.length))]) rfl ?_
                                    refine lv_aload_n hx hb dL_isTold_74 rfl (lv_at hl9 5 rfl) ?_
                                    refine lv_iload hx hb dL_isTold_75 (lv_at hl9 0 rfl) ?_
                                    refine lv_bipush (v := 7) hx hb dL_isTold_77 (by decide) ?_
                                    refine lv_iadd hx hb dL_isTold_79 ?_
                                    refine hp_c (v := 15) (by decide) ?_
                                    have h161 : f158 le = some (.inl (cI G, 16, .inl (jE (eSt S0) (eSt S1)))) := k160 _ _ h74 (Nat.ne_of_beq_eq_false rfl) (hdos _ (List.mem_cons_of_mem _ List.mem_cons_self))
                                    refine hp_iald B0 hw h161 (by unfold vp_in; decide) dL_isTold_80 ?_
                                    refine hp_c (v := (nI S1.2.2.2.2.2.2.2.2.length)) (rfl) ?_
                                    refine lv_icmp_ne (tgt := 99) hx hb dL_isTold_81 (by decide) (fun c9 => absurd rfl c9) (fun _ => ?_)
                                    refine lv_aload_n hx hb dL_isTold_84 rfl (lv_at hl9 3 rfl) ?_
                                    refine lv_iload hx hb dL_isTold_85 (lv_at hl9 1 rfl) ?_
                                    have h162 : f158 xo = some (.inr (4, [.ref ez, .ref eo, .ref bu])) := by obtain ⟨_, _, h9⟩ := hC159; exact h9.1
                                    refine hp_V (ci := 4) (As := [.int 1]) (rest := []) B0 hw hS (c_P_missed_1 hl G f158 xo ez eo bu nw0 na0 nq0 nr0 nw1 na1 nq1 nr1 bs bp bh bf bl bg S0 S1 gw0 ga0 gw1 ga1 n a cg x sa pk fl gv gh gl hC159 (Nat.lt_of_le_of_lt hl0 (by decide)) (Nat.lt_of_le_of_lt hl1 (by decide))) mV_X4_missed qM_L_152 rfl h162 rfl rfl hl9.1 (Nat.le_of_ble_eq_true rfl) ⟨⟨Nat.le_of_ble_eq_true rfl, Nat.le_of_ble_eq_true rfl⟩, Nat.le_of_ble_eq_true rfl, Nat.le_of_ble_eq_true rfl⟩ dL_isTold_87 (fun E ce q9 f163 H locs hPX hw hS hce hcv hcl => ?_) (fun v f163 H locs hP hw hS => ?_)
                                    · exact hPX.elim
                                    · obtain ⟨ev9, hC164, k165⟩ := hP
                                      subst ev9
                                      refine W.eq (g2 := F0 m 90 ls [.int S1.2.2.2.2.2.1]) rfl ?_
                                      refine lv_aload_n hx hb dL_isTold_90 rfl (lv_at hl9 5 rfl) ?_
                                      refine lv_iload hx hb dL_isTold_91 (lv_at hl9 0 rfl) ?_
                                      refine lv_iconst (v := 5) hx hb dL_isTold_93 (by decide) ?_
                                      refine lv_iadd hx hb dL_isTold_94 ?_
                                      refine hp_c (v := 13) (by decide) ?_
                                      have h166 : f163 le = some (.inl (cI G, 16, .inl (jE (eSt S0) (eSt S1)))) := k165 _ _ h161 (Nat.ne_of_beq_eq_false rfl) (hdos _ (List.mem_cons_of_mem _ List.mem_cons_self))
                                      refine hp_iald B0 hw h166 (by unfold vp_in; decide) dL_isTold_95 ?_
                                      refine hp_c (v := S1.2.2.2.2.2.1) (rfl) ?_
                                      refine lv_icmp_eq (tgt := 101) hx hb dL_isTold_96 (by decide) (fun _ => ?_) (fun c9 => absurd rfl c9)
                                      refine lv_iconst (v := 0) hx hb dL_isTold_101 (by decide) ?_
                                      refine lv_istore (lv' := [(7, .int 0), (6, .int 8), (5, .int 1), (0, .ref xo), (1, .ref lq), (2, .ref le), (3, .ref lr), (4, .ref lg)]) hx hb dL_isTold_102 hl9 (by decide) rfl (fun ls hl9 => ?_)
                                      refine lv_iload hx hb dL_isTold_104 (lv_at hl9 0 rfl) ?_
                                      refine lv_bipush (v := 6) hx hb dL_isTold_106 (by decide) ?_
                                      refine lv_icmp_ge (tgt := 140) hx hb dL_isTold_108 (by decide) (fun c9 => absurd c9 (by decide)) (fun _ => ?_)
                                      refine lv_aload_n hx hb dL_isTold_111 rfl (lv_at hl9 3 rfl) ?_
                                      refine lv_iload hx hb dL_isTold_112 (lv_at hl9 2 rfl) ?_
                                      refine lv_iload hx hb dL_isTold_114 (lv_at hl9 0 rfl) ?_
                                      refine hp_SH (As := [.ref xo, .int 1, .int 0]) (rest := []) B0 hw hS (c_V_asked_1 hl G f163 xo ez eo bu nw0 na0 nq0 nr0 nw1 na1 nq1 nr1 bs bp bh bf bl bg S0 S1 gw0 ga0 gw1 ga1 n a cg x sa pk fl gv gh gl hC164 (Nat.lt_of_le_of_lt hl0 (by decide)) (Nat.lt_of_le_of_lt hl1 (by decide)) 0 (by decide)) mH_L_asked qM_L_155 rfl rfl hl9.1 (Nat.le_of_ble_eq_true rfl) ⟨⟨Nat.le_of_ble_eq_true rfl, Nat.le_of_ble_eq_true rfl⟩, Nat.le_of_ble_eq_true rfl, Nat.le_of_ble_eq_true rfl⟩ dL_isTold_116 (fun E ce q9 f167 H locs hPX hw hS hce hcv hcl => ?_) (fun v f167 H locs hP hw hS => ?_)
                                      · exact hPX.elim
                                      · obtain ⟨ev9, hC168, k169⟩ := hP
                                        subst ev9
                                        have hC168 : CXW G f167 xo ez eo bu nw0 na0 nq0 nr0 nw1 na1 nq1 nr1 bs bp bh bf bl bg S0 S1 gw0 ga0 gw1 ga1 n a cg x sa pk fl gv gh gl := hC168
                                        refine W.eq (g2 := F0 m 119 ls [.int ((S1.2.2.2.2.2.2.2.1 0))]) rfl ?_
                                        refine lv_aload_n hx hb dL_isTold_119 rfl (lv_at hl9 4 rfl) ?_
                                        refine lv_bipush (v := 6) hx hb dL_isTold_120 (by decide) ?_
                                        refine lv_iload hx hb dL_isTold_122 (lv_at hl9 2 rfl) ?_
                                        refine lv_imul hx hb dL_isTold_124 ?_
                                        refine hp_c (v := 6) (by decide) ?_
                                        refine lv_iload hx hb dL_isTold_125 (lv_at hl9 0 rfl) ?_
                                        refine lv_iadd hx hb dL_isTold_127 ?_
                                        refine hp_c (v := 6) (by decide) ?_
                                        have h170 : f55 lq = some (.inl (cI G, 12, .inl (j6r S0.2.2.2.2.2.2.2.1 S1.2.2.2.2.2.2.2.1))) := k57 _ _ h54 (Nat.ne_of_beq_eq_false rfl) (hdos _ List.mem_cons_self)
                                        have h171 : f66 lq = some (.inl (cI G, 12, .inl (j6r S0.2.2.2.2.2.2.2.1 S1.2.2.2.2.2.2.2.1))) := k68 _ _ h170 (Nat.ne_of_beq_eq_false rfl) (hdos _ List.mem_cons_self)
                                        have h172 : f71 lq = some (.inl (cI G, 12, .inl (j6r S0.2.2.2.2.2.2.2.1 S1.2.2.2.2.2.2.2.1))) := k73 _ _ h171 (Nat.ne_of_beq_eq_false rfl) (hdos _ List.mem_cons_self)
                                        have h173 : f158 lq = some (.inl (cI G, 12, .inl (j6r S0.2.2.2.2.2.2.2.1 S1.2.2.2.2.2.2.2.1))) := k160 _ _ h172 (Nat.ne_of_beq_eq_false rfl) (hdos _ List.mem_cons_self)
                                        have h174 : f163 lq = some (.inl (cI G, 12, .inl (j6r S0.2.2.2.2.2.2.2.1 S1.2.2.2.2.2.2.2.1))) := k165 _ _ h173 (Nat.ne_of_beq_eq_false rfl) (hdos _ List.mem_cons_self)
                                        have h175 : f167 lq = some (.inl (cI G, 12, .inl (j6r S0.2.2.2.2.2.2.2.1 S1.2.2.2.2.2.2.2.1))) := k169 _ _ h174 (Nat.ne_of_beq_eq_false rfl) (hdos _ List.mem_cons_self)
                                        refine hp_iald B0 hw h175 (by unfold vp_in; decide) dL_isTold_128 ?_
                                        refine hp_c (v := (S1.2.2.2.2.2.2.2.1 0)) (rfl) ?_
                                        refine lv_icmp_eq (tgt := 134) hx hb dL_isTold_129 (by decide) (fun _ => ?_) (fun c9 => absurd rfl c9)
                                        refine lv_iinc (v := 1) (lv' := [(7, .int 1), (6, .int 8), (5, .int 1), (0, .ref xo), (1, .ref lq), (2, .ref le), (3, .ref lr), (4, .ref lg)]) hx hb dL_isTold_134 hl9 (k := 0) rfl (by decide) (by decide) rfl (fun ls hl9 => ?_)
                                        refine lv_goto (tgt := 104) hx hb dL_isTold_137 (by decide) ?_
                                        refine lv_iload hx hb dL_isTold_104 (lv_at hl9 0 rfl) ?_
                                        refine lv_bipush (v := 6) hx hb dL_isTold_106 (by decide) ?_
                                        refine lv_icmp_ge (tgt := 140) hx hb dL_isTold_108 (by decide) (fun c9 => absurd c9 (by decide)) (fun _ => ?_)
                                        refine lv_aload_n hx hb dL_isTold_111 rfl (lv_at hl9 3 rfl) ?_
                                        refine lv_iload hx hb dL_isTold_112 (lv_at hl9 2 rfl) ?_
                                        refine lv_iload hx hb dL_isTold_114 (lv_at hl9 0 rfl) ?_
                                        refine hp_SH (As := [.ref xo, .int 1, .int 1]) (rest := []) B0 hw hS (c_V_asked_1 hl G f167 xo ez eo bu nw0 na0 nq0 nr0 nw1 na1 nq1 nr1 bs bp bh bf bl bg S0 S1 gw0 ga0 gw1 ga1 n a cg x sa pk fl gv gh gl hC168 (Nat.lt_of_le_of_lt hl0 (by decide)) (Nat.lt_of_le_of_lt hl1 (by decide)) 1 (by decide)) mH_L_asked qM_L_155 rfl rfl hl9.1 (Nat.le_of_ble_eq_true rfl) ⟨⟨Nat.le_of_ble_eq_true rfl, Nat.le_of_ble_eq_true rfl⟩, Nat.le_of_ble_eq_true rfl, Nat.le_of_ble_eq_true rfl⟩ dL_isTold_116 (fun E ce q9 f176 H locs hPX hw hS hce hcv hcl => ?_) (fun v f176 H locs hP hw hS => ?_)
                                        · exact hPX.elim
                                        · obtain ⟨ev9, hC177, k178⟩ := hP
                                          subst ev9
                                          have hC177 : CXW G f176 xo ez eo bu nw0 na0 nq0 nr0 nw1 na1 nq1 nr1 bs bp bh bf bl bg S0 S1 gw0 ga0 gw1 ga1 n a cg x sa pk fl gv gh gl := hC177
                                          refine W.eq (g2 := F0 m 119 ls [.int ((S1.2.2.2.2.2.2.2.1 1))]) rfl ?_
                                          refine lv_aload_n hx hb dL_isTold_119 rfl (lv_at hl9 4 rfl) ?_
                                          refine lv_bipush (v := 6) hx hb dL_isTold_120 (by decide) ?_
                                          refine lv_iload hx hb dL_isTold_122 (lv_at hl9 2 rfl) ?_
                                          refine lv_imul hx hb dL_isTold_124 ?_
                                          refine hp_c (v := 6) (by decide) ?_
                                          refine lv_iload hx hb dL_isTold_125 (lv_at hl9 0 rfl) ?_
                                          refine lv_iadd hx hb dL_isTold_127 ?_
                                          refine hp_c (v := 7) (by decide) ?_
                                          have h179 : f176 lq = some (.inl (cI G, 12, .inl (j6r S0.2.2.2.2.2.2.2.1 S1.2.2.2.2.2.2.2.1))) := k178 _ _ h175 (Nat.ne_of_beq_eq_false rfl) (hdos _ List.mem_cons_self)
                                          refine hp_iald B0 hw h179 (by unfold vp_in; decide) dL_isTold_128 ?_
                                          refine hp_c (v := (S1.2.2.2.2.2.2.2.1 1)) (rfl) ?_
                                          refine lv_icmp_eq (tgt := 134) hx hb dL_isTold_129 (by decide) (fun _ => ?_) (fun c9 => absurd rfl c9)
                                          refine lv_iinc (v := 2) (lv' := [(7, .int 2), (6, .int 8), (5, .int 1), (0, .ref xo), (1, .ref lq), (2, .ref le), (3, .ref lr), (4, .ref lg)]) hx hb dL_isTold_134 hl9 (k := 0) rfl (by decide) (by decide) rfl (fun ls hl9 => ?_)
                                          refine lv_goto (tgt := 104) hx hb dL_isTold_137 (by decide) ?_
                                          refine lv_iload hx hb dL_isTold_104 (lv_at hl9 0 rfl) ?_
                                          refine lv_bipush (v := 6) hx hb dL_isTold_106 (by decide) ?_
                                          refine lv_icmp_ge (tgt := 140) hx hb dL_isTold_108 (by decide) (fun c9 => absurd c9 (by decide)) (fun _ => ?_)
                                          refine lv_aload_n hx hb dL_isTold_111 rfl (lv_at hl9 3 rfl) ?_
                                          refine lv_iload hx hb dL_isTold_112 (lv_at hl9 2 rfl) ?_
                                          refine lv_iload hx hb dL_isTold_114 (lv_at hl9 0 rfl) ?_
                                          refine hp_SH (As := [.ref xo, .int 1, .int 2]) (rest := []) B0 hw hS (c_V_asked_1 hl G f176 xo ez eo bu nw0 na0 nq0 nr0 nw1 na1 nq1 nr1 bs bp bh bf bl bg S0 S1 gw0 ga0 gw1 ga1 n a cg x sa pk fl gv gh gl hC177 (Nat.lt_of_le_of_lt hl0 (by decide)) (Nat.lt_of_le_of_lt hl1 (by decide)) 2 (by decide)) mH_L_asked qM_L_155 rfl rfl hl9.1 (Nat.le_of_ble_eq_true rfl) ⟨⟨Nat.le_of_ble_eq_true rfl, Nat.le_of_ble_eq_true rfl⟩, Nat.le_of_ble_eq_true rfl, Nat.le_of_ble_eq_true rfl⟩ dL_isTold_116 (fun E ce q9 f180 H locs hPX hw hS hce hcv hcl => ?_) (fun v f180 H locs hP hw hS => ?_)
                                          · exact hPX.elim
                                          · obtain ⟨ev9, hC181, k182⟩ := hP
                                            subst ev9
                                            have hC181 : CXW G f180 xo ez eo bu nw0 na0 nq0 nr0 nw1 na1 nq1 nr1 bs bp bh bf bl bg S0 S1 gw0 ga0 gw1 ga1 n a cg x sa pk fl gv gh gl := hC181
                                            refine W.eq (g2 := F0 m 119 ls [.int ((S1.2.2.2.2.2.2.2.1 2))]) rfl ?_
                                            refine lv_aload_n hx hb dL_isTold_119 rfl (lv_at hl9 4 rfl) ?_
                                            refine lv_bipush (v := 6) hx hb dL_isTold_120 (by decide) ?_
                                            refine lv_iload hx hb dL_isTold_122 (lv_at hl9 2 rfl) ?_
                                            refine lv_imul hx hb dL_isTold_124 ?_
                                            refine hp_c (v := 6) (by decide) ?_
                                            refine lv_iload hx hb dL_isTold_125 (lv_at hl9 0 rfl) ?_
                                            refine lv_iadd hx hb dL_isTold_127 ?_
                                            refine hp_c (v := 8) (by decide) ?_
                                            have h183 : f180 lq = some (.inl (cI G, 12, .inl (j6r S0.2.2.2.2.2.2.2.1 S1.2.2.2.2.2.2.2.1))) := k182 _ _ h179 (Nat.ne_of_beq_eq_false rfl) (hdos _ List.mem_cons_self)
                                            refine hp_iald B0 hw h183 (by unfold vp_in; decide) dL_isTold_128 ?_
                                            refine hp_c (v := (S1.2.2.2.2.2.2.2.1 2)) (rfl) ?_
                                            refine lv_icmp_eq (tgt := 134) hx hb dL_isTold_129 (by decide) (fun _ => ?_) (fun c9 => absurd rfl c9)
                                            refine lv_iinc (v := 3) (lv' := [(7, .int 3), (6, .int 8), (5, .int 1), (0, .ref xo), (1, .ref lq), (2, .ref le), (3, .ref lr), (4, .ref lg)]) hx hb dL_isTold_134 hl9 (k := 0) rfl (by decide) (by decide) rfl (fun ls hl9 => ?_)
                                            refine lv_goto (tgt := 104) hx hb dL_isTold_137 (by decide) ?_
                                            refine lv_iload hx hb dL_isTold_104 (lv_at hl9 0 rfl) ?_
                                            refine lv_bipush (v := 6) hx hb dL_isTold_106 (by decide) ?_
                                            refine lv_icmp_ge (tgt := 140) hx hb dL_isTold_108 (by decide) (fun c9 => absurd c9 (by decide)) (fun _ => ?_)
                                            refine lv_aload_n hx hb dL_isTold_111 rfl (lv_at hl9 3 rfl) ?_
                                            refine lv_iload hx hb dL_isTold_112 (lv_at hl9 2 rfl) ?_
                                            refine lv_iload hx hb dL_isTold_114 (lv_at hl9 0 rfl) ?_
                                            refine hp_SH (As := [.ref xo, .int 1, .int 3]) (rest := []) B0 hw hS (c_V_asked_1 hl G f180 xo ez eo bu nw0 na0 nq0 nr0 nw1 na1 nq1 nr1 bs bp bh bf bl bg S0 S1 gw0 ga0 gw1 ga1 n a cg x sa pk fl gv gh gl hC181 (Nat.lt_of_le_of_lt hl0 (by decide)) (Nat.lt_of_le_of_lt hl1 (by decide)) 3 (by decide)) mH_L_asked qM_L_155 rfl rfl hl9.1 (Nat.le_of_ble_eq_true rfl) ⟨⟨Nat.le_of_ble_eq_true rfl, Nat.le_of_ble_eq_true rfl⟩, Nat.le_of_ble_eq_true rfl, Nat.le_of_ble_eq_true rfl⟩ dL_isTold_116 (fun E ce q9 f184 H locs hPX hw hS hce hcv hcl => ?_) (fun v f184 H locs hP hw hS => ?_)
                                            · exact hPX.elim
                                            · obtain ⟨ev9, hC185, k186⟩ := hP
                                              subst ev9
                                              have hC185 : CXW G f184 xo ez eo bu nw0 na0 nq0 nr0 nw1 na1 nq1 nr1 bs bp bh bf bl bg S0 S1 gw0 ga0 gw1 ga1 n a cg x sa pk fl gv gh gl := hC185
                                              refine W.eq (g2 := F0 m 119 ls [.int ((S1.2.2.2.2.2.2.2.1 3))]) rfl ?_
                                              refine lv_aload_n hx hb dL_isTold_119 rfl (lv_at hl9 4 rfl) ?_
                                              refine lv_bipush (v := 6) hx hb dL_isTold_120 (by decide) ?_
                                              refine lv_iload hx hb dL_isTold_122 (lv_at hl9 2 rfl) ?_
                                              refine lv_imul hx hb dL_isTold_124 ?_
                                              refine hp_c (v := 6) (by decide) ?_
                                              refine lv_iload hx hb dL_isTold_125 (lv_at hl9 0 rfl) ?_
                                              refine lv_iadd hx hb dL_isTold_127 ?_
                                              refine hp_c (v := 9) (by decide) ?_
                                              have h187 : f184 lq = some (.inl (cI G, 12, .inl (j6r S0.2.2.2.2.2.2.2.1 S1.2.2.2.2.2.2.2.1))) := k186 _ _ h183 (Nat.ne_of_beq_eq_false rfl) (hdos _ List.mem_cons_self)
                                              refine hp_iald B0 hw h187 (by unfold vp_in; decide) dL_isTold_128 ?_
                                              refine hp_c (v := (S1.2.2.2.2.2.2.2.1 3)) (rfl) ?_
                                              refine lv_icmp_eq (tgt := 134) hx hb dL_isTold_129 (by decide) (fun _ => ?_) (fun c9 => absurd rfl c9)
                                              refine lv_iinc (v := 4) (lv' := [(7, .int 4), (6, .int 8), (5, .int 1), (0, .ref xo), (1, .ref lq), (2, .ref le), (3, .ref lr), (4, .ref lg)]) hx hb dL_isTold_134 hl9 (k := 0) rfl (by decide) (by decide) rfl (fun ls hl9 => ?_)
                                              refine lv_goto (tgt := 104) hx hb dL_isTold_137 (by decide) ?_
                                              refine lv_iload hx hb dL_isTold_104 (lv_at hl9 0 rfl) ?_
                                              refine lv_bipush (v := 6) hx hb dL_isTold_106 (by decide) ?_
                                              refine lv_icmp_ge (tgt := 140) hx hb dL_isTold_108 (by decide) (fun c9 => absurd c9 (by decide)) (fun _ => ?_)
                                              refine lv_aload_n hx hb dL_isTold_111 rfl (lv_at hl9 3 rfl) ?_
                                              refine lv_iload hx hb dL_isTold_112 (lv_at hl9 2 rfl) ?_
                                              refine lv_iload hx hb dL_isTold_114 (lv_at hl9 0 rfl) ?_
                                              refine hp_SH (As := [.ref xo, .int 1, .int 4]) (rest := []) B0 hw hS (c_V_asked_1 hl G f184 xo ez eo bu nw0 na0 nq0 nr0 nw1 na1 nq1 nr1 bs bp bh bf bl bg S0 S1 gw0 ga0 gw1 ga1 n a cg x sa pk fl gv gh gl hC185 (Nat.lt_of_le_of_lt hl0 (by decide)) (Nat.lt_of_le_of_lt hl1 (by decide)) 4 (by decide)) mH_L_asked qM_L_155 rfl rfl hl9.1 (Nat.le_of_ble_eq_true rfl) ⟨⟨Nat.le_of_ble_eq_true rfl, Nat.le_of_ble_eq_true rfl⟩, Nat.le_of_ble_eq_true rfl, Nat.le_of_ble_eq_true rfl⟩ dL_isTold_116 (fun E ce q9 f188 H locs hPX hw hS hce hcv hcl => ?_) (fun v f188 H locs hP hw hS => ?_)
                                              · exact hPX.elim
                                              · obtain ⟨ev9, hC189, k190⟩ := hP
                                                subst ev9
                                                have hC189 : CXW G f188 xo ez eo bu nw0 na0 nq0 nr0 nw1 na1 nq1 nr1 bs bp bh bf bl bg S0 S1 gw0 ga0 gw1 ga1 n a cg x sa pk fl gv gh gl := hC189
                                                refine W.eq (g2 := F0 m 119 ls [.int ((S1.2.2.2.2.2.2.2.1 4))]) rfl ?_
                                                refine lv_aload_n hx hb dL_isTold_119 rfl (lv_at hl9 4 rfl) ?_
                                                refine lv_bipush (v := 6) hx hb dL_isTold_120 (by decide) ?_
                                                refine lv_iload hx hb dL_isTold_122 (lv_at hl9 2 rfl) ?_
                                                refine lv_imul hx hb dL_isTold_124 ?_
                                                refine hp_c (v := 6) (by decide) ?_
                                                refine lv_iload hx hb dL_isTold_125 (lv_at hl9 0 rfl) ?_
                                                refine lv_iadd hx hb dL_isTold_127 ?_
                                                refine hp_c (v := 10) (by decide) ?_
                                                have h191 : f188 lq = some (.inl (cI G, 12, .inl (j6r S0.2.2.2.2.2.2.2.1 S1.2.2.2.2.2.2.2.1))) := k190 _ _ h187 (Nat.ne_of_beq_eq_false rfl) (hdos _ List.mem_cons_self)
                                                refine hp_iald B0 hw h191 (by unfold vp_in; decide) dL_isTold_128 ?_
                                                refine hp_c (v := (S1.2.2.2.2.2.2.2.1 4)) (rfl) ?_
                                                refine lv_icmp_eq (tgt := 134) hx hb dL_isTold_129 (by decide) (fun _ => ?_) (fun c9 => absurd rfl c9)
                                                refine lv_iinc (v := 5) (lv' := [(7, .int 5), (6, .int 8), (5, .int 1), (0, .ref xo), (1, .ref lq), (2, .ref le), (3, .ref lr), (4, .ref lg)]) hx hb dL_isTold_134 hl9 (k := 0) rfl (by decide) (by decide) rfl (fun ls hl9 => ?_)
                                                refine lv_goto (tgt := 104) hx hb dL_isTold_137 (by decide) ?_
                                                refine lv_iload hx hb dL_isTold_104 (lv_at hl9 0 rfl) ?_
                                                refine lv_bipush (v := 6) hx hb dL_isTold_106 (by decide) ?_
                                                refine lv_icmp_ge (tgt := 140) hx hb dL_isTold_108 (by decide) (fun c9 => absurd c9 (by decide)) (fun _ => ?_)
                                                refine lv_aload_n hx hb dL_isTold_111 rfl (lv_at hl9 3 rfl) ?_
                                                refine lv_iload hx hb dL_isTold_112 (lv_at hl9 2 rfl) ?_
                                                refine lv_iload hx hb dL_isTold_114 (lv_at hl9 0 rfl) ?_
                                                refine hp_SH (As := [.ref xo, .int 1, .int 5]) (rest := []) B0 hw hS (c_V_asked_1 hl G f188 xo ez eo bu nw0 na0 nq0 nr0 nw1 na1 nq1 nr1 bs bp bh bf bl bg S0 S1 gw0 ga0 gw1 ga1 n a cg x sa pk fl gv gh gl hC189 (Nat.lt_of_le_of_lt hl0 (by decide)) (Nat.lt_of_le_of_lt hl1 (by decide)) 5 (by decide)) mH_L_asked qM_L_155 rfl rfl hl9.1 (Nat.le_of_ble_eq_true rfl) ⟨⟨Nat.le_of_ble_eq_true rfl, Nat.le_of_ble_eq_true rfl⟩, Nat.le_of_ble_eq_true rfl, Nat.le_of_ble_eq_true rfl⟩ dL_isTold_116 (fun E ce q9 f192 H locs hPX hw hS hce hcv hcl => ?_) (fun v f192 H locs hP hw hS => ?_)
                                                · exact hPX.elim
                                                · obtain ⟨ev9, hC193, k194⟩ := hP
                                                  subst ev9
                                                  have hC193 : CXW G f192 xo ez eo bu nw0 na0 nq0 nr0 nw1 na1 nq1 nr1 bs bp bh bf bl bg S0 S1 gw0 ga0 gw1 ga1 n a cg x sa pk fl gv gh gl := hC193
                                                  refine W.eq (g2 := F0 m 119 ls [.int ((S1.2.2.2.2.2.2.2.1 5))]) rfl ?_
                                                  refine lv_aload_n hx hb dL_isTold_119 rfl (lv_at hl9 4 rfl) ?_
                                                  refine lv_bipush (v := 6) hx hb dL_isTold_120 (by decide) ?_
                                                  refine lv_iload hx hb dL_isTold_122 (lv_at hl9 2 rfl) ?_
                                                  refine lv_imul hx hb dL_isTold_124 ?_
                                                  refine hp_c (v := 6) (by decide) ?_
                                                  refine lv_iload hx hb dL_isTold_125 (lv_at hl9 0 rfl) ?_
                                                  refine lv_iadd hx hb dL_isTold_127 ?_
                                                  refine hp_c (v := 11) (by decide) ?_
                                                  have h195 : f192 lq = some (.inl (cI G, 12, .inl (j6r S0.2.2.2.2.2.2.2.1 S1.2.2.2.2.2.2.2.1))) := k194 _ _ h191 (Nat.ne_of_beq_eq_false rfl) (hdos _ List.mem_cons_self)
                                                  refine hp_iald B0 hw h195 (by unfold vp_in; decide) dL_isTold_128 ?_
                                                  refine hp_c (v := (S1.2.2.2.2.2.2.2.1 5)) (rfl) ?_
                                                  refine lv_icmp_eq (tgt := 134) hx hb dL_isTold_129 (by decide) (fun _ => ?_) (fun c9 => absurd rfl c9)
                                                  refine lv_iinc (v := 6) (lv' := [(7, .int 6), (6, .int 8), (5, .int 1), (0, .ref xo), (1, .ref lq), (2, .ref le), (3, .ref lr), (4, .ref lg)]) hx hb dL_isTold_134 hl9 (k := 0) rfl (by decide) (by decide) rfl (fun ls hl9 => ?_)
                                                  refine lv_goto (tgt := 104) hx hb dL_isTold_137 (by decide) ?_
                                                  refine lv_iload hx hb dL_isTold_104 (lv_at hl9 0 rfl) ?_
                                                  refine lv_bipush (v := 6) hx hb dL_isTold_106 (by decide) ?_
                                                  refine lv_icmp_ge (tgt := 140) hx hb dL_isTold_108 (by decide) (fun _ => ?_) (fun c9 => absurd (by decide) c9)
                                                  refine lv_iinc (v := 2) (lv' := [(5, .int 2), (7, .int 6), (6, .int 8), (0, .ref xo), (1, .ref lq), (2, .ref le), (3, .ref lr), (4, .ref lg)]) hx hb dL_isTold_140 hl9 (k := 2) rfl (by decide) (by decide) rfl (fun ls hl9 => ?_)
                                                  refine lv_goto (tgt := 3) hx hb dL_isTold_143 (by decide) ?_
                                                  refine lv_iload hx hb dL_isTold_3 (lv_at hl9 0 rfl) ?_
                                                  refine lv_iconst (v := 2) hx hb dL_isTold_5 (by decide) ?_
                                                  refine lv_icmp_ge (tgt := 146) hx hb dL_isTold_6 (by decide) (fun _ => ?_) (fun c9 => absurd (by decide) c9)
                                                  refine lv_iconst (v := 0) hx hb dL_isTold_146 (by decide) ?_
                                                  refine lv_istore (lv' := [(5, .int 0), (7, .int 6), (6, .int 8), (0, .ref xo), (1, .ref lq), (2, .ref le), (3, .ref lr), (4, .ref lg)]) hx hb dL_isTold_147 hl9 (by decide) rfl (fun ls hl9 => ?_)
                                                  refine hp_cs (c2 := 34 + 0 * 0) (s2 := 204 + 0 * 0) rfl rfl ?_
                                                  refine hp_forC (nL := 8) (pc := 149) (fun j f9 lv9 => CXW G f9 xo ez eo bu nw0 na0 nq0 nr0 nw1 na1 nq1 nr1 bs bp bh bf bl bg S0 S1 gw0 ga0 gw1 ga1 n a cg x sa pk fl gv gh gl ∧ hKn [xo, ez, eo, bu, nw0, na0, nq0, nr0, nw1, na1, nq1, nr1, bs, bp, bh, bf, bl, bg] f f9 ∧ lv9 = [(5, .int (nI j)), (0, .ref xo), (1, .ref lq), (2, .ref le), (3, .ref lr), (4, .ref lg)]) cg 34 204 0 0 (fun j f9 lv9 H locs ls hj hI hw hS hl9 ih => ?_) (fun f9 lv9 H locs ls hI hw hS hl9 => ?_) cg 0 (Nat.zero_add _) f192 _ _ _ ls ⟨hC193, ((show hKn [xo, ez, eo, bu, nw0, na0, nq0, nr0, nw1, na1, nq1, nr1, bs, bp, bh, bf, bl, bg] f f1 from (hKn.mono k3 (fun _ h9 => h9))).tr ((show hKn [xo, ez, eo, bu, nw0, na0, nq0, nr0, nw1, na1, nq1, nr1, bs, bp, bh, bf, bl, bg] f1 f6 from (hKn.mono k8 (fun _ h9 => h9))).tr ((show hKn [xo, ez, eo, bu, nw0, na0, nq0, nr0, nw1, na1, nq1, nr1, bs, bp, bh, bf, bl, bg] f6 f12 from (hKn.mono k14 (fun _ h9 => h9))).tr ((show hKn [xo, ez, eo, bu, nw0, na0, nq0, nr0, nw1, na1, nq1, nr1, bs, bp, bh, bf, bl, bg] f12 f17 from (hKn.mono k19 (fun _ h9 => h9))).tr ((show hKn [xo, ez, eo, bu, nw0, na0, nq0, nr0, nw1, na1, nq1, nr1, bs, bp, bh, bf, bl, bg] f17 f22 from (hKn.mono k24 (fun _ h9 => h9))).tr ((show hKn [xo, ez, eo, bu, nw0, na0, nq0, nr0, nw1, na1, nq1, nr1, bs, bp, bh, bf, bl, bg] f22 f26 from (hKn.mono k28 (fun _ h9 => h9))).tr ((show hKn [xo, ez, eo, bu, nw0, na0, nq0, nr0, nw1, na1, nq1, nr1, bs, bp, bh, bf, bl, bg] f26 f35 from (hKn.mono k37 (fun _ h9 => h9))).tr ((show hKn [xo, ez, eo, bu, nw0, na0, nq0, nr0, nw1, na1, nq1, nr1, bs, bp, bh, bf, bl, bg] f35 f39 from (hKn.mono k41 (fun _ h9 => h9))).tr ((show hKn [xo, ez, eo, bu, nw0, na0, nq0, nr0, nw1, na1, nq1, nr1, bs, bp, bh, bf, bl, bg] f39 f43 from (hKn.mono k45 (fun _ h9 => h9))).tr ((show hKn [xo, ez, eo, bu, nw0, na0, nq0, nr0, nw1, na1, nq1, nr1, bs, bp, bh, bf, bl, bg] f43 f47 from (hKn.mono k49 (fun _ h9 => h9))).tr ((show hKn [xo, ez, eo, bu, nw0, na0, nq0, nr0, nw1, na1, nq1, nr1, bs, bp, bh, bf, bl, bg] f47 f51 from (hKn.mono k53 (fun _ h9 => h9))).tr ((show hKn [xo, ez, eo, bu, nw0, na0, nq0, nr0, nw1, na1, nq1, nr1, bs, bp, bh, bf, bl, bg] f51 f55 from (hKn.mono k57 (fun _ h9 => h9))).tr ((show hKn [xo, ez, eo, bu, nw0, na0, nq0, nr0, nw1, na1, nq1, nr1, bs, bp, bh, bf, bl, bg] f55 f66 from (hKn.mono k68 (fun _ h9 => h9))).tr ((show hKn [xo, ez, eo, bu, nw0, na0, nq0, nr0, nw1, na1, nq1, nr1, bs, bp, bh, bf, bl, bg] f66 f71 from (hKn.mono k73 (fun _ h9 => h9))).tr ((show hKn [xo, ez, eo, bu, nw0, na0, nq0, nr0, nw1, na1, nq1, nr1, bs, bp, bh, bf, bl, bg] f71 f158 from (hKn.mono k160 (fun _ h9 => h9))).tr ((show hKn [xo, ez, eo, bu, nw0, na0, nq0, nr0, nw1, na1, nq1, nr1, bs, bp, bh, bf, bl, bg] f158 f163 from (hKn.mono k165 (fun _ h9 => h9))).tr ((show hKn [xo, ez, eo, bu, nw0, na0, nq0, nr0, nw1, na1, nq1, nr1, bs, bp, bh, bf, bl, bg] f163 f167 from (hKn.mono k169 (fun _ h9 => h9))).tr ((show hKn [xo, ez, eo, bu, nw0, na0, nq0, nr0, nw1, na1, nq1, nr1, bs, bp, bh, bf, bl, bg] f167 f176 from (hKn.mono k178 (fun _ h9 => h9))).tr ((show hKn [xo, ez, eo, bu, nw0, na0, nq0, nr0, nw1, na1, nq1, nr1, bs, bp, bh, bf, bl, bg] f176 f180 from (hKn.mono k182 (fun _ h9 => h9))).tr ((show hKn [xo, ez, eo, bu, nw0, na0, nq0, nr0, nw1, na1, nq1, nr1, bs, bp, bh, bf, bl, bg] f180 f184 from (hKn.mono k186 (fun _ h9 => h9))).tr ((show hKn [xo, ez, eo, bu, nw0, na0, nq0, nr0, nw1, na1, nq1, nr1, bs, bp, bh, bf, bl, bg] f184 f188 from (hKn.mono k190 (fun _ h9 => h9))).tr (show hKn [xo, ez, eo, bu, nw0, na0, nq0, nr0, nw1, na1, nq1, nr1, bs, bp, bh, bf, bl, bg] f188 f192 from (hKn.mono k194 (fun _ h9 => h9)))))))))))))))))))))))), rfl⟩ hw hS (lv_sub hl9 [0, 3, 4, 5, 6, 7] rfl)
                                                  · obtain ⟨hC9, hk9, el9⟩ := hI
                                                    rw [el9] at hl9
                                                    refine lv_iload hx hb dL_isTold_149 (lv_at hl9 0 rfl) ?_
                                                    refine lv_aload hx hb dL_isTold_151 (lv_at hl9 5 rfl) ?_
                                                    refine lv_bipush (v := 9) hx hb dL_isTold_153 (by decide) ?_
                                                    have h196 : f9 lg = some (.inl (cI G, 10, .inl (g10r tk gl a n x cg))) := hk9 _ _ k_lg (Nat.ne_of_beq_eq_false rfl) (hdos _ (List.mem_cons_of_mem _ (List.mem_cons_of_mem _ (List.mem_cons_of_mem _ List.mem_cons_self))))
                                                    refine hp_iald B0 hw h196 (by unfold vp_in; decide) dL_isTold_155 ?_
                                                    refine hp_c (v := (nI cg)) (rfl) ?_
                                                    refine lv_icmp_ge (tgt := 180) hx hb dL_isTold_156 (by decide) (fun c9 => absurd c9 (nI_ge hj (by omega))) (fun _ => ?_)
                                                    refine lv_aload_n hx hb dL_isTold_159 rfl (lv_at hl9 1 rfl) ?_
                                                    refine lv_iload hx hb dL_isTold_160 (lv_at hl9 0 rfl) ?_
                                                    refine hp_SH (As := [.ref xo, .int (nI j)]) (rest := []) B0 hw hS (c_V_givenAt_ok hl G f9 xo ez eo bu nw0 na0 nq0 nr0 nw1 na1 nq1 nr1 bs bp bh bf bl bg S0 S1 gw0 ga0 gw1 ga1 n a cg x sa pk fl gv gh gl hC9 (Nat.lt_of_le_of_lt hl0 (by decide)) (Nat.lt_of_le_of_lt hl1 (by decide)) j (by omega)) mH_L_givenAt qM_L_158 rfl rfl hl9.1 (Nat.le_of_ble_eq_true rfl) ⟨⟨Nat.le_of_ble_eq_true rfl, Nat.le_of_ble_eq_true rfl⟩, (by first | omega | (dsimp only; omega)), (by first | omega | (dsimp only; omega))⟩ dL_isTold_162 (fun E ce q9 f197 H locs hPX hw hS hce hcv hcl => ?_) (fun v f197 H locs hP hw hS => ?_)
                                                    · exact hPX.elim
                                                    · obtain ⟨ev9, hC198, k199⟩ := hP
                                                      subst ev9
                                                      have hC198 : CXW G f197 xo ez eo bu nw0 na0 nq0 nr0 nw1 na1 nq1 nr1 bs bp bh bf bl bg S0 S1 gw0 ga0 gw1 ga1 n a cg x sa pk fl gv gh gl := hC198
                                                      refine W.eq (g2 := F0 m 165 ls [.int ((nI (gv j)))]) rfl ?_
                                                      refine lv_aload_n hx hb dL_isTold_165 rfl (lv_at hl9 4 rfl) ?_
                                                      refine lv_iload hx hb dL_isTold_166 (lv_at hl9 0 rfl) ?_
                                                      have h200 : f9 lr = some (.inl (cI G, 60, .inl (nf gv))) := hk9 _ _ k_lr (Nat.ne_of_beq_eq_false rfl) (hdos _ (List.mem_cons_of_mem _ (List.mem_cons_of_mem _ List.mem_cons_self)))
                                                      have h201 : f197 lr = some (.inl (cI G, 60, .inl (nf gv))) := k199 _ _ h200 (Nat.ne_of_beq_eq_false rfl) (hdos _ (List.mem_cons_of_mem _ (List.mem_cons_of_mem _ List.mem_cons_self)))
                                                      refine hp_iald B0 hw h201 (vp_in_nI (show j < 60 by omega) (by omega)) dL_isTold_168 ?_
                                                      refine hp_c (v := (nI (gv j))) (nf_at (nI_clamp (by omega))) ?_
                                                      refine lv_icmp_eq (tgt := 174) hx hb dL_isTold_169 (by decide) (fun _ => ?_) (fun c9 => absurd rfl c9)
                                                      refine lv_iinc (v := (nI (j + 1))) (lv' := [(5, .int (nI (j + 1))), (0, .ref xo), (1, .ref lq), (2, .ref le), (3, .ref lr), (4, .ref lg)]) hx hb dL_isTold_174 hl9 (k := 0) rfl (nI_1 j) (by decide) rfl (fun ls hl9 => ?_)
                                                      refine lv_goto (tgt := 149) hx hb dL_isTold_177 (by decide) ?_
                                                      exact hp_cs (by omega) (by omega) (ih _ _ H locs ls ⟨hC198, ((show hKn [xo, ez, eo, bu, nw0, na0, nq0, nr0, nw1, na1, nq1, nr1, bs, bp, bh, bf, bl, bg] f f9 from (hKn.mono hk9 (fun _ h9 => h9))).tr (show hKn [xo, ez, eo, bu, nw0, na0, nq0, nr0, nw1, na1, nq1, nr1, bs, bp, bh, bf, bl, bg] f9 f197 from (hKn.mono k199 (fun _ h9 => h9)))), rfl⟩ hw hS (lv_sub hl9 [0, 1, 2, 3, 4, 5] rfl))
                                                  · obtain ⟨hC9, hk9, el9⟩ := hI
                                                    rw [el9] at hl9
                                                    refine W.widen (k := 34 + 60 * 0) (n := 204 + 60 * 0) (by omega) (by omega) ?_
                                                    refine hp_cs (c2 := 34) (s2 := 204) rfl rfl ?_
                                                    refine lv_iload hx hb dL_isTold_149 (lv_at hl9 0 rfl) ?_
                                                    refine lv_aload hx hb dL_isTold_151 (lv_at hl9 5 rfl) ?_
                                                    refine lv_bipush (v := 9) hx hb dL_isTold_153 (by decide) ?_
                                                    have h202 : f9 lg = some (.inl (cI G, 10, .inl (g10r tk gl a n x cg))) := hk9 _ _ k_lg (Nat.ne_of_beq_eq_false rfl) (hdos _ (List.mem_cons_of_mem _ (List.mem_cons_of_mem _ (List.mem_cons_of_mem _ List.mem_cons_self))))
                                                    refine hp_iald B0 hw h202 (by unfold vp_in; decide) dL_isTold_155 ?_
                                                    refine hp_c (v := (nI cg)) (rfl) ?_
                                                    refine lv_icmp_ge (tgt := 180) hx hb dL_isTold_156 (by decide) (fun _ => ?_) (fun c9 => absurd (nI_le (Nat.le_refl _) (by omega)) c9)
                                                    refine lv_aload_n hx hb dL_isTold_180 rfl (lv_at hl9 1 rfl) ?_
                                                    have h203 : f9 xo = some (.inr (4, [.ref ez, .ref eo, .ref bu])) := by obtain ⟨_, _, h9⟩ := hC9; exact h9.1
                                                    refine hp_V (ci := 4) (As := []) (rest := []) B0 hw hS (c_P_given_ok hl G f9 xo ez eo bu nw0 na0 nq0 nr0 nw1 na1 nq1 nr1 bs bp bh bf bl bg S0 S1 gw0 ga0 gw1 ga1 n a cg x sa pk fl gv gh gl hC9 (Nat.lt_of_le_of_lt hl0 (by decide)) (Nat.lt_of_le_of_lt hl1 (by decide))) mV_X4_given qM_L_160 rfl h203 rfl rfl hl9.1 (Nat.le_of_ble_eq_true rfl) ⟨⟨Nat.le_of_ble_eq_true rfl, Nat.le_of_ble_eq_true rfl⟩, Nat.le_of_ble_eq_true rfl, Nat.le_of_ble_eq_true rfl⟩ dL_isTold_181 (fun E ce q9 f204 H locs hPX hw hS hce hcv hcl => ?_) (fun v f204 H locs hP hw hS => ?_)
                                                    · exact hPX.elim
                                                    · obtain ⟨ev9, hC205, k206⟩ := hP
                                                      subst ev9
                                                      refine W.eq (g2 := F0 m 184 ls [.int (nI cg)]) rfl ?_
                                                      refine lv_aload hx hb dL_isTold_184 (lv_at hl9 5 rfl) ?_
                                                      refine lv_bipush (v := 9) hx hb dL_isTold_186 (by decide) ?_
                                                      have h207 : f204 lg = some (.inl (cI G, 10, .inl (g10r tk gl a n x cg))) := k206 _ _ h202 (Nat.ne_of_beq_eq_false rfl) (hdos _ (List.mem_cons_of_mem _ (List.mem_cons_of_mem _ (List.mem_cons_of_mem _ List.mem_cons_self))))
                                                      refine hp_iald B0 hw h207 (by unfold vp_in; decide) dL_isTold_188 ?_
                                                      refine hp_c (v := (nI cg)) (rfl) ?_
                                                      refine lv_icmp_ne (tgt := 308) hx hb dL_isTold_189 (by decide) (fun c9 => absurd rfl c9) (fun _ => ?_)
                                                      refine lv_aload_n hx hb dL_isTold_192 rfl (lv_at hl9 1 rfl) ?_
                                                      have h208 : f204 xo = some (.inr (4, [.ref ez, .ref eo, .ref bu])) := by obtain ⟨_, _, h9⟩ := hC205; exact h9.1
                                                      refine hp_V (ci := 4) (As := []) (rest := []) B0 hw hS (c_P_next_ok hl G f204 xo ez eo bu nw0 na0 nq0 nr0 nw1 na1 nq1 nr1 bs bp bh bf bl bg S0 S1 gw0 ga0 gw1 ga1 n a cg x sa pk fl gv gh gl hC205 (Nat.lt_of_le_of_lt hl0 (by decide)) (Nat.lt_of_le_of_lt hl1 (by decide))) mV_X4_next qM_L_164 rfl h208 rfl rfl hl9.1 (Nat.le_of_ble_eq_true rfl) ⟨⟨Nat.le_of_ble_eq_true rfl, Nat.le_of_ble_eq_true rfl⟩, Nat.le_of_ble_eq_true rfl, Nat.le_of_ble_eq_true rfl⟩ dL_isTold_193 (fun E ce q9 f209 H locs hPX hw hS hce hcv hcl => ?_) (fun v f209 H locs hP hw hS => ?_)
                                                      · exact hPX.elim
                                                      · obtain ⟨ev9, hC210, k211⟩ := hP
                                                        subst ev9
                                                        refine W.eq (g2 := F0 m 196 ls [.int (nI x)]) rfl ?_
                                                        refine lv_aload hx hb dL_isTold_196 (lv_at hl9 5 rfl) ?_
                                                        refine lv_bipush (v := 8) hx hb dL_isTold_198 (by decide) ?_
                                                        have h212 : f209 lg = some (.inl (cI G, 10, .inl (g10r tk gl a n x cg))) := k211 _ _ h207 (Nat.ne_of_beq_eq_false rfl) (hdos _ (List.mem_cons_of_mem _ (List.mem_cons_of_mem _ (List.mem_cons_of_mem _ List.mem_cons_self))))
                                                        refine hp_iald B0 hw h212 (by unfold vp_in; decide) dL_isTold_200 ?_
                                                        refine hp_c (v := (nI x)) (rfl) ?_
                                                        refine lv_icmp_ne (tgt := 308) hx hb dL_isTold_201 (by decide) (fun c9 => absurd rfl c9) (fun _ => ?_)
                                                        refine lv_aload_n hx hb dL_isTold_204 rfl (lv_at hl9 1 rfl) ?_
                                                        refine lv_aload hx hb dL_isTold_205 (lv_at hl9 5 rfl) ?_
                                                        refine lv_bipush (v := 9) hx hb dL_isTold_207 (by decide) ?_
                                                        refine hp_iald B0 hw h212 (by unfold vp_in; decide) dL_isTold_209 ?_
                                                        refine hp_c (v := (nI cg)) (rfl) ?_
                                                        refine hp_SH (As := [.ref xo, .int (nI cg)]) (rest := []) B0 hw hS (c_V_givenAt_I hl G f209 xo ez eo bu nw0 na0 nq0 nr0 nw1 na1 nq1 nr1 bs bp bh bf bl bg S0 S1 gw0 ga0 gw1 ga1 n a cg x sa pk fl gv gh gl hC210 (Nat.lt_of_le_of_lt hl0 (by decide)) (Nat.lt_of_le_of_lt hl1 (by decide)) (nI cg) (by rw [nI_toInt (by omega)]; omega)) mH_L_givenAt qM_L_158 rfl rfl hl9.1 (Nat.le_of_ble_eq_true rfl) ⟨⟨Nat.le_of_ble_eq_true rfl, Nat.le_of_ble_eq_true rfl⟩, Nat.le_of_ble_eq_true rfl, Nat.le_of_ble_eq_true rfl⟩ dL_isTold_210 (fun E ce q9 f213 H locs hPX hw hS hce hcv hcl => ?_) (fun v f213 H locs hP hw hS => ?_)
                                                        · exact hPX.elim
                                                        · obtain ⟨ev9, hC214, k215⟩ := hP
                                                          subst ev9
                                                          have hC214 : CXW G f213 xo ez eo bu nw0 na0 nq0 nr0 nw1 na1 nq1 nr1 bs bp bh bf bl bg S0 S1 gw0 ga0 gw1 ga1 n a cg x sa pk fl gv gh gl := hC214
                                                          refine W.eq (g2 := F0 m 213 ls [.int (-71)]) rfl ?_
                                                          refine lv_bipush (v := (-71)) hx hb dL_isTold_213 (by decide) ?_
                                                          refine lv_icmp_ne (tgt := 308) hx hb dL_isTold_215 (by decide) (fun c9 => absurd (by decide) c9) (fun _ => ?_)
                                                          refine lv_aload_n hx hb dL_isTold_218 rfl (lv_at hl9 1 rfl) ?_
                                                          refine lv_iconst (v := (-1)) hx hb dL_isTold_219 (by decide) ?_
                                                          refine hp_SH (As := [.ref xo, .int (-1)]) (rest := []) B0 hw hS (c_V_givenAt_I hl G f213 xo ez eo bu nw0 na0 nq0 nr0 nw1 na1 nq1 nr1 bs bp bh bf bl bg S0 S1 gw0 ga0 gw1 ga1 n a cg x sa pk fl gv gh gl hC214 (Nat.lt_of_le_of_lt hl0 (by decide)) (Nat.lt_of_le_of_lt hl1 (by decide)) (-1) (fun h9 => absurd h9.1 (by decide))) mH_L_givenAt qM_L_158 rfl rfl hl9.1 (Nat.le_of_ble_eq_true rfl) ⟨⟨Nat.le_of_ble_eq_true rfl, Nat.le_of_ble_eq_true rfl⟩, Nat.le_of_ble_eq_true rfl, Nat.le_of_ble_eq_true rfl⟩ dL_isTold_220 (fun E ce q9 f216 H locs hPX hw hS hce hcv hcl => ?_) (fun v f216 H locs hP hw hS => ?_)
                                                          · exact hPX.elim
                                                          · obtain ⟨ev9, hC217, k218⟩ := hP
                                                            subst ev9
                                                            have hC217 : CXW G f216 xo ez eo bu nw0 na0 nq0 nr0 nw1 na1 nq1 nr1 bs bp bh bf bl bg S0 S1 gw0 ga0 gw1 ga1 n a cg x sa pk fl gv gh gl := hC217
                                                            refine W.eq (g2 := F0 m 223 ls [.int (-71)]) rfl ?_
                                                            refine lv_bipush (v := (-71)) hx hb dL_isTold_223 (by decide) ?_
                                                            refine lv_icmp_ne (tgt := 308) hx hb dL_isTold_225 (by decide) (fun c9 => absurd (by decide) c9) (fun _ => ?_)
                                                            refine lv_aload_n hx hb dL_isTold_228 rfl (lv_at hl9 1 rfl) ?_
                                                            refine lv_ldc (v := 2147483647) hx hb B0.2.2.2.1 (B0.2.2.2.2.1 _ qK_L_68) dL_isTold_229 ?_
                                                            refine hp_SH (As := [.ref xo, .int 2147483647]) (rest := []) B0 hw hS (c_V_givenAt_I hl G f216 xo ez eo bu nw0 na0 nq0 nr0 nw1 na1 nq1 nr1 bs bp bh bf bl bg S0 S1 gw0 ga0 gw1 ga1 n a cg x sa pk fl gv gh gl hC217 (Nat.lt_of_le_of_lt hl0 (by decide)) (Nat.lt_of_le_of_lt hl1 (by decide)) 2147483647 (fun h9 => by have h8 := h9.2; rw [show (2147483647 : Int32).toInt = 2147483647 from by decide] at h8; omega)) mH_L_givenAt qM_L_158 rfl rfl hl9.1 (Nat.le_of_ble_eq_true rfl) ⟨⟨Nat.le_of_ble_eq_true rfl, Nat.le_of_ble_eq_true rfl⟩, Nat.le_of_ble_eq_true rfl, Nat.le_of_ble_eq_true rfl⟩ dL_isTold_231 (fun E ce q9 f219 H locs hPX hw hS hce hcv hcl => ?_) (fun v f219 H locs hP hw hS => ?_)
                                                            · exact hPX.elim
                                                            · obtain ⟨ev9, hC220, k221⟩ := hP
                                                              subst ev9
                                                              have hC220 : CXW G f219 xo ez eo bu nw0 na0 nq0 nr0 nw1 na1 nq1 nr1 bs bp bh bf bl bg S0 S1 gw0 ga0 gw1 ga1 n a cg x sa pk fl gv gh gl := hC220
                                                              refine W.eq (g2 := F0 m 234 ls [.int (-71)]) rfl ?_
                                                              refine lv_bipush (v := (-71)) hx hb dL_isTold_234 (by decide) ?_
                                                              refine lv_icmp_ne (tgt := 308) hx hb dL_isTold_236 (by decide) (fun c9 => absurd (by decide) c9) (fun _ => ?_)
                                                              refine lv_aload_n hx hb dL_isTold_239 rfl (lv_at hl9 1 rfl) ?_
                                                              refine lv_iconst (v := 2) hx hb dL_isTold_240 (by decide) ?_
                                                              refine hp_SH (As := [.ref xo, .int 2]) (rest := []) B0 hw hS (c_V_stateOf_E hl G f219 xo ez eo bu nw0 na0 nq0 nr0 nw1 na1 nq1 nr1 bs bp bh bf bl bg S0 S1 gw0 ga0 gw1 ga1 n a cg x sa pk fl gv gh gl hC220 (Nat.lt_of_le_of_lt hl0 (by decide)) (Nat.lt_of_le_of_lt hl1 (by decide)) 2 (by decide)) mH_L_stateOf qM_L_141 rfl rfl hl9.1 (Nat.le_of_ble_eq_true rfl) ⟨⟨Nat.le_of_ble_eq_true rfl, Nat.le_of_ble_eq_true rfl⟩, Nat.le_of_ble_eq_true rfl, Nat.le_of_ble_eq_true rfl⟩ dL_isTold_241 (fun E ce q9 f222 H locs hPX hw hS hce hcv hcl => ?_) (fun v f222 H locs hP hw hS => ?_)
                                                              · exact hPX.elim
                                                              · obtain ⟨ev9, hC223, k224⟩ := hP
                                                                subst ev9
                                                                have hC223 : CXW G f222 xo ez eo bu nw0 na0 nq0 nr0 nw1 na1 nq1 nr1 bs bp bh bf bl bg S0 S1 gw0 ga0 gw1 ga1 n a cg x sa pk fl gv gh gl := hC223
                                                                refine W.eq (g2 := F0 m 244 ls [.int (-71)]) rfl ?_
                                                                refine lv_bipush (v := (-71)) hx hb dL_isTold_244 (by decide) ?_
                                                                refine lv_icmp_ne (tgt := 308) hx hb dL_isTold_246 (by decide) (fun c9 => absurd (by decide) c9) (fun _ => ?_)
                                                                refine lv_aload_n hx hb dL_isTold_249 rfl (lv_at hl9 1 rfl) ?_
                                                                refine lv_ldc (v := (-2147483648)) hx hb B0.2.2.2.1 (B0.2.2.2.2.1 _ qK_L_67) dL_isTold_250 ?_
                                                                refine hp_SH (As := [.ref xo, .int (-2147483648)]) (rest := []) B0 hw hS (c_V_stateOf_E hl G f222 xo ez eo bu nw0 na0 nq0 nr0 nw1 na1 nq1 nr1 bs bp bh bf bl bg S0 S1 gw0 ga0 gw1 ga1 n a cg x sa pk fl gv gh gl hC223 (Nat.lt_of_le_of_lt hl0 (by decide)) (Nat.lt_of_le_of_lt hl1 (by decide)) (-2147483648) (by decide)) mH_L_stateOf qM_L_141 rfl rfl hl9.1 (Nat.le_of_ble_eq_true rfl) ⟨⟨Nat.le_of_ble_eq_true rfl, Nat.le_of_ble_eq_true rfl⟩, Nat.le_of_ble_eq_true rfl, Nat.le_of_ble_eq_true rfl⟩ dL_isTold_252 (fun E ce q9 f225 H locs hPX hw hS hce hcv hcl => ?_) (fun v f225 H locs hP hw hS => ?_)
                                                                · exact hPX.elim
                                                                · obtain ⟨ev9, hC226, k227⟩ := hP
                                                                  subst ev9
                                                                  have hC226 : CXW G f225 xo ez eo bu nw0 na0 nq0 nr0 nw1 na1 nq1 nr1 bs bp bh bf bl bg S0 S1 gw0 ga0 gw1 ga1 n a cg x sa pk fl gv gh gl := hC226
                                                                  refine W.eq (g2 := F0 m 255 ls [.int (-71)]) rfl ?_
                                                                  refine lv_bipush (v := (-71)) hx hb dL_isTold_255 (by decide) ?_
                                                                  refine lv_icmp_ne (tgt := 308) hx hb dL_isTold_257 (by decide) (fun c9 => absurd (by decide) c9) (fun _ => ?_)
                                                                  refine lv_aload_n hx hb dL_isTold_260 rfl (lv_at hl9 1 rfl) ?_
                                                                  refine lv_iconst (v := 0) hx hb dL_isTold_261 (by decide) ?_
                                                                  refine lv_bipush (v := 6) hx hb dL_isTold_262 (by decide) ?_
                                                                  refine hp_SH (As := [.ref xo, .int 0, .int 6]) (rest := []) B0 hw hS (c_V_asked_O0 hl G f225 xo ez eo bu nw0 na0 nq0 nr0 nw1 na1 nq1 nr1 bs bp bh bf bl bg S0 S1 gw0 ga0 gw1 ga1 n a cg x sa pk fl gv gh gl hC226 (Nat.lt_of_le_of_lt hl0 (by decide)) (Nat.lt_of_le_of_lt hl1 (by decide)) 6 (by decide)) mH_L_asked qM_L_155 rfl rfl hl9.1 (Nat.le_of_ble_eq_true rfl) ⟨⟨Nat.le_of_ble_eq_true rfl, Nat.le_of_ble_eq_true rfl⟩, Nat.le_of_ble_eq_true rfl, Nat.le_of_ble_eq_true rfl⟩ dL_isTold_264 (fun E ce q9 f228 H locs hPX hw hS hce hcv hcl => ?_) (fun v f228 H locs hP hw hS => ?_)
                                                                  · exact hPX.elim
                                                                  · obtain ⟨ev9, hC229, k230⟩ := hP
                                                                    subst ev9
                                                                    have hC229 : CXW G f228 xo ez eo bu nw0 na0 nq0 nr0 nw1 na1 nq1 nr1 bs bp bh bf bl bg S0 S1 gw0 ga0 gw1 ga1 n a cg x sa pk fl gv gh gl := hC229
                                                                    refine W.eq (g2 := F0 m 267 ls [.int (-71)]) rfl ?_
                                                                    refine lv_bipush (v := (-71)) hx hb dL_isTold_267 (by decide) ?_
                                                                    refine lv_icmp_ne (tgt := 308) hx hb dL_isTold_269 (by decide) (fun c9 => absurd (by decide) c9) (fun _ => ?_)
                                                                    refine lv_aload_n hx hb dL_isTold_272 rfl (lv_at hl9 1 rfl) ?_
                                                                    refine lv_iconst (v := 2) hx hb dL_isTold_273 (by decide) ?_
                                                                    refine lv_iconst (v := 0) hx hb dL_isTold_274 (by decide) ?_
                                                                    refine hp_SH (As := [.ref xo, .int 2, .int 0]) (rest := []) B0 hw hS (c_V_asked_E hl G f228 xo ez eo bu nw0 na0 nq0 nr0 nw1 na1 nq1 nr1 bs bp bh bf bl bg S0 S1 gw0 ga0 gw1 ga1 n a cg x sa pk fl gv gh gl hC229 (Nat.lt_of_le_of_lt hl0 (by decide)) (Nat.lt_of_le_of_lt hl1 (by decide)) 2 0 (by decide)) mH_L_asked qM_L_155 rfl rfl hl9.1 (Nat.le_of_ble_eq_true rfl) ⟨⟨Nat.le_of_ble_eq_true rfl, Nat.le_of_ble_eq_true rfl⟩, Nat.le_of_ble_eq_true rfl, Nat.le_of_ble_eq_true rfl⟩ dL_isTold_275 (fun E ce q9 f231 H locs hPX hw hS hce hcv hcl => ?_) (fun v f231 H locs hP hw hS => ?_)
                                                                    · exact hPX.elim
                                                                    · obtain ⟨ev9, hC232, k233⟩ := hP
                                                                      subst ev9
                                                                      have hC232 : CXW G f231 xo ez eo bu nw0 na0 nq0 nr0 nw1 na1 nq1 nr1 bs bp bh bf bl bg S0 S1 gw0 ga0 gw1 ga1 n a cg x sa pk fl gv gh gl := hC232
                                                                      refine W.eq (g2 := F0 m 278 ls [.int (-71)]) rfl ?_
                                                                      refine lv_bipush (v := (-71)) hx hb dL_isTold_278 (by decide) ?_
                                                                      refine lv_icmp_ne (tgt := 308) hx hb dL_isTold_280 (by decide) (fun c9 => absurd (by decide) c9) (fun _ => ?_)
                                                                      refine lv_aload_n hx hb dL_isTold_283 rfl (lv_at hl9 1 rfl) ?_
                                                                      refine lv_iconst (v := 0) hx hb dL_isTold_284 (by decide) ?_
                                                                      refine lv_iconst (v := (-1)) hx hb dL_isTold_285 (by decide) ?_
                                                                      refine hp_SH (As := [.ref xo, .int 0, .int (-1)]) (rest := []) B0 hw hS (c_V_asked_O0 hl G f231 xo ez eo bu nw0 na0 nq0 nr0 nw1 na1 nq1 nr1 bs bp bh bf bl bg S0 S1 gw0 ga0 gw1 ga1 n a cg x sa pk fl gv gh gl hC232 (Nat.lt_of_le_of_lt hl0 (by decide)) (Nat.lt_of_le_of_lt hl1 (by decide)) (-1) (by decide)) mH_L_asked qM_L_155 rfl rfl hl9.1 (Nat.le_of_ble_eq_true rfl) ⟨⟨Nat.le_of_ble_eq_true rfl, Nat.le_of_ble_eq_true rfl⟩, Nat.le_of_ble_eq_true rfl, Nat.le_of_ble_eq_true rfl⟩ dL_isTold_286 (fun E ce q9 f234 H locs hPX hw hS hce hcv hcl => ?_) (fun v f234 H locs hP hw hS => ?_)
                                                                      · exact hPX.elim
                                                                      · obtain ⟨ev9, hC235, k236⟩ := hP
                                                                        subst ev9
                                                                        have hC235 : CXW G f234 xo ez eo bu nw0 na0 nq0 nr0 nw1 na1 nq1 nr1 bs bp bh bf bl bg S0 S1 gw0 ga0 gw1 ga1 n a cg x sa pk fl gv gh gl := hC235
                                                                        refine W.eq (g2 := F0 m 289 ls [.int (-71)]) rfl ?_
                                                                        refine lv_bipush (v := (-71)) hx hb dL_isTold_289 (by decide) ?_
                                                                        refine lv_icmp_ne (tgt := 308) hx hb dL_isTold_291 (by decide) (fun c9 => absurd (by decide) c9) (fun _ => ?_)
                                                                        refine lv_aload_n hx hb dL_isTold_294 rfl (lv_at hl9 1 rfl) ?_
                                                                        refine lv_iconst (v := (-1)) hx hb dL_isTold_295 (by decide) ?_
                                                                        refine hp_SH (As := [.ref xo, .int (-1)]) (rest := []) B0 hw hS (c_V_underWay_E hl G f234 xo ez eo bu nw0 na0 nq0 nr0 nw1 na1 nq1 nr1 bs bp bh bf bl bg S0 S1 gw0 ga0 gw1 ga1 n a cg x sa pk fl gv gh gl hC235 (Nat.lt_of_le_of_lt hl0 (by decide)) (Nat.lt_of_le_of_lt hl1 (by decide)) (-1) (by decide)) mH_L_underWay qM_L_150 rfl rfl hl9.1 (Nat.le_of_ble_eq_true rfl) ⟨⟨Nat.le_of_ble_eq_true rfl, Nat.le_of_ble_eq_true rfl⟩, Nat.le_of_ble_eq_true rfl, Nat.le_of_ble_eq_true rfl⟩ dL_isTold_296 (fun E ce q9 f237 H locs hPX hw hS hce hcv hcl => ?_) (fun v f237 H locs hP hw hS => ?_)
                                                                        · exact hPX.elim
                                                                        · obtain ⟨ev9, hC238, k239⟩ := hP
                                                                          subst ev9
                                                                          have hC238 : CXW G f237 xo ez eo bu nw0 na0 nq0 nr0 nw1 na1 nq1 nr1 bs bp bh bf bl bg S0 S1 gw0 ga0 gw1 ga1 n a cg x sa pk fl gv gh gl := hC238
                                                                          refine W.eq (g2 := F0 m 299 ls [.int (-71)]) rfl ?_
                                                                          refine lv_bipush (v := (-71)) hx hb dL_isTold_299 (by decide) ?_
                                                                          refine lv_icmp_ne (tgt := 308) hx hb dL_isTold_301 (by decide) (fun c9 => absurd (by decide) c9) (fun _ => ?_)
                                                                          refine lv_iconst (v := 1) hx hb dL_isTold_304 (by decide) ?_
                                                                          refine lv_goto (tgt := 309) hx hb dL_isTold_305 (by decide) ?_
                                                                          exact hp_zret (v := 1) B0 hw hS hr ⟨Nat.le_of_ble_eq_true rfl, Nat.le_of_ble_eq_true rfl⟩ (rfl) dL_isTold_309 (⟨rfl, hC238, ((show hKn [xo, ez, eo, bu, nw0, na0, nq0, nr0, nw1, na1, nq1, nr1, bs, bp, bh, bf, bl, bg] f f9 from (hKn.mono hk9 (fun _ h9 => h9))).tr ((show hKn [xo, ez, eo, bu, nw0, na0, nq0, nr0, nw1, na1, nq1, nr1, bs, bp, bh, bf, bl, bg] f9 f204 from (hKn.mono k206 (fun _ h9 => h9))).tr ((show hKn [xo, ez, eo, bu, nw0, na0, nq0, nr0, nw1, na1, nq1, nr1, bs, bp, bh, bf, bl, bg] f204 f209 from (hKn.mono k211 (fun _ h9 => h9))).tr ((show hKn [xo, ez, eo, bu, nw0, na0, nq0, nr0, nw1, na1, nq1, nr1, bs, bp, bh, bf, bl, bg] f209 f213 from (hKn.mono k215 (fun _ h9 => h9))).tr ((show hKn [xo, ez, eo, bu, nw0, na0, nq0, nr0, nw1, na1, nq1, nr1, bs, bp, bh, bf, bl, bg] f213 f216 from (hKn.mono k218 (fun _ h9 => h9))).tr ((show hKn [xo, ez, eo, bu, nw0, na0, nq0, nr0, nw1, na1, nq1, nr1, bs, bp, bh, bf, bl, bg] f216 f219 from (hKn.mono k221 (fun _ h9 => h9))).tr ((show hKn [xo, ez, eo, bu, nw0, na0, nq0, nr0, nw1, na1, nq1, nr1, bs, bp, bh, bf, bl, bg] f219 f222 from (hKn.mono k224 (fun _ h9 => h9))).tr ((show hKn [xo, ez, eo, bu, nw0, na0, nq0, nr0, nw1, na1, nq1, nr1, bs, bp, bh, bf, bl, bg] f222 f225 from (hKn.mono k227 (fun _ h9 => h9))).tr ((show hKn [xo, ez, eo, bu, nw0, na0, nq0, nr0, nw1, na1, nq1, nr1, bs, bp, bh, bf, bl, bg] f225 f228 from (hKn.mono k230 (fun _ h9 => h9))).tr ((show hKn [xo, ez, eo, bu, nw0, na0, nq0, nr0, nw1, na1, nq1, nr1, bs, bp, bh, bf, bl, bg] f228 f231 from (hKn.mono k233 (fun _ h9 => h9))).tr ((show hKn [xo, ez, eo, bu, nw0, na0, nq0, nr0, nw1, na1, nq1, nr1, bs, bp, bh, bf, bl, bg] f231 f234 from (hKn.mono k236 (fun _ h9 => h9))).tr (show hKn [xo, ez, eo, bu, nw0, na0, nq0, nr0, nw1, na1, nq1, nr1, bs, bp, bh, bf, bl, bg] f234 f237 from (hKn.mono k239 (fun _ h9 => h9))))))))))))))⟩)
        · refine lv_iconst (v := 1) hx hb dL_isTold_60 (by decide) ?_
          refine lv_goto (tgt := 65) hx hb dL_isTold_61 (by decide) ?_
          refine lv_icmp_ne (tgt := 99) hx hb dL_isTold_65 (by decide) (fun c9 => absurd c16 c9) (fun _ => ?_)
          refine lv_aload_n hx hb dL_isTold_68 rfl (lv_at hl9 2 rfl) ?_
          refine lv_iload hx hb dL_isTold_69 (lv_at hl9 1 rfl) ?_
          refine hp_SH (As := [.ref xo, .int 0]) (rest := []) B0 hw hS (c_V_underWay_0 hl G f12 xo ez eo bu nw0 na0 nq0 nr0 nw1 na1 nq1 nr1 bs bp bh bf bl bg S0 S1 gw0 ga0 gw1 ga1 n a cg x sa pk fl gv gh gl hC13 (Nat.lt_of_le_of_lt hl0 (by decide)) (Nat.lt_of_le_of_lt hl1 (by decide)) ) mH_L_underWay qM_L_150 rfl rfl hl9.1 (Nat.le_of_ble_eq_true rfl) ⟨⟨Nat.le_of_ble_eq_true rfl, Nat.le_of_ble_eq_true rfl⟩, Nat.le_of_ble_eq_true rfl, Nat.le_of_ble_eq_true rfl⟩ dL_isTold_71 (fun E ce q9 f240 H locs hPX hw hS hce hcv hcl => ?_) (fun v f240 H locs hP hw hS => ?_)
          · exact hPX.elim
          · obtain ⟨ev9, hC241, k242⟩ := hP
            subst ev9
            have hC241 : CXW G f240 xo ez eo bu nw0 na0 nq0 nr0 nw1 na1 nq1 nr1 bs bp bh bf bl bg S0 S1 gw0 ga0 gw1 ga1 n a cg x sa pk fl gv gh gl := hC241
            refine W.eq (g2 := F0 m 74 ls [.int ((nI S0.2.2.2.2.2.2.2.2.length))]) rfl ?_
            refine lv_aload_n hx hb dL_isTold_74 rfl (lv_at hl9 4 rfl) ?_
            refine lv_iload hx hb dL_isTold_75 (lv_at hl9 0 rfl) ?_
            refine lv_bipush (v := 7) hx hb dL_isTold_77 (by decide) ?_
            refine lv_iadd hx hb dL_isTold_79 ?_
            refine hp_c (v := 7) (by decide) ?_
            have h243 : f240 le = some (.inl (cI G, 16, .inl (jE (eSt S0) (eSt S1)))) := k242 _ _ h15 (Nat.ne_of_beq_eq_false rfl) (hdos _ (List.mem_cons_of_mem _ List.mem_cons_self))
            refine hp_iald B0 hw h243 (by unfold vp_in; decide) dL_isTold_80 ?_
            refine hp_c (v := (nI S0.2.2.2.2.2.2.2.2.length)) (rfl) ?_
            refine lv_icmp_ne (tgt := 99) hx hb dL_isTold_81 (by decide) (fun c9 => absurd rfl c9) (fun _ => ?_)
            refine lv_aload_n hx hb dL_isTold_84 rfl (lv_at hl9 2 rfl) ?_
            refine lv_iload hx hb dL_isTold_85 (lv_at hl9 1 rfl) ?_
            have h244 : f240 xo = some (.inr (4, [.ref ez, .ref eo, .ref bu])) := by obtain ⟨_, _, h9⟩ := hC241; exact h9.1
            refine hp_V (ci := 4) (As := [.int 0]) (rest := []) B0 hw hS (c_P_missed_0 hl G f240 xo ez eo bu nw0 na0 nq0 nr0 nw1 na1 nq1 nr1 bs bp bh bf bl bg S0 S1 gw0 ga0 gw1 ga1 n a cg x sa pk fl gv gh gl hC241 (Nat.lt_of_le_of_lt hl0 (by decide)) (Nat.lt_of_le_of_lt hl1 (by decide))) mV_X4_missed qM_L_152 rfl h244 rfl rfl hl9.1 (Nat.le_of_ble_eq_true rfl) ⟨⟨Nat.le_of_ble_eq_true rfl, Nat.le_of_ble_eq_true rfl⟩, Nat.le_of_ble_eq_true rfl, Nat.le_of_ble_eq_true rfl⟩ dL_isTold_87 (fun E ce q9 f245 H locs hPX hw hS hce hcv hcl => ?_) (fun v f245 H locs hP hw hS => ?_)
            · exact hPX.elim
            · obtain ⟨ev9, hC246, k247⟩ := hP
              subst ev9
              refine W.eq (g2 := F0 m 90 ls [.int S0.2.2.2.2.2.1]) rfl ?_
              refine lv_aload_n hx hb dL_isTold_90 rfl (lv_at hl9 4 rfl) ?_
              refine lv_iload hx hb dL_isTold_91 (lv_at hl9 0 rfl) ?_
              refine lv_iconst (v := 5) hx hb dL_isTold_93 (by decide) ?_
              refine lv_iadd hx hb dL_isTold_94 ?_
              refine hp_c (v := 5) (by decide) ?_
              have h248 : f245 le = some (.inl (cI G, 16, .inl (jE (eSt S0) (eSt S1)))) := k247 _ _ h243 (Nat.ne_of_beq_eq_false rfl) (hdos _ (List.mem_cons_of_mem _ List.mem_cons_self))
              refine hp_iald B0 hw h248 (by unfold vp_in; decide) dL_isTold_95 ?_
              refine hp_c (v := S0.2.2.2.2.2.1) (rfl) ?_
              refine lv_icmp_eq (tgt := 101) hx hb dL_isTold_96 (by decide) (fun _ => ?_) (fun c9 => absurd rfl c9)
              refine lv_iconst (v := 0) hx hb dL_isTold_101 (by decide) ?_
              refine lv_istore (lv' := [(7, .int 0), (6, .int 0), (5, .int 0), (0, .ref xo), (1, .ref lq), (2, .ref le), (3, .ref lr), (4, .ref lg)]) hx hb dL_isTold_102 hl9 (by decide) rfl (fun ls hl9 => ?_)
              refine lv_iload hx hb dL_isTold_104 (lv_at hl9 0 rfl) ?_
              refine lv_bipush (v := 6) hx hb dL_isTold_106 (by decide) ?_
              refine lv_icmp_ge (tgt := 140) hx hb dL_isTold_108 (by decide) (fun c9 => absurd c9 (by decide)) (fun _ => ?_)
              refine lv_aload_n hx hb dL_isTold_111 rfl (lv_at hl9 3 rfl) ?_
              refine lv_iload hx hb dL_isTold_112 (lv_at hl9 2 rfl) ?_
              refine lv_iload hx hb dL_isTold_114 (lv_at hl9 0 rfl) ?_
              refine hp_SH (As := [.ref xo, .int 0, .int 0]) (rest := []) B0 hw hS (c_V_asked_0 hl G f245 xo ez eo bu nw0 na0 nq0 nr0 nw1 na1 nq1 nr1 bs bp bh bf bl bg S0 S1 gw0 ga0 gw1 ga1 n a cg x sa pk fl gv gh gl hC246 (Nat.lt_of_le_of_lt hl0 (by decide)) (Nat.lt_of_le_of_lt hl1 (by decide)) 0 (by decide)) mH_L_asked qM_L_155 rfl rfl hl9.1 (Nat.le_of_ble_eq_true rfl) ⟨⟨Nat.le_of_ble_eq_true rfl, Nat.le_of_ble_eq_true rfl⟩, Nat.le_of_ble_eq_true rfl, Nat.le_of_ble_eq_true rfl⟩ dL_isTold_116 (fun E ce q9 f249 H locs hPX hw hS hce hcv hcl => ?_) (fun v f249 H locs hP hw hS => ?_)
              · exact hPX.elim
              · obtain ⟨ev9, hC250, k251⟩ := hP
                subst ev9
                have hC250 : CXW G f249 xo ez eo bu nw0 na0 nq0 nr0 nw1 na1 nq1 nr1 bs bp bh bf bl bg S0 S1 gw0 ga0 gw1 ga1 n a cg x sa pk fl gv gh gl := hC250
                refine W.eq (g2 := F0 m 119 ls [.int ((S0.2.2.2.2.2.2.2.1 0))]) rfl ?_
                refine lv_aload_n hx hb dL_isTold_119 rfl (lv_at hl9 4 rfl) ?_
                refine lv_bipush (v := 6) hx hb dL_isTold_120 (by decide) ?_
                refine lv_iload hx hb dL_isTold_122 (lv_at hl9 2 rfl) ?_
                refine lv_imul hx hb dL_isTold_124 ?_
                refine hp_c (v := 0) (by decide) ?_
                refine lv_iload hx hb dL_isTold_125 (lv_at hl9 0 rfl) ?_
                refine lv_iadd hx hb dL_isTold_127 ?_
                refine hp_c (v := 0) (by decide) ?_
                have h252 : f1 lq = some (.inl (cI G, 12, .inl (j6r S0.2.2.2.2.2.2.2.1 S1.2.2.2.2.2.2.2.1))) := k3 _ _ k_lq (Nat.ne_of_beq_eq_false rfl) (hdos _ List.mem_cons_self)
                have h253 : f6 lq = some (.inl (cI G, 12, .inl (j6r S0.2.2.2.2.2.2.2.1 S1.2.2.2.2.2.2.2.1))) := k8 _ _ h252 (Nat.ne_of_beq_eq_false rfl) (hdos _ List.mem_cons_self)
                have h254 : f12 lq = some (.inl (cI G, 12, .inl (j6r S0.2.2.2.2.2.2.2.1 S1.2.2.2.2.2.2.2.1))) := k14 _ _ h253 (Nat.ne_of_beq_eq_false rfl) (hdos _ List.mem_cons_self)
                have h255 : f240 lq = some (.inl (cI G, 12, .inl (j6r S0.2.2.2.2.2.2.2.1 S1.2.2.2.2.2.2.2.1))) := k242 _ _ h254 (Nat.ne_of_beq_eq_false rfl) (hdos _ List.mem_cons_self)
                have h256 : f245 lq = some (.inl (cI G, 12, .inl (j6r S0.2.2.2.2.2.2.2.1 S1.2.2.2.2.2.2.2.1))) := k247 _ _ h255 (Nat.ne_of_beq_eq_false rfl) (hdos _ List.mem_cons_self)
                have h257 : f249 lq = some (.inl (cI G, 12, .inl (j6r S0.2.2.2.2.2.2.2.1 S1.2.2.2.2.2.2.2.1))) := k251 _ _ h256 (Nat.ne_of_beq_eq_false rfl) (hdos _ List.mem_cons_self)
                refine hp_iald B0 hw h257 (by unfold vp_in; decide) dL_isTold_128 ?_
                refine hp_c (v := (S0.2.2.2.2.2.2.2.1 0)) (rfl) ?_
                refine lv_icmp_eq (tgt := 134) hx hb dL_isTold_129 (by decide) (fun _ => ?_) (fun c9 => absurd rfl c9)
                refine lv_iinc (v := 1) (lv' := [(7, .int 1), (6, .int 0), (5, .int 0), (0, .ref xo), (1, .ref lq), (2, .ref le), (3, .ref lr), (4, .ref lg)]) hx hb dL_isTold_134 hl9 (k := 0) rfl (by decide) (by decide) rfl (fun ls hl9 => ?_)
                refine lv_goto (tgt := 104) hx hb dL_isTold_137 (by decide) ?_
                refine lv_iload hx hb dL_isTold_104 (lv_at hl9 0 rfl) ?_
                refine lv_bipush (v := 6) hx hb dL_isTold_106 (by decide) ?_
                refine lv_icmp_ge (tgt := 140) hx hb dL_isTold_108 (by decide) (fun c9 => absurd c9 (by decide)) (fun _ => ?_)
                refine lv_aload_n hx hb dL_isTold_111 rfl (lv_at hl9 3 rfl) ?_
                refine lv_iload hx hb dL_isTold_112 (lv_at hl9 2 rfl) ?_
                refine lv_iload hx hb dL_isTold_114 (lv_at hl9 0 rfl) ?_
                refine hp_SH (As := [.ref xo, .int 0, .int 1]) (rest := []) B0 hw hS (c_V_asked_0 hl G f249 xo ez eo bu nw0 na0 nq0 nr0 nw1 na1 nq1 nr1 bs bp bh bf bl bg S0 S1 gw0 ga0 gw1 ga1 n a cg x sa pk fl gv gh gl hC250 (Nat.lt_of_le_of_lt hl0 (by decide)) (Nat.lt_of_le_of_lt hl1 (by decide)) 1 (by decide)) mH_L_asked qM_L_155 rfl rfl hl9.1 (Nat.le_of_ble_eq_true rfl) ⟨⟨Nat.le_of_ble_eq_true rfl, Nat.le_of_ble_eq_true rfl⟩, Nat.le_of_ble_eq_true rfl, Nat.le_of_ble_eq_true rfl⟩ dL_isTold_116 (fun E ce q9 f258 H locs hPX hw hS hce hcv hcl => ?_) (fun v f258 H locs hP hw hS => ?_)
                · exact hPX.elim
                · obtain ⟨ev9, hC259, k260⟩ := hP
                  subst ev9
                  have hC259 : CXW G f258 xo ez eo bu nw0 na0 nq0 nr0 nw1 na1 nq1 nr1 bs bp bh bf bl bg S0 S1 gw0 ga0 gw1 ga1 n a cg x sa pk fl gv gh gl := hC259
                  refine W.eq (g2 := F0 m 119 ls [.int ((S0.2.2.2.2.2.2.2.1 1))]) rfl ?_
                  refine lv_aload_n hx hb dL_isTold_119 rfl (lv_at hl9 4 rfl) ?_
                  refine lv_bipush (v := 6) hx hb dL_isTold_120 (by decide) ?_
                  refine lv_iload hx hb dL_isTold_122 (lv_at hl9 2 rfl) ?_
                  refine lv_imul hx hb dL_isTold_124 ?_
                  refine hp_c (v := 0) (by decide) ?_
                  refine lv_iload hx hb dL_isTold_125 (lv_at hl9 0 rfl) ?_
                  refine lv_iadd hx hb dL_isTold_127 ?_
                  refine hp_c (v := 1) (by decide) ?_
                  have h261 : f258 lq = some (.inl (cI G, 12, .inl (j6r S0.2.2.2.2.2.2.2.1 S1.2.2.2.2.2.2.2.1))) := k260 _ _ h257 (Nat.ne_of_beq_eq_false rfl) (hdos _ List.mem_cons_self)
                  refine hp_iald B0 hw h261 (by unfold vp_in; decide) dL_isTold_128 ?_
                  refine hp_c (v := (S0.2.2.2.2.2.2.2.1 1)) (rfl) ?_
                  refine lv_icmp_eq (tgt := 134) hx hb dL_isTold_129 (by decide) (fun _ => ?_) (fun c9 => absurd rfl c9)
                  refine lv_iinc (v := 2) (lv' := [(7, .int 2), (6, .int 0), (5, .int 0), (0, .ref xo), (1, .ref lq), (2, .ref le), (3, .ref lr), (4, .ref lg)]) hx hb dL_isTold_134 hl9 (k := 0) rfl (by decide) (by decide) rfl (fun ls hl9 => ?_)
                  refine lv_goto (tgt := 104) hx hb dL_isTold_137 (by decide) ?_
                  refine lv_iload hx hb dL_isTold_104 (lv_at hl9 0 rfl) ?_
                  refine lv_bipush (v := 6) hx hb dL_isTold_106 (by decide) ?_
                  refine lv_icmp_ge (tgt := 140) hx hb dL_isTold_108 (by decide) (fun c9 => absurd c9 (by decide)) (fun _ => ?_)
                  refine lv_aload_n hx hb dL_isTold_111 rfl (lv_at hl9 3 rfl) ?_
                  refine lv_iload hx hb dL_isTold_112 (lv_at hl9 2 rfl) ?_
                  refine lv_iload hx hb dL_isTold_114 (lv_at hl9 0 rfl) ?_
                  refine hp_SH (As := [.ref xo, .int 0, .int 2]) (rest := []) B0 hw hS (c_V_asked_0 hl G f258 xo ez eo bu nw0 na0 nq0 nr0 nw1 na1 nq1 nr1 bs bp bh bf bl bg S0 S1 gw0 ga0 gw1 ga1 n a cg x sa pk fl gv gh gl hC259 (Nat.lt_of_le_of_lt hl0 (by decide)) (Nat.lt_of_le_of_lt hl1 (by decide)) 2 (by decide)) mH_L_asked qM_L_155 rfl rfl hl9.1 (Nat.le_of_ble_eq_true rfl) ⟨⟨Nat.le_of_ble_eq_true rfl, Nat.le_of_ble_eq_true rfl⟩, Nat.le_of_ble_eq_true rfl, Nat.le_of_ble_eq_true rfl⟩ dL_isTold_116 (fun E ce q9 f262 H locs hPX hw hS hce hcv hcl => ?_) (fun v f262 H locs hP hw hS => ?_)
                  · exact hPX.elim
                  · obtain ⟨ev9, hC263, k264⟩ := hP
                    subst ev9
                    have hC263 : CXW G f262 xo ez eo bu nw0 na0 nq0 nr0 nw1 na1 nq1 nr1 bs bp bh bf bl bg S0 S1 gw0 ga0 gw1 ga1 n a cg x sa pk fl gv gh gl := hC263
                    refine W.eq (g2 := F0 m 119 ls [.int ((S0.2.2.2.2.2.2.2.1 2))]) rfl ?_
                    refine lv_aload_n hx hb dL_isTold_119 rfl (lv_at hl9 4 rfl) ?_
                    refine lv_bipush (v := 6) hx hb dL_isTold_120 (by decide) ?_
                    refine lv_iload hx hb dL_isTold_122 (lv_at hl9 2 rfl) ?_
                    refine lv_imul hx hb dL_isTold_124 ?_
                    refine hp_c (v := 0) (by decide) ?_
                    refine lv_iload hx hb dL_isTold_125 (lv_at hl9 0 rfl) ?_
                    refine lv_iadd hx hb dL_isTold_127 ?_
                    refine hp_c (v := 2) (by decide) ?_
                    have h265 : f262 lq = some (.inl (cI G, 12, .inl (j6r S0.2.2.2.2.2.2.2.1 S1.2.2.2.2.2.2.2.1))) := k264 _ _ h261 (Nat.ne_of_beq_eq_false rfl) (hdos _ List.mem_cons_self)
                    refine hp_iald B0 hw h265 (by unfold vp_in; decide) dL_isTold_128 ?_
                    refine hp_c (v := (S0.2.2.2.2.2.2.2.1 2)) (rfl) ?_
                    refine lv_icmp_eq (tgt := 134) hx hb dL_isTold_129 (by decide) (fun _ => ?_) (fun c9 => absurd rfl c9)
                    refine lv_iinc (v := 3) (lv' := [(7, .int 3), (6, .int 0), (5, .int 0), (0, .ref xo), (1, .ref lq), (2, .ref le), (3, .ref lr), (4, .ref lg)]) hx hb dL_isTold_134 hl9 (k := 0) rfl (by decide) (by decide) rfl (fun ls hl9 => ?_)
                    refine lv_goto (tgt := 104) hx hb dL_isTold_137 (by decide) ?_
                    refine lv_iload hx hb dL_isTold_104 (lv_at hl9 0 rfl) ?_
                    refine lv_bipush (v := 6) hx hb dL_isTold_106 (by decide) ?_
                    refine lv_icmp_ge (tgt := 140) hx hb dL_isTold_108 (by decide) (fun c9 => absurd c9 (by decide)) (fun _ => ?_)
                    refine lv_aload_n hx hb dL_isTold_111 rfl (lv_at hl9 3 rfl) ?_
                    refine lv_iload hx hb dL_isTold_112 (lv_at hl9 2 rfl) ?_
                    refine lv_iload hx hb dL_isTold_114 (lv_at hl9 0 rfl) ?_
                    refine hp_SH (As := [.ref xo, .int 0, .int 3]) (rest := []) B0 hw hS (c_V_asked_0 hl G f262 xo ez eo bu nw0 na0 nq0 nr0 nw1 na1 nq1 nr1 bs bp bh bf bl bg S0 S1 gw0 ga0 gw1 ga1 n a cg x sa pk fl gv gh gl hC263 (Nat.lt_of_le_of_lt hl0 (by decide)) (Nat.lt_of_le_of_lt hl1 (by decide)) 3 (by decide)) mH_L_asked qM_L_155 rfl rfl hl9.1 (Nat.le_of_ble_eq_true rfl) ⟨⟨Nat.le_of_ble_eq_true rfl, Nat.le_of_ble_eq_true rfl⟩, Nat.le_of_ble_eq_true rfl, Nat.le_of_ble_eq_true rfl⟩ dL_isTold_116 (fun E ce q9 f266 H locs hPX hw hS hce hcv hcl => ?_) (fun v f266 H locs hP hw hS => ?_)
                    · exact hPX.elim
                    · obtain ⟨ev9, hC267, k268⟩ := hP
                      subst ev9
                      have hC267 : CXW G f266 xo ez eo bu nw0 na0 nq0 nr0 nw1 na1 nq1 nr1 bs bp bh bf bl bg S0 S1 gw0 ga0 gw1 ga1 n a cg x sa pk fl gv gh gl := hC267
                      refine W.eq (g2 := F0 m 119 ls [.int ((S0.2.2.2.2.2.2.2.1 3))]) rfl ?_
                      refine lv_aload_n hx hb dL_isTold_119 rfl (lv_at hl9 4 rfl) ?_
                      refine lv_bipush (v := 6) hx hb dL_isTold_120 (by decide) ?_
                      refine lv_iload hx hb dL_isTold_122 (lv_at hl9 2 rfl) ?_
                      refine lv_imul hx hb dL_isTold_124 ?_
                      refine hp_c (v := 0) (by decide) ?_
                      refine lv_iload hx hb dL_isTold_125 (lv_at hl9 0 rfl) ?_
                      refine lv_iadd hx hb dL_isTold_127 ?_
                      refine hp_c (v := 3) (by decide) ?_
                      have h269 : f266 lq = some (.inl (cI G, 12, .inl (j6r S0.2.2.2.2.2.2.2.1 S1.2.2.2.2.2.2.2.1))) := k268 _ _ h265 (Nat.ne_of_beq_eq_false rfl) (hdos _ List.mem_cons_self)
                      refine hp_iald B0 hw h269 (by unfold vp_in; decide) dL_isTold_128 ?_
                      refine hp_c (v := (S0.2.2.2.2.2.2.2.1 3)) (rfl) ?_
                      refine lv_icmp_eq (tgt := 134) hx hb dL_isTold_129 (by decide) (fun _ => ?_) (fun c9 => absurd rfl c9)
                      refine lv_iinc (v := 4) (lv' := [(7, .int 4), (6, .int 0), (5, .int 0), (0, .ref xo), (1, .ref lq), (2, .ref le), (3, .ref lr), (4, .ref lg)]) hx hb dL_isTold_134 hl9 (k := 0) rfl (by decide) (by decide) rfl (fun ls hl9 => ?_)
                      refine lv_goto (tgt := 104) hx hb dL_isTold_137 (by decide) ?_
                      refine lv_iload hx hb dL_isTold_104 (lv_at hl9 0 rfl) ?_
                      refine lv_bipush (v := 6) hx hb dL_isTold_106 (by decide) ?_
                      refine lv_icmp_ge (tgt := 140) hx hb dL_isTold_108 (by decide) (fun c9 => absurd c9 (by decide)) (fun _ => ?_)
                      refine lv_aload_n hx hb dL_isTold_111 rfl (lv_at hl9 3 rfl) ?_
                      refine lv_iload hx hb dL_isTold_112 (lv_at hl9 2 rfl) ?_
                      refine lv_iload hx hb dL_isTold_114 (lv_at hl9 0 rfl) ?_
                      refine hp_SH (As := [.ref xo, .int 0, .int 4]) (rest := []) B0 hw hS (c_V_asked_0 hl G f266 xo ez eo bu nw0 na0 nq0 nr0 nw1 na1 nq1 nr1 bs bp bh bf bl bg S0 S1 gw0 ga0 gw1 ga1 n a cg x sa pk fl gv gh gl hC267 (Nat.lt_of_le_of_lt hl0 (by decide)) (Nat.lt_of_le_of_lt hl1 (by decide)) 4 (by decide)) mH_L_asked qM_L_155 rfl rfl hl9.1 (Nat.le_of_ble_eq_true rfl) ⟨⟨Nat.le_of_ble_eq_true rfl, Nat.le_of_ble_eq_true rfl⟩, Nat.le_of_ble_eq_true rfl, Nat.le_of_ble_eq_true rfl⟩ dL_isTold_116 (fun E ce q9 f270 H locs hPX hw hS hce hcv hcl => ?_) (fun v f270 H locs hP hw hS => ?_)
                      · exact hPX.elim
                      · obtain ⟨ev9, hC271, k272⟩ := hP
                        subst ev9
                        have hC271 : CXW G f270 xo ez eo bu nw0 na0 nq0 nr0 nw1 na1 nq1 nr1 bs bp bh bf bl bg S0 S1 gw0 ga0 gw1 ga1 n a cg x sa pk fl gv gh gl := hC271
                        refine W.eq (g2 := F0 m 119 ls [.int ((S0.2.2.2.2.2.2.2.1 4))]) rfl ?_
                        refine lv_aload_n hx hb dL_isTold_119 rfl (lv_at hl9 4 rfl) ?_
                        refine lv_bipush (v := 6) hx hb dL_isTold_120 (by decide) ?_
                        refine lv_iload hx hb dL_isTold_122 (lv_at hl9 2 rfl) ?_
                        refine lv_imul hx hb dL_isTold_124 ?_
                        refine hp_c (v := 0) (by decide) ?_
                        refine lv_iload hx hb dL_isTold_125 (lv_at hl9 0 rfl) ?_
                        refine lv_iadd hx hb dL_isTold_127 ?_
                        refine hp_c (v := 4) (by decide) ?_
                        have h273 : f270 lq = some (.inl (cI G, 12, .inl (j6r S0.2.2.2.2.2.2.2.1 S1.2.2.2.2.2.2.2.1))) := k272 _ _ h269 (Nat.ne_of_beq_eq_false rfl) (hdos _ List.mem_cons_self)
                        refine hp_iald B0 hw h273 (by unfold vp_in; decide) dL_isTold_128 ?_
                        refine hp_c (v := (S0.2.2.2.2.2.2.2.1 4)) (rfl) ?_
                        refine lv_icmp_eq (tgt := 134) hx hb dL_isTold_129 (by decide) (fun _ => ?_) (fun c9 => absurd rfl c9)
                        refine lv_iinc (v := 5) (lv' := [(7, .int 5), (6, .int 0), (5, .int 0), (0, .ref xo), (1, .ref lq), (2, .ref le), (3, .ref lr), (4, .ref lg)]) hx hb dL_isTold_134 hl9 (k := 0) rfl (by decide) (by decide) rfl (fun ls hl9 => ?_)
                        refine lv_goto (tgt := 104) hx hb dL_isTold_137 (by decide) ?_
                        refine lv_iload hx hb dL_isTold_104 (lv_at hl9 0 rfl) ?_
                        refine lv_bipush (v := 6) hx hb dL_isTold_106 (by decide) ?_
                        refine lv_icmp_ge (tgt := 140) hx hb dL_isTold_108 (by decide) (fun c9 => absurd c9 (by decide)) (fun _ => ?_)
                        refine lv_aload_n hx hb dL_isTold_111 rfl (lv_at hl9 3 rfl) ?_
                        refine lv_iload hx hb dL_isTold_112 (lv_at hl9 2 rfl) ?_
                        refine lv_iload hx hb dL_isTold_114 (lv_at hl9 0 rfl) ?_
                        refine hp_SH (As := [.ref xo, .int 0, .int 5]) (rest := []) B0 hw hS (c_V_asked_0 hl G f270 xo ez eo bu nw0 na0 nq0 nr0 nw1 na1 nq1 nr1 bs bp bh bf bl bg S0 S1 gw0 ga0 gw1 ga1 n a cg x sa pk fl gv gh gl hC271 (Nat.lt_of_le_of_lt hl0 (by decide)) (Nat.lt_of_le_of_lt hl1 (by decide)) 5 (by decide)) mH_L_asked qM_L_155 rfl rfl hl9.1 (Nat.le_of_ble_eq_true rfl) ⟨⟨Nat.le_of_ble_eq_true rfl, Nat.le_of_ble_eq_true rfl⟩, Nat.le_of_ble_eq_true rfl, Nat.le_of_ble_eq_true rfl⟩ dL_isTold_116 (fun E ce q9 f274 H locs hPX hw hS hce hcv hcl => ?_) (fun v f274 H locs hP hw hS => ?_)
                        · exact hPX.elim
                        · obtain ⟨ev9, hC275, k276⟩ := hP
                          subst ev9
                          have hC275 : CXW G f274 xo ez eo bu nw0 na0 nq0 nr0 nw1 na1 nq1 nr1 bs bp bh bf bl bg S0 S1 gw0 ga0 gw1 ga1 n a cg x sa pk fl gv gh gl := hC275
                          refine W.eq (g2 := F0 m 119 ls [.int ((S0.2.2.2.2.2.2.2.1 5))]) rfl ?_
                          refine lv_aload_n hx hb dL_isTold_119 rfl (lv_at hl9 4 rfl) ?_
                          refine lv_bipush (v := 6) hx hb dL_isTold_120 (by decide) ?_
                          refine lv_iload hx hb dL_isTold_122 (lv_at hl9 2 rfl) ?_
                          refine lv_imul hx hb dL_isTold_124 ?_
                          refine hp_c (v := 0) (by decide) ?_
                          refine lv_iload hx hb dL_isTold_125 (lv_at hl9 0 rfl) ?_
                          refine lv_iadd hx hb dL_isTold_127 ?_
                          refine hp_c (v := 5) (by decide) ?_
                          have h277 : f274 lq = some (.inl (cI G, 12, .inl (j6r S0.2.2.2.2.2.2.2.1 S1.2.2.2.2.2.2.2.1))) := k276 _ _ h273 (Nat.ne_of_beq_eq_false rfl) (hdos _ List.mem_cons_self)
                          refine hp_iald B0 hw h277 (by unfold vp_in; decide) dL_isTold_128 ?_
                          refine hp_c (v := (S0.2.2.2.2.2.2.2.1 5)) (rfl) ?_
                          refine lv_icmp_eq (tgt := 134) hx hb dL_isTold_129 (by decide) (fun _ => ?_) (fun c9 => absurd rfl c9)
                          refine lv_iinc (v := 6) (lv' := [(7, .int 6), (6, .int 0), (5, .int 0), (0, .ref xo), (1, .ref lq), (2, .ref le), (3, .ref lr), (4, .ref lg)]) hx hb dL_isTold_134 hl9 (k := 0) rfl (by decide) (by decide) rfl (fun ls hl9 => ?_)
                          refine lv_goto (tgt := 104) hx hb dL_isTold_137 (by decide) ?_
                          refine lv_iload hx hb dL_isTold_104 (lv_at hl9 0 rfl) ?_
                          refine lv_bipush (v := 6) hx hb dL_isTold_106 (by decide) ?_
                          refine lv_icmp_ge (tgt := 140) hx hb dL_isTold_108 (by decide) (fun _ => ?_) (fun c9 => absurd (by decide) c9)
                          refine lv_iinc (v := 1) (lv' := [(5, .int 1), (7, .int 6), (6, .int 0), (0, .ref xo), (1, .ref lq), (2, .ref le), (3, .ref lr), (4, .ref lg)]) hx hb dL_isTold_140 hl9 (k := 2) rfl (by decide) (by decide) rfl (fun ls hl9 => ?_)
                          refine lv_goto (tgt := 3) hx hb dL_isTold_143 (by decide) ?_
                          refine lv_iload hx hb dL_isTold_3 (lv_at hl9 0 rfl) ?_
                          refine lv_iconst (v := 2) hx hb dL_isTold_5 (by decide) ?_
                          refine lv_icmp_ge (tgt := 146) hx hb dL_isTold_6 (by decide) (fun c9 => absurd c9 (by decide)) (fun _ => ?_)
                          refine lv_bipush (v := 8) hx hb dL_isTold_9 (by decide) ?_
                          refine lv_iload hx hb dL_isTold_11 (lv_at hl9 0 rfl) ?_
                          refine lv_imul hx hb dL_isTold_13 ?_
                          refine hp_c (v := 8) (by decide) ?_
                          refine lv_istore (lv' := [(6, .int 8), (5, .int 1), (7, .int 6), (0, .ref xo), (1, .ref lq), (2, .ref le), (3, .ref lr), (4, .ref lg)]) hx hb dL_isTold_14 hl9 (by decide) rfl (fun ls hl9 => ?_)
                          refine lv_aload_n hx hb dL_isTold_16 rfl (lv_at hl9 3 rfl) ?_
                          refine lv_iload hx hb dL_isTold_17 (lv_at hl9 1 rfl) ?_
                          refine hp_SH (As := [.ref xo, .int 1]) (rest := []) B0 hw hS (c_V_stateOf_1 hl G f274 xo ez eo bu nw0 na0 nq0 nr0 nw1 na1 nq1 nr1 bs bp bh bf bl bg S0 S1 gw0 ga0 gw1 ga1 n a cg x sa pk fl gv gh gl hC275 (Nat.lt_of_le_of_lt hl0 (by decide)) (Nat.lt_of_le_of_lt hl1 (by decide)) ) mH_L_stateOf qM_L_141 rfl rfl hl9.1 (Nat.le_of_ble_eq_true rfl) ⟨⟨Nat.le_of_ble_eq_true rfl, Nat.le_of_ble_eq_true rfl⟩, Nat.le_of_ble_eq_true rfl, Nat.le_of_ble_eq_true rfl⟩ dL_isTold_19 (fun E ce q9 f278 H locs hPX hw hS hce hcv hcl => ?_) (fun v f278 H locs hP hw hS => ?_)
                          · exact hPX.elim
                          · obtain ⟨ev9, hC279, k280⟩ := hP
                            subst ev9
                            have hC279 : CXW G f278 xo ez eo bu nw0 na0 nq0 nr0 nw1 na1 nq1 nr1 bs bp bh bf bl bg S0 S1 gw0 ga0 gw1 ga1 n a cg x sa pk fl gv gh gl := hC279
                            refine W.eq (g2 := F0 m 22 ls [.int (S1.1)]) rfl ?_
                            refine lv_aload_n hx hb dL_isTold_22 rfl (lv_at hl9 5 rfl) ?_
                            refine lv_iload hx hb dL_isTold_23 (lv_at hl9 0 rfl) ?_
                            have h281 : f249 le = some (.inl (cI G, 16, .inl (jE (eSt S0) (eSt S1)))) := k251 _ _ h248 (Nat.ne_of_beq_eq_false rfl) (hdos _ (List.mem_cons_of_mem _ List.mem_cons_self))
                            have h282 : f258 le = some (.inl (cI G, 16, .inl (jE (eSt S0) (eSt S1)))) := k260 _ _ h281 (Nat.ne_of_beq_eq_false rfl) (hdos _ (List.mem_cons_of_mem _ List.mem_cons_self))
                            have h283 : f262 le = some (.inl (cI G, 16, .inl (jE (eSt S0) (eSt S1)))) := k264 _ _ h282 (Nat.ne_of_beq_eq_false rfl) (hdos _ (List.mem_cons_of_mem _ List.mem_cons_self))
                            have h284 : f266 le = some (.inl (cI G, 16, .inl (jE (eSt S0) (eSt S1)))) := k268 _ _ h283 (Nat.ne_of_beq_eq_false rfl) (hdos _ (List.mem_cons_of_mem _ List.mem_cons_self))
                            have h285 : f270 le = some (.inl (cI G, 16, .inl (jE (eSt S0) (eSt S1)))) := k272 _ _ h284 (Nat.ne_of_beq_eq_false rfl) (hdos _ (List.mem_cons_of_mem _ List.mem_cons_self))
                            have h286 : f274 le = some (.inl (cI G, 16, .inl (jE (eSt S0) (eSt S1)))) := k276 _ _ h285 (Nat.ne_of_beq_eq_false rfl) (hdos _ (List.mem_cons_of_mem _ List.mem_cons_self))
                            have h287 : f278 le = some (.inl (cI G, 16, .inl (jE (eSt S0) (eSt S1)))) := k280 _ _ h286 (Nat.ne_of_beq_eq_false rfl) (hdos _ (List.mem_cons_of_mem _ List.mem_cons_self))
                            refine hp_iald B0 hw h287 (by unfold vp_in; decide) dL_isTold_25 ?_
                            refine hp_c (v := S1.1) (rfl) ?_
                            refine lv_icmp_ne (tgt := 99) hx hb dL_isTold_26 (by decide) (fun c9 => absurd rfl c9) (fun _ => ?_)
                            refine lv_aload_n hx hb dL_isTold_29 rfl (lv_at hl9 3 rfl) ?_
                            refine lv_iload hx hb dL_isTold_30 (lv_at hl9 1 rfl) ?_
                            have h288 : f278 xo = some (.inr (4, [.ref ez, .ref eo, .ref bu])) := by obtain ⟨_, _, h9⟩ := hC279; exact h9.1
                            refine hp_V (ci := 4) (As := [.int 1]) (rest := []) B0 hw hS (c_P_requests_1 hl G f278 xo ez eo bu nw0 na0 nq0 nr0 nw1 na1 nq1 nr1 bs bp bh bf bl bg S0 S1 gw0 ga0 gw1 ga1 n a cg x sa pk fl gv gh gl hC279 (Nat.lt_of_le_of_lt hl0 (by decide)) (Nat.lt_of_le_of_lt hl1 (by decide))) mV_X4_requests qM_L_143 rfl h288 rfl rfl hl9.1 (Nat.le_of_ble_eq_true rfl) ⟨⟨Nat.le_of_ble_eq_true rfl, Nat.le_of_ble_eq_true rfl⟩, Nat.le_of_ble_eq_true rfl, Nat.le_of_ble_eq_true rfl⟩ dL_isTold_32 (fun E ce q9 f289 H locs hPX hw hS hce hcv hcl => ?_) (fun v f289 H locs hP hw hS => ?_)
                            · exact hPX.elim
                            · obtain ⟨ev9, hC290, k291⟩ := hP
                              subst ev9
                              refine W.eq (g2 := F0 m 35 ls [.int S1.2.2.1]) rfl ?_
                              refine lv_aload_n hx hb dL_isTold_35 rfl (lv_at hl9 5 rfl) ?_
                              refine lv_iload hx hb dL_isTold_36 (lv_at hl9 0 rfl) ?_
                              refine lv_iconst (v := 2) hx hb dL_isTold_38 (by decide) ?_
                              refine lv_iadd hx hb dL_isTold_39 ?_
                              refine hp_c (v := 10) (by decide) ?_
                              have h292 : f289 le = some (.inl (cI G, 16, .inl (jE (eSt S0) (eSt S1)))) := k291 _ _ h287 (Nat.ne_of_beq_eq_false rfl) (hdos _ (List.mem_cons_of_mem _ List.mem_cons_self))
                              refine hp_iald B0 hw h292 (by unfold vp_in; decide) dL_isTold_40 ?_
                              refine hp_c (v := S1.2.2.1) (rfl) ?_
                              refine lv_icmp_ne (tgt := 99) hx hb dL_isTold_41 (by decide) (fun c9 => absurd rfl c9) (fun _ => ?_)
                              refine lv_aload_n hx hb dL_isTold_44 rfl (lv_at hl9 3 rfl) ?_
                              refine lv_iload hx hb dL_isTold_45 (lv_at hl9 1 rfl) ?_
                              have h293 : f289 xo = some (.inr (4, [.ref ez, .ref eo, .ref bu])) := by obtain ⟨_, _, h9⟩ := hC290; exact h9.1
                              refine hp_V (ci := 4) (As := [.int 1]) (rest := []) B0 hw hS (c_P_isLooped_1 hl G f289 xo ez eo bu nw0 na0 nq0 nr0 nw1 na1 nq1 nr1 bs bp bh bf bl bg S0 S1 gw0 ga0 gw1 ga1 n a cg x sa pk fl gv gh gl hC290 (Nat.lt_of_le_of_lt hl0 (by decide)) (Nat.lt_of_le_of_lt hl1 (by decide))) mV_X4_isLooped qM_L_146 rfl h293 rfl rfl hl9.1 (Nat.le_of_ble_eq_true rfl) ⟨⟨Nat.le_of_ble_eq_true rfl, Nat.le_of_ble_eq_true rfl⟩, Nat.le_of_ble_eq_true rfl, Nat.le_of_ble_eq_true rfl⟩ dL_isTold_47 (fun E ce q9 f294 H locs hPX hw hS hce hcv hcl => ?_) (fun v f294 H locs hP hw hS => ?_)
                              · exact hPX.elim
                              · obtain ⟨ev9, hC295, k296⟩ := hP
                                subst ev9
                                refine W.eq (g2 := F0 m 50 ls [.int S1.2.2.2.2.1]) rfl ?_
                                refine lv_aload_n hx hb dL_isTold_50 rfl (lv_at hl9 5 rfl) ?_
                                refine lv_iload hx hb dL_isTold_51 (lv_at hl9 0 rfl) ?_
                                refine lv_iconst (v := 4) hx hb dL_isTold_53 (by decide) ?_
                                refine lv_iadd hx hb dL_isTold_54 ?_
                                refine hp_c (v := 12) (by decide) ?_
                                have h297 : f294 le = some (.inl (cI G, 16, .inl (jE (eSt S0) (eSt S1)))) := k296 _ _ h292 (Nat.ne_of_beq_eq_false rfl) (hdos _ (List.mem_cons_of_mem _ List.mem_cons_self))
                                refine hp_iald B0 hw h297 (by unfold vp_in; decide) dL_isTold_55 ?_
                                refine hp_c (v := S1.2.2.2.2.1) (rfl) ?_
                                refine lv_iconst (v := 1) hx hb dL_isTold_56 (by decide) ?_
                                refine lv_icmp_ne (tgt := 64) hx hb dL_isTold_57 (by decide) (fun c298 => ?_) (fun c298 => ?_)
                                · refine lv_iconst (v := 0) hx hb dL_isTold_64 (by decide) ?_
                                  refine lv_icmp_ne (tgt := 99) hx hb dL_isTold_65 (by decide) (fun c9 => absurd (hlp1.resolve_right c298) c9) (fun _ => ?_)
                                  refine lv_aload_n hx hb dL_isTold_68 rfl (lv_at hl9 3 rfl) ?_
                                  refine lv_iload hx hb dL_isTold_69 (lv_at hl9 1 rfl) ?_
                                  refine hp_SH (As := [.ref xo, .int 1]) (rest := []) B0 hw hS (c_V_underWay_1 hl G f294 xo ez eo bu nw0 na0 nq0 nr0 nw1 na1 nq1 nr1 bs bp bh bf bl bg S0 S1 gw0 ga0 gw1 ga1 n a cg x sa pk fl gv gh gl hC295 (Nat.lt_of_le_of_lt hl0 (by decide)) (Nat.lt_of_le_of_lt hl1 (by decide)) ) mH_L_underWay qM_L_150 rfl rfl hl9.1 (Nat.le_of_ble_eq_true rfl) ⟨⟨Nat.le_of_ble_eq_true rfl, Nat.le_of_ble_eq_true rfl⟩, Nat.le_of_ble_eq_true rfl, Nat.le_of_ble_eq_true rfl⟩ dL_isTold_71 (fun E ce q9 f299 H locs hPX hw hS hce hcv hcl => ?_) (fun v f299 H locs hP hw hS => ?_)
                                  · exact hPX.elim
                                  · obtain ⟨ev9, hC300, k301⟩ := hP
                                    subst ev9
                                    have hC300 : CXW G f299 xo ez eo bu nw0 na0 nq0 nr0 nw1 na1 nq1 nr1 bs bp bh bf bl bg S0 S1 gw0 ga0 gw1 ga1 n a cg x sa pk fl gv gh gl := hC300
                                    refine W.eq (g2 := F0 m 74 ls [.int ((nI S1.2.2.2.2.2.2.2.2.length))]) rfl ?_
                                    refine lv_aload_n hx hb dL_isTold_74 rfl (lv_at hl9 5 rfl) ?_
                                    refine lv_iload hx hb dL_isTold_75 (lv_at hl9 0 rfl) ?_
                                    refine lv_bipush (v := 7) hx hb dL_isTold_77 (by decide) ?_
                                    refine lv_iadd hx hb dL_isTold_79 ?_
                                    refine hp_c (v := 15) (by decide) ?_
                                    have h302 : f299 le = some (.inl (cI G, 16, .inl (jE (eSt S0) (eSt S1)))) := k301 _ _ h297 (Nat.ne_of_beq_eq_false rfl) (hdos _ (List.mem_cons_of_mem _ List.mem_cons_self))
                                    refine hp_iald B0 hw h302 (by unfold vp_in; decide) dL_isTold_80 ?_
                                    refine hp_c (v := (nI S1.2.2.2.2.2.2.2.2.length)) (rfl) ?_
                                    refine lv_icmp_ne (tgt := 99) hx hb dL_isTold_81 (by decide) (fun c9 => absurd rfl c9) (fun _ => ?_)
                                    refine lv_aload_n hx hb dL_isTold_84 rfl (lv_at hl9 3 rfl) ?_
                                    refine lv_iload hx hb dL_isTold_85 (lv_at hl9 1 rfl) ?_
                                    have h303 : f299 xo = some (.inr (4, [.ref ez, .ref eo, .ref bu])) := by obtain ⟨_, _, h9⟩ := hC300; exact h9.1
                                    refine hp_V (ci := 4) (As := [.int 1]) (rest := []) B0 hw hS (c_P_missed_1 hl G f299 xo ez eo bu nw0 na0 nq0 nr0 nw1 na1 nq1 nr1 bs bp bh bf bl bg S0 S1 gw0 ga0 gw1 ga1 n a cg x sa pk fl gv gh gl hC300 (Nat.lt_of_le_of_lt hl0 (by decide)) (Nat.lt_of_le_of_lt hl1 (by decide))) mV_X4_missed qM_L_152 rfl h303 rfl rfl hl9.1 (Nat.le_of_ble_eq_true rfl) ⟨⟨Nat.le_of_ble_eq_true rfl, Nat.le_of_ble_eq_true rfl⟩, Nat.le_of_ble_eq_true rfl, Nat.le_of_ble_eq_true rfl⟩ dL_isTold_87 (fun E ce q9 f304 H locs hPX hw hS hce hcv hcl => ?_) (fun v f304 H locs hP hw hS => ?_)
                                    · exact hPX.elim
                                    · obtain ⟨ev9, hC305, k306⟩ := hP
                                      subst ev9
                                      refine W.eq (g2 := F0 m 90 ls [.int S1.2.2.2.2.2.1]) rfl ?_
                                      refine lv_aload_n hx hb dL_isTold_90 rfl (lv_at hl9 5 rfl) ?_
                                      refine lv_iload hx hb dL_isTold_91 (lv_at hl9 0 rfl) ?_
                                      refine lv_iconst (v := 5) hx hb dL_isTold_93 (by decide) ?_
                                      refine lv_iadd hx hb dL_isTold_94 ?_
                                      refine hp_c (v := 13) (by decide) ?_
                                      have h307 : f304 le = some (.inl (cI G, 16, .inl (jE (eSt S0) (eSt S1)))) := k306 _ _ h302 (Nat.ne_of_beq_eq_false rfl) (hdos _ (List.mem_cons_of_mem _ List.mem_cons_self))
                                      refine hp_iald B0 hw h307 (by unfold vp_in; decide) dL_isTold_95 ?_
                                      refine hp_c (v := S1.2.2.2.2.2.1) (rfl) ?_
                                      refine lv_icmp_eq (tgt := 101) hx hb dL_isTold_96 (by decide) (fun _ => ?_) (fun c9 => absurd rfl c9)
                                      refine lv_iconst (v := 0) hx hb dL_isTold_101 (by decide) ?_
                                      refine lv_istore (lv' := [(7, .int 0), (6, .int 8), (5, .int 1), (0, .ref xo), (1, .ref lq), (2, .ref le), (3, .ref lr), (4, .ref lg)]) hx hb dL_isTold_102 hl9 (by decide) rfl (fun ls hl9 => ?_)
                                      refine lv_iload hx hb dL_isTold_104 (lv_at hl9 0 rfl) ?_
                                      refine lv_bipush (v := 6) hx hb dL_isTold_106 (by decide) ?_
                                      refine lv_icmp_ge (tgt := 140) hx hb dL_isTold_108 (by decide) (fun c9 => absurd c9 (by decide)) (fun _ => ?_)
                                      refine lv_aload_n hx hb dL_isTold_111 rfl (lv_at hl9 3 rfl) ?_
                                      refine lv_iload hx hb dL_isTold_112 (lv_at hl9 2 rfl) ?_
                                      refine lv_iload hx hb dL_isTold_114 (lv_at hl9 0 rfl) ?_
                                      refine hp_SH (As := [.ref xo, .int 1, .int 0]) (rest := []) B0 hw hS (c_V_asked_1 hl G f304 xo ez eo bu nw0 na0 nq0 nr0 nw1 na1 nq1 nr1 bs bp bh bf bl bg S0 S1 gw0 ga0 gw1 ga1 n a cg x sa pk fl gv gh gl hC305 (Nat.lt_of_le_of_lt hl0 (by decide)) (Nat.lt_of_le_of_lt hl1 (by decide)) 0 (by decide)) mH_L_asked qM_L_155 rfl rfl hl9.1 (Nat.le_of_ble_eq_true rfl) ⟨⟨Nat.le_of_ble_eq_true rfl, Nat.le_of_ble_eq_true rfl⟩, Nat.le_of_ble_eq_true rfl, Nat.le_of_ble_eq_true rfl⟩ dL_isTold_116 (fun E ce q9 f308 H locs hPX hw hS hce hcv hcl => ?_) (fun v f308 H locs hP hw hS => ?_)
                                      · exact hPX.elim
                                      · obtain ⟨ev9, hC309, k310⟩ := hP
                                        subst ev9
                                        have hC309 : CXW G f308 xo ez eo bu nw0 na0 nq0 nr0 nw1 na1 nq1 nr1 bs bp bh bf bl bg S0 S1 gw0 ga0 gw1 ga1 n a cg x sa pk fl gv gh gl := hC309
                                        refine W.eq (g2 := F0 m 119 ls [.int ((S1.2.2.2.2.2.2.2.1 0))]) rfl ?_
                                        refine lv_aload_n hx hb dL_isTold_119 rfl (lv_at hl9 4 rfl) ?_
                                        refine lv_bipush (v := 6) hx hb dL_isTold_120 (by decide) ?_
                                        refine lv_iload hx hb dL_isTold_122 (lv_at hl9 2 rfl) ?_
                                        refine lv_imul hx hb dL_isTold_124 ?_
                                        refine hp_c (v := 6) (by decide) ?_
                                        refine lv_iload hx hb dL_isTold_125 (lv_at hl9 0 rfl) ?_
                                        refine lv_iadd hx hb dL_isTold_127 ?_
                                        refine hp_c (v := 6) (by decide) ?_
                                        have h311 : f278 lq = some (.inl (cI G, 12, .inl (j6r S0.2.2.2.2.2.2.2.1 S1.2.2.2.2.2.2.2.1))) := k280 _ _ h277 (Nat.ne_of_beq_eq_false rfl) (hdos _ List.mem_cons_self)
                                        have h312 : f289 lq = some (.inl (cI G, 12, .inl (j6r S0.2.2.2.2.2.2.2.1 S1.2.2.2.2.2.2.2.1))) := k291 _ _ h311 (Nat.ne_of_beq_eq_false rfl) (hdos _ List.mem_cons_self)
                                        have h313 : f294 lq = some (.inl (cI G, 12, .inl (j6r S0.2.2.2.2.2.2.2.1 S1.2.2.2.2.2.2.2.1))) := k296 _ _ h312 (Nat.ne_of_beq_eq_false rfl) (hdos _ List.mem_cons_self)
                                        have h314 : f299 lq = some (.inl (cI G, 12, .inl (j6r S0.2.2.2.2.2.2.2.1 S1.2.2.2.2.2.2.2.1))) := k301 _ _ h313 (Nat.ne_of_beq_eq_false rfl) (hdos _ List.mem_cons_self)
                                        have h315 : f304 lq = some (.inl (cI G, 12, .inl (j6r S0.2.2.2.2.2.2.2.1 S1.2.2.2.2.2.2.2.1))) := k306 _ _ h314 (Nat.ne_of_beq_eq_false rfl) (hdos _ List.mem_cons_self)
                                        have h316 : f308 lq = some (.inl (cI G, 12, .inl (j6r S0.2.2.2.2.2.2.2.1 S1.2.2.2.2.2.2.2.1))) := k310 _ _ h315 (Nat.ne_of_beq_eq_false rfl) (hdos _ List.mem_cons_self)
                                        refine hp_iald B0 hw h316 (by unfold vp_in; decide) dL_isTold_128 ?_
                                        refine hp_c (v := (S1.2.2.2.2.2.2.2.1 0)) (rfl) ?_
                                        refine lv_icmp_eq (tgt := 134) hx hb dL_isTold_129 (by decide) (fun _ => ?_) (fun c9 => absurd rfl c9)
                                        refine lv_iinc (v := 1) (lv' := [(7, .int 1), (6, .int 8), (5, .int 1), (0, .ref xo), (1, .ref lq), (2, .ref le), (3, .ref lr), (4, .ref lg)]) hx hb dL_isTold_134 hl9 (k := 0) rfl (by decide) (by decide) rfl (fun ls hl9 => ?_)
                                        refine lv_goto (tgt := 104) hx hb dL_isTold_137 (by decide) ?_
                                        refine lv_iload hx hb dL_isTold_104 (lv_at hl9 0 rfl) ?_
                                        refine lv_bipush (v := 6) hx hb dL_isTold_106 (by decide) ?_
                                        refine lv_icmp_ge (tgt := 140) hx hb dL_isTold_108 (by decide) (fun c9 => absurd c9 (by decide)) (fun _ => ?_)
                                        refine lv_aload_n hx hb dL_isTold_111 rfl (lv_at hl9 3 rfl) ?_
                                        refine lv_iload hx hb dL_isTold_112 (lv_at hl9 2 rfl) ?_
                                        refine lv_iload hx hb dL_isTold_114 (lv_at hl9 0 rfl) ?_
                                        refine hp_SH (As := [.ref xo, .int 1, .int 1]) (rest := []) B0 hw hS (c_V_asked_1 hl G f308 xo ez eo bu nw0 na0 nq0 nr0 nw1 na1 nq1 nr1 bs bp bh bf bl bg S0 S1 gw0 ga0 gw1 ga1 n a cg x sa pk fl gv gh gl hC309 (Nat.lt_of_le_of_lt hl0 (by decide)) (Nat.lt_of_le_of_lt hl1 (by decide)) 1 (by decide)) mH_L_asked qM_L_155 rfl rfl hl9.1 (Nat.le_of_ble_eq_true rfl) ⟨⟨Nat.le_of_ble_eq_true rfl, Nat.le_of_ble_eq_true rfl⟩, Nat.le_of_ble_eq_true rfl, Nat.le_of_ble_eq_true rfl⟩ dL_isTold_116 (fun E ce q9 f317 H locs hPX hw hS hce hcv hcl => ?_) (fun v f317 H locs hP hw hS => ?_)
                                        · exact hPX.elim
                                        · obtain ⟨ev9, hC318, k319⟩ := hP
                                          subst ev9
                                          have hC318 : CXW G f317 xo ez eo bu nw0 na0 nq0 nr0 nw1 na1 nq1 nr1 bs bp bh bf bl bg S0 S1 gw0 ga0 gw1 ga1 n a cg x sa pk fl gv gh gl := hC318
                                          refine W.eq (g2 := F0 m 119 ls [.int ((S1.2.2.2.2.2.2.2.1 1))]) rfl ?_
                                          refine lv_aload_n hx hb dL_isTold_119 rfl (lv_at hl9 4 rfl) ?_
                                          refine lv_bipush (v := 6) hx hb dL_isTold_120 (by decide) ?_
                                          refine lv_iload hx hb dL_isTold_122 (lv_at hl9 2 rfl) ?_
                                          refine lv_imul hx hb dL_isTold_124 ?_
                                          refine hp_c (v := 6) (by decide) ?_
                                          refine lv_iload hx hb dL_isTold_125 (lv_at hl9 0 rfl) ?_
                                          refine lv_iadd hx hb dL_isTold_127 ?_
                                          refine hp_c (v := 7) (by decide) ?_
                                          have h320 : f317 lq = some (.inl (cI G, 12, .inl (j6r S0.2.2.2.2.2.2.2.1 S1.2.2.2.2.2.2.2.1))) := k319 _ _ h316 (Nat.ne_of_beq_eq_false rfl) (hdos _ List.mem_cons_self)
                                          refine hp_iald B0 hw h320 (by unfold vp_in; decide) dL_isTold_128 ?_
                                          refine hp_c (v := (S1.2.2.2.2.2.2.2.1 1)) (rfl) ?_
                                          refine lv_icmp_eq (tgt := 134) hx hb dL_isTold_129 (by decide) (fun _ => ?_) (fun c9 => absurd rfl c9)
                                          refine lv_iinc (v := 2) (lv' := [(7, .int 2), (6, .int 8), (5, .int 1), (0, .ref xo), (1, .ref lq), (2, .ref le), (3, .ref lr), (4, .ref lg)]) hx hb dL_isTold_134 hl9 (k := 0) rfl (by decide) (by decide) rfl (fun ls hl9 => ?_)
                                          refine lv_goto (tgt := 104) hx hb dL_isTold_137 (by decide) ?_
                                          refine lv_iload hx hb dL_isTold_104 (lv_at hl9 0 rfl) ?_
                                          refine lv_bipush (v := 6) hx hb dL_isTold_106 (by decide) ?_
                                          refine lv_icmp_ge (tgt := 140) hx hb dL_isTold_108 (by decide) (fun c9 => absurd c9 (by decide)) (fun _ => ?_)
                                          refine lv_aload_n hx hb dL_isTold_111 rfl (lv_at hl9 3 rfl) ?_
                                          refine lv_iload hx hb dL_isTold_112 (lv_at hl9 2 rfl) ?_
                                          refine lv_iload hx hb dL_isTold_114 (lv_at hl9 0 rfl) ?_
                                          refine hp_SH (As := [.ref xo, .int 1, .int 2]) (rest := []) B0 hw hS (c_V_asked_1 hl G f317 xo ez eo bu nw0 na0 nq0 nr0 nw1 na1 nq1 nr1 bs bp bh bf bl bg S0 S1 gw0 ga0 gw1 ga1 n a cg x sa pk fl gv gh gl hC318 (Nat.lt_of_le_of_lt hl0 (by decide)) (Nat.lt_of_le_of_lt hl1 (by decide)) 2 (by decide)) mH_L_asked qM_L_155 rfl rfl hl9.1 (Nat.le_of_ble_eq_true rfl) ⟨⟨Nat.le_of_ble_eq_true rfl, Nat.le_of_ble_eq_true rfl⟩, Nat.le_of_ble_eq_true rfl, Nat.le_of_ble_eq_true rfl⟩ dL_isTold_116 (fun E ce q9 f321 H locs hPX hw hS hce hcv hcl => ?_) (fun v f321 H locs hP hw hS => ?_)
                                          · exact hPX.elim
                                          · obtain ⟨ev9, hC322, k323⟩ := hP
                                            subst ev9
                                            have hC322 : CXW G f321 xo ez eo bu nw0 na0 nq0 nr0 nw1 na1 nq1 nr1 bs bp bh bf bl bg S0 S1 gw0 ga0 gw1 ga1 n a cg x sa pk fl gv gh gl := hC322
                                            refine W.eq (g2 := F0 m 119 ls [.int ((S1.2.2.2.2.2.2.2.1 2))]) rfl ?_
                                            refine lv_aload_n hx hb dL_isTold_119 rfl (lv_at hl9 4 rfl) ?_
                                            refine lv_bipush (v := 6) hx hb dL_isTold_120 (by decide) ?_
                                            refine lv_iload hx hb dL_isTold_122 (lv_at hl9 2 rfl) ?_
                                            refine lv_imul hx hb dL_isTold_124 ?_
                                            refine hp_c (v := 6) (by decide) ?_
                                            refine lv_iload hx hb dL_isTold_125 (lv_at hl9 0 rfl) ?_
                                            refine lv_iadd hx hb dL_isTold_127 ?_
                                            refine hp_c (v := 8) (by decide) ?_
                                            have h324 : f321 lq = some (.inl (cI G, 12, .inl (j6r S0.2.2.2.2.2.2.2.1 S1.2.2.2.2.2.2.2.1))) := k323 _ _ h320 (Nat.ne_of_beq_eq_false rfl) (hdos _ List.mem_cons_self)
                                            refine hp_iald B0 hw h324 (by unfold vp_in; decide) dL_isTold_128 ?_
                                            refine hp_c (v := (S1.2.2.2.2.2.2.2.1 2)) (rfl) ?_
                                            refine lv_icmp_eq (tgt := 134) hx hb dL_isTold_129 (by decide) (fun _ => ?_) (fun c9 => absurd rfl c9)
                                            refine lv_iinc (v := 3) (lv' := [(7, .int 3), (6, .int 8), (5, .int 1), (0, .ref xo), (1, .ref lq), (2, .ref le), (3, .ref lr), (4, .ref lg)]) hx hb dL_isTold_134 hl9 (k := 0) rfl (by decide) (by decide) rfl (fun ls hl9 => ?_)
                                            refine lv_goto (tgt := 104) hx hb dL_isTold_137 (by decide) ?_
                                            refine lv_iload hx hb dL_isTold_104 (lv_at hl9 0 rfl) ?_
                                            refine lv_bipush (v := 6) hx hb dL_isTold_106 (by decide) ?_
                                            refine lv_icmp_ge (tgt := 140) hx hb dL_isTold_108 (by decide) (fun c9 => absurd c9 (by decide)) (fun _ => ?_)
                                            refine lv_aload_n hx hb dL_isTold_111 rfl (lv_at hl9 3 rfl) ?_
                                            refine lv_iload hx hb dL_isTold_112 (lv_at hl9 2 rfl) ?_
                                            refine lv_iload hx hb dL_isTold_114 (lv_at hl9 0 rfl) ?_
                                            refine hp_SH (As := [.ref xo, .int 1, .int 3]) (rest := []) B0 hw hS (c_V_asked_1 hl G f321 xo ez eo bu nw0 na0 nq0 nr0 nw1 na1 nq1 nr1 bs bp bh bf bl bg S0 S1 gw0 ga0 gw1 ga1 n a cg x sa pk fl gv gh gl hC322 (Nat.lt_of_le_of_lt hl0 (by decide)) (Nat.lt_of_le_of_lt hl1 (by decide)) 3 (by decide)) mH_L_asked qM_L_155 rfl rfl hl9.1 (Nat.le_of_ble_eq_true rfl) ⟨⟨Nat.le_of_ble_eq_true rfl, Nat.le_of_ble_eq_true rfl⟩, Nat.le_of_ble_eq_true rfl, Nat.le_of_ble_eq_true rfl⟩ dL_isTold_116 (fun E ce q9 f325 H locs hPX hw hS hce hcv hcl => ?_) (fun v f325 H locs hP hw hS => ?_)
                                            · exact hPX.elim
                                            · obtain ⟨ev9, hC326, k327⟩ := hP
                                              subst ev9
                                              have hC326 : CXW G f325 xo ez eo bu nw0 na0 nq0 nr0 nw1 na1 nq1 nr1 bs bp bh bf bl bg S0 S1 gw0 ga0 gw1 ga1 n a cg x sa pk fl gv gh gl := hC326
                                              refine W.eq (g2 := F0 m 119 ls [.int ((S1.2.2.2.2.2.2.2.1 3))]) rfl ?_
                                              refine lv_aload_n hx hb dL_isTold_119 rfl (lv_at hl9 4 rfl) ?_
                                              refine lv_bipush (v := 6) hx hb dL_isTold_120 (by decide) ?_
                                              refine lv_iload hx hb dL_isTold_122 (lv_at hl9 2 rfl) ?_
                                              refine lv_imul hx hb dL_isTold_124 ?_
                                              refine hp_c (v := 6) (by decide) ?_
                                              refine lv_iload hx hb dL_isTold_125 (lv_at hl9 0 rfl) ?_
                                              refine lv_iadd hx hb dL_isTold_127 ?_
                                              refine hp_c (v := 9) (by decide) ?_
                                              have h328 : f325 lq = some (.inl (cI G, 12, .inl (j6r S0.2.2.2.2.2.2.2.1 S1.2.2.2.2.2.2.2.1))) := k327 _ _ h324 (Nat.ne_of_beq_eq_false rfl) (hdos _ List.mem_cons_self)
                                              refine hp_iald B0 hw h328 (by unfold vp_in; decide) dL_isTold_128 ?_
                                              refine hp_c (v := (S1.2.2.2.2.2.2.2.1 3)) (rfl) ?_
                                              refine lv_icmp_eq (tgt := 134) hx hb dL_isTold_129 (by decide) (fun _ => ?_) (fun c9 => absurd rfl c9)
                                              refine lv_iinc (v := 4) (lv' := [(7, .int 4), (6, .int 8), (5, .int 1), (0, .ref xo), (1, .ref lq), (2, .ref le), (3, .ref lr), (4, .ref lg)]) hx hb dL_isTold_134 hl9 (k := 0) rfl (by decide) (by decide) rfl (fun ls hl9 => ?_)
                                              refine lv_goto (tgt := 104) hx hb dL_isTold_137 (by decide) ?_
                                              refine lv_iload hx hb dL_isTold_104 (lv_at hl9 0 rfl) ?_
                                              refine lv_bipush (v := 6) hx hb dL_isTold_106 (by decide) ?_
                                              refine lv_icmp_ge (tgt := 140) hx hb dL_isTold_108 (by decide) (fun c9 => absurd c9 (by decide)) (fun _ => ?_)
                                              refine lv_aload_n hx hb dL_isTold_111 rfl (lv_at hl9 3 rfl) ?_
                                              refine lv_iload hx hb dL_isTold_112 (lv_at hl9 2 rfl) ?_
                                              refine lv_iload hx hb dL_isTold_114 (lv_at hl9 0 rfl) ?_
                                              refine hp_SH (As := [.ref xo, .int 1, .int 4]) (rest := []) B0 hw hS (c_V_asked_1 hl G f325 xo ez eo bu nw0 na0 nq0 nr0 nw1 na1 nq1 nr1 bs bp bh bf bl bg S0 S1 gw0 ga0 gw1 ga1 n a cg x sa pk fl gv gh gl hC326 (Nat.lt_of_le_of_lt hl0 (by decide)) (Nat.lt_of_le_of_lt hl1 (by decide)) 4 (by decide)) mH_L_asked qM_L_155 rfl rfl hl9.1 (Nat.le_of_ble_eq_true rfl) ⟨⟨Nat.le_of_ble_eq_true rfl, Nat.le_of_ble_eq_true rfl⟩, Nat.le_of_ble_eq_true rfl, Nat.le_of_ble_eq_true rfl⟩ dL_isTold_116 (fun E ce q9 f329 H locs hPX hw hS hce hcv hcl => ?_) (fun v f329 H locs hP hw hS => ?_)
                                              · exact hPX.elim
                                              · obtain ⟨ev9, hC330, k331⟩ := hP
                                                subst ev9
                                                have hC330 : CXW G f329 xo ez eo bu nw0 na0 nq0 nr0 nw1 na1 nq1 nr1 bs bp bh bf bl bg S0 S1 gw0 ga0 gw1 ga1 n a cg x sa pk fl gv gh gl := hC330
                                                refine W.eq (g2 := F0 m 119 ls [.int ((S1.2.2.2.2.2.2.2.1 4))]) rfl ?_
                                                refine lv_aload_n hx hb dL_isTold_119 rfl (lv_at hl9 4 rfl) ?_
                                                refine lv_bipush (v := 6) hx hb dL_isTold_120 (by decide) ?_
                                                refine lv_iload hx hb dL_isTold_122 (lv_at hl9 2 rfl) ?_
                                                refine lv_imul hx hb dL_isTold_124 ?_
                                                refine hp_c (v := 6) (by decide) ?_
                                                refine lv_iload hx hb dL_isTold_125 (lv_at hl9 0 rfl) ?_
                                                refine lv_iadd hx hb dL_isTold_127 ?_
                                                refine hp_c (v := 10) (by decide) ?_
                                                have h332 : f329 lq = some (.inl (cI G, 12, .inl (j6r S0.2.2.2.2.2.2.2.1 S1.2.2.2.2.2.2.2.1))) := k331 _ _ h328 (Nat.ne_of_beq_eq_false rfl) (hdos _ List.mem_cons_self)
                                                refine hp_iald B0 hw h332 (by unfold vp_in; decide) dL_isTold_128 ?_
                                                refine hp_c (v := (S1.2.2.2.2.2.2.2.1 4)) (rfl) ?_
                                                refine lv_icmp_eq (tgt := 134) hx hb dL_isTold_129 (by decide) (fun _ => ?_) (fun c9 => absurd rfl c9)
                                                refine lv_iinc (v := 5) (lv' := [(7, .int 5), (6, .int 8), (5, .int 1), (0, .ref xo), (1, .ref lq), (2, .ref le), (3, .ref lr), (4, .ref lg)]) hx hb dL_isTold_134 hl9 (k := 0) rfl (by decide) (by decide) rfl (fun ls hl9 => ?_)
                                                refine lv_goto (tgt := 104) hx hb dL_isTold_137 (by decide) ?_
                                                refine lv_iload hx hb dL_isTold_104 (lv_at hl9 0 rfl) ?_
                                                refine lv_bipush (v := 6) hx hb dL_isTold_106 (by decide) ?_
                                                refine lv_icmp_ge (tgt := 140) hx hb dL_isTold_108 (by decide) (fun c9 => absurd c9 (by decide)) (fun _ => ?_)
                                                refine lv_aload_n hx hb dL_isTold_111 rfl (lv_at hl9 3 rfl) ?_
                                                refine lv_iload hx hb dL_isTold_112 (lv_at hl9 2 rfl) ?_
                                                refine lv_iload hx hb dL_isTold_114 (lv_at hl9 0 rfl) ?_
                                                refine hp_SH (As := [.ref xo, .int 1, .int 5]) (rest := []) B0 hw hS (c_V_asked_1 hl G f329 xo ez eo bu nw0 na0 nq0 nr0 nw1 na1 nq1 nr1 bs bp bh bf bl bg S0 S1 gw0 ga0 gw1 ga1 n a cg x sa pk fl gv gh gl hC330 (Nat.lt_of_le_of_lt hl0 (by decide)) (Nat.lt_of_le_of_lt hl1 (by decide)) 5 (by decide)) mH_L_asked qM_L_155 rfl rfl hl9.1 (Nat.le_of_ble_eq_true rfl) ⟨⟨Nat.le_of_ble_eq_true rfl, Nat.le_of_ble_eq_true rfl⟩, Nat.le_of_ble_eq_true rfl, Nat.le_of_ble_eq_true rfl⟩ dL_isTold_116 (fun E ce q9 f333 H locs hPX hw hS hce hcv hcl => ?_) (fun v f333 H locs hP hw hS => ?_)
                                                · exact hPX.elim
                                                · obtain ⟨ev9, hC334, k335⟩ := hP
                                                  subst ev9
                                                  have hC334 : CXW G f333 xo ez eo bu nw0 na0 nq0 nr0 nw1 na1 nq1 nr1 bs bp bh bf bl bg S0 S1 gw0 ga0 gw1 ga1 n a cg x sa pk fl gv gh gl := hC334
                                                  refine W.eq (g2 := F0 m 119 ls [.int ((S1.2.2.2.2.2.2.2.1 5))]) rfl ?_
                                                  refine lv_aload_n hx hb dL_isTold_119 rfl (lv_at hl9 4 rfl) ?_
                                                  refine lv_bipush (v := 6) hx hb dL_isTold_120 (by decide) ?_
                                                  refine lv_iload hx hb dL_isTold_122 (lv_at hl9 2 rfl) ?_
                                                  refine lv_imul hx hb dL_isTold_124 ?_
                                                  refine hp_c (v := 6) (by decide) ?_
                                                  refine lv_iload hx hb dL_isTold_125 (lv_at hl9 0 rfl) ?_
                                                  refine lv_iadd hx hb dL_isTold_127 ?_
                                                  refine hp_c (v := 11) (by decide) ?_
                                                  have h336 : f333 lq = some (.inl (cI G, 12, .inl (j6r S0.2.2.2.2.2.2.2.1 S1.2.2.2.2.2.2.2.1))) := k335 _ _ h332 (Nat.ne_of_beq_eq_false rfl) (hdos _ List.mem_cons_self)
                                                  refine hp_iald B0 hw h336 (by unfold vp_in; decide) dL_isTold_128 ?_
                                                  refine hp_c (v := (S1.2.2.2.2.2.2.2.1 5)) (rfl) ?_
                                                  refine lv_icmp_eq (tgt := 134) hx hb dL_isTold_129 (by decide) (fun _ => ?_) (fun c9 => absurd rfl c9)
                                                  refine lv_iinc (v := 6) (lv' := [(7, .int 6), (6, .int 8), (5, .int 1), (0, .ref xo), (1, .ref lq), (2, .ref le), (3, .ref lr), (4, .ref lg)]) hx hb dL_isTold_134 hl9 (k := 0) rfl (by decide) (by decide) rfl (fun ls hl9 => ?_)
                                                  refine lv_goto (tgt := 104) hx hb dL_isTold_137 (by decide) ?_
                                                  refine lv_iload hx hb dL_isTold_104 (lv_at hl9 0 rfl) ?_
                                                  refine lv_bipush (v := 6) hx hb dL_isTold_106 (by decide) ?_
                                                  refine lv_icmp_ge (tgt := 140) hx hb dL_isTold_108 (by decide) (fun _ => ?_) (fun c9 => absurd (by decide) c9)
                                                  refine lv_iinc (v := 2) (lv' := [(5, .int 2), (7, .int 6), (6, .int 8), (0, .ref xo), (1, .ref lq), (2, .ref le), (3, .ref lr), (4, .ref lg)]) hx hb dL_isTold_140 hl9 (k := 2) rfl (by decide) (by decide) rfl (fun ls hl9 => ?_)
                                                  refine lv_goto (tgt := 3) hx hb dL_isTold_143 (by decide) ?_
                                                  refine lv_iload hx hb dL_isTold_3 (lv_at hl9 0 rfl) ?_
                                                  refine lv_iconst (v := 2) hx hb dL_isTold_5 (by decide) ?_
                                                  refine lv_icmp_ge (tgt := 146) hx hb dL_isTold_6 (by decide) (fun _ => ?_) (fun c9 => absurd (by decide) c9)
                                                  refine lv_iconst (v := 0) hx hb dL_isTold_146 (by decide) ?_
                                                  refine lv_istore (lv' := [(5, .int 0), (7, .int 6), (6, .int 8), (0, .ref xo), (1, .ref lq), (2, .ref le), (3, .ref lr), (4, .ref lg)]) hx hb dL_isTold_147 hl9 (by decide) rfl (fun ls hl9 => ?_)
                                                  refine hp_cs (c2 := 34 + 0 * 0) (s2 := 204 + 0 * 0) rfl rfl ?_
                                                  refine hp_forC (nL := 8) (pc := 149) (fun j f9 lv9 => CXW G f9 xo ez eo bu nw0 na0 nq0 nr0 nw1 na1 nq1 nr1 bs bp bh bf bl bg S0 S1 gw0 ga0 gw1 ga1 n a cg x sa pk fl gv gh gl ∧ hKn [xo, ez, eo, bu, nw0, na0, nq0, nr0, nw1, na1, nq1, nr1, bs, bp, bh, bf, bl, bg] f f9 ∧ lv9 = [(5, .int (nI j)), (0, .ref xo), (1, .ref lq), (2, .ref le), (3, .ref lr), (4, .ref lg)]) cg 34 204 0 0 (fun j f9 lv9 H locs ls hj hI hw hS hl9 ih => ?_) (fun f9 lv9 H locs ls hI hw hS hl9 => ?_) cg 0 (Nat.zero_add _) f333 _ _ _ ls ⟨hC334, ((show hKn [xo, ez, eo, bu, nw0, na0, nq0, nr0, nw1, na1, nq1, nr1, bs, bp, bh, bf, bl, bg] f f1 from (hKn.mono k3 (fun _ h9 => h9))).tr ((show hKn [xo, ez, eo, bu, nw0, na0, nq0, nr0, nw1, na1, nq1, nr1, bs, bp, bh, bf, bl, bg] f1 f6 from (hKn.mono k8 (fun _ h9 => h9))).tr ((show hKn [xo, ez, eo, bu, nw0, na0, nq0, nr0, nw1, na1, nq1, nr1, bs, bp, bh, bf, bl, bg] f6 f12 from (hKn.mono k14 (fun _ h9 => h9))).tr ((show hKn [xo, ez, eo, bu, nw0, na0, nq0, nr0, nw1, na1, nq1, nr1, bs, bp, bh, bf, bl, bg] f12 f240 from (hKn.mono k242 (fun _ h9 => h9))).tr ((show hKn [xo, ez, eo, bu, nw0, na0, nq0, nr0, nw1, na1, nq1, nr1, bs, bp, bh, bf, bl, bg] f240 f245 from (hKn.mono k247 (fun _ h9 => h9))).tr ((show hKn [xo, ez, eo, bu, nw0, na0, nq0, nr0, nw1, na1, nq1, nr1, bs, bp, bh, bf, bl, bg] f245 f249 from (hKn.mono k251 (fun _ h9 => h9))).tr ((show hKn [xo, ez, eo, bu, nw0, na0, nq0, nr0, nw1, na1, nq1, nr1, bs, bp, bh, bf, bl, bg] f249 f258 from (hKn.mono k260 (fun _ h9 => h9))).tr ((show hKn [xo, ez, eo, bu, nw0, na0, nq0, nr0, nw1, na1, nq1, nr1, bs, bp, bh, bf, bl, bg] f258 f262 from (hKn.mono k264 (fun _ h9 => h9))).tr ((show hKn [xo, ez, eo, bu, nw0, na0, nq0, nr0, nw1, na1, nq1, nr1, bs, bp, bh, bf, bl, bg] f262 f266 from (hKn.mono k268 (fun _ h9 => h9))).tr ((show hKn [xo, ez, eo, bu, nw0, na0, nq0, nr0, nw1, na1, nq1, nr1, bs, bp, bh, bf, bl, bg] f266 f270 from (hKn.mono k272 (fun _ h9 => h9))).tr ((show hKn [xo, ez, eo, bu, nw0, na0, nq0, nr0, nw1, na1, nq1, nr1, bs, bp, bh, bf, bl, bg] f270 f274 from (hKn.mono k276 (fun _ h9 => h9))).tr ((show hKn [xo, ez, eo, bu, nw0, na0, nq0, nr0, nw1, na1, nq1, nr1, bs, bp, bh, bf, bl, bg] f274 f278 from (hKn.mono k280 (fun _ h9 => h9))).tr ((show hKn [xo, ez, eo, bu, nw0, na0, nq0, nr0, nw1, na1, nq1, nr1, bs, bp, bh, bf, bl, bg] f278 f289 from (hKn.mono k291 (fun _ h9 => h9))).tr ((show hKn [xo, ez, eo, bu, nw0, na0, nq0, nr0, nw1, na1, nq1, nr1, bs, bp, bh, bf, bl, bg] f289 f294 from (hKn.mono k296 (fun _ h9 => h9))).tr ((show hKn [xo, ez, eo, bu, nw0, na0, nq0, nr0, nw1, na1, nq1, nr1, bs, bp, bh, bf, bl, bg] f294 f299 from (hKn.mono k301 (fun _ h9 => h9))).tr ((show hKn [xo, ez, eo, bu, nw0, na0, nq0, nr0, nw1, na1, nq1, nr1, bs, bp, bh, bf, bl, bg] f299 f304 from (hKn.mono k306 (fun _ h9 => h9))).tr ((show hKn [xo, ez, eo, bu, nw0, na0, nq0, nr0, nw1, na1, nq1, nr1, bs, bp, bh, bf, bl, bg] f304 f308 from (hKn.mono k310 (fun _ h9 => h9))).tr ((show hKn [xo, ez, eo, bu, nw0, na0, nq0, nr0, nw1, na1, nq1, nr1, bs, bp, bh, bf, bl, bg] f308 f317 from (hKn.mono k319 (fun _ h9 => h9))).tr ((show hKn [xo, ez, eo, bu, nw0, na0, nq0, nr0, nw1, na1, nq1, nr1, bs, bp, bh, bf, bl, bg] f317 f321 from (hKn.mono k323 (fun _ h9 => h9))).tr ((show hKn [xo, ez, eo, bu, nw0, na0, nq0, nr0, nw1, na1, nq1, nr1, bs, bp, bh, bf, bl, bg] f321 f325 from (hKn.mono k327 (fun _ h9 => h9))).tr ((show hKn [xo, ez, eo, bu, nw0, na0, nq0, nr0, nw1, na1, nq1, nr1, bs, bp, bh, bf, bl, bg] f325 f329 from (hKn.mono k331 (fun _ h9 => h9))).tr (show hKn [xo, ez, eo, bu, nw0, na0, nq0, nr0, nw1, na1, nq1, nr1, bs, bp, bh, bf, bl, bg] f329 f333 from (hKn.mono k335 (fun _ h9 => h9)))))))))))))))))))))))), rfl⟩ hw hS (lv_sub hl9 [0, 3, 4, 5, 6, 7] rfl)
                                                  · obtain ⟨hC9, hk9, el9⟩ := hI
                                                    rw [el9] at hl9
                                                    refine lv_iload hx hb dL_isTold_149 (lv_at hl9 0 rfl) ?_
                                                    refine lv_aload hx hb dL_isTold_151 (lv_at hl9 5 rfl) ?_
                                                    refine lv_bipush (v := 9) hx hb dL_isTold_153 (by decide) ?_
                                                    have h337 : f9 lg = some (.inl (cI G, 10, .inl (g10r tk gl a n x cg))) := hk9 _ _ k_lg (Nat.ne_of_beq_eq_false rfl) (hdos _ (List.mem_cons_of_mem _ (List.mem_cons_of_mem _ (List.mem_cons_of_mem _ List.mem_cons_self))))
                                                    refine hp_iald B0 hw h337 (by unfold vp_in; decide) dL_isTold_155 ?_
                                                    refine hp_c (v := (nI cg)) (rfl) ?_
                                                    refine lv_icmp_ge (tgt := 180) hx hb dL_isTold_156 (by decide) (fun c9 => absurd c9 (nI_ge hj (by omega))) (fun _ => ?_)
                                                    refine lv_aload_n hx hb dL_isTold_159 rfl (lv_at hl9 1 rfl) ?_
                                                    refine lv_iload hx hb dL_isTold_160 (lv_at hl9 0 rfl) ?_
                                                    refine hp_SH (As := [.ref xo, .int (nI j)]) (rest := []) B0 hw hS (c_V_givenAt_ok hl G f9 xo ez eo bu nw0 na0 nq0 nr0 nw1 na1 nq1 nr1 bs bp bh bf bl bg S0 S1 gw0 ga0 gw1 ga1 n a cg x sa pk fl gv gh gl hC9 (Nat.lt_of_le_of_lt hl0 (by decide)) (Nat.lt_of_le_of_lt hl1 (by decide)) j (by omega)) mH_L_givenAt qM_L_158 rfl rfl hl9.1 (Nat.le_of_ble_eq_true rfl) ⟨⟨Nat.le_of_ble_eq_true rfl, Nat.le_of_ble_eq_true rfl⟩, (by first | omega | (dsimp only; omega)), (by first | omega | (dsimp only; omega))⟩ dL_isTold_162 (fun E ce q9 f338 H locs hPX hw hS hce hcv hcl => ?_) (fun v f338 H locs hP hw hS => ?_)
                                                    · exact hPX.elim
                                                    · obtain ⟨ev9, hC339, k340⟩ := hP
                                                      subst ev9
                                                      have hC339 : CXW G f338 xo ez eo bu nw0 na0 nq0 nr0 nw1 na1 nq1 nr1 bs bp bh bf bl bg S0 S1 gw0 ga0 gw1 ga1 n a cg x sa pk fl gv gh gl := hC339
                                                      refine W.eq (g2 := F0 m 165 ls [.int ((nI (gv j)))]) rfl ?_
                                                      refine lv_aload_n hx hb dL_isTold_165 rfl (lv_at hl9 4 rfl) ?_
                                                      refine lv_iload hx hb dL_isTold_166 (lv_at hl9 0 rfl) ?_
                                                      have h341 : f9 lr = some (.inl (cI G, 60, .inl (nf gv))) := hk9 _ _ k_lr (Nat.ne_of_beq_eq_false rfl) (hdos _ (List.mem_cons_of_mem _ (List.mem_cons_of_mem _ List.mem_cons_self)))
                                                      have h342 : f338 lr = some (.inl (cI G, 60, .inl (nf gv))) := k340 _ _ h341 (Nat.ne_of_beq_eq_false rfl) (hdos _ (List.mem_cons_of_mem _ (List.mem_cons_of_mem _ List.mem_cons_self)))
                                                      refine hp_iald B0 hw h342 (vp_in_nI (show j < 60 by omega) (by omega)) dL_isTold_168 ?_
                                                      refine hp_c (v := (nI (gv j))) (nf_at (nI_clamp (by omega))) ?_
                                                      refine lv_icmp_eq (tgt := 174) hx hb dL_isTold_169 (by decide) (fun _ => ?_) (fun c9 => absurd rfl c9)
                                                      refine lv_iinc (v := (nI (j + 1))) (lv' := [(5, .int (nI (j + 1))), (0, .ref xo), (1, .ref lq), (2, .ref le), (3, .ref lr), (4, .ref lg)]) hx hb dL_isTold_174 hl9 (k := 0) rfl (nI_1 j) (by decide) rfl (fun ls hl9 => ?_)
                                                      refine lv_goto (tgt := 149) hx hb dL_isTold_177 (by decide) ?_
                                                      exact hp_cs (by omega) (by omega) (ih _ _ H locs ls ⟨hC339, ((show hKn [xo, ez, eo, bu, nw0, na0, nq0, nr0, nw1, na1, nq1, nr1, bs, bp, bh, bf, bl, bg] f f9 from (hKn.mono hk9 (fun _ h9 => h9))).tr (show hKn [xo, ez, eo, bu, nw0, na0, nq0, nr0, nw1, na1, nq1, nr1, bs, bp, bh, bf, bl, bg] f9 f338 from (hKn.mono k340 (fun _ h9 => h9)))), rfl⟩ hw hS (lv_sub hl9 [0, 1, 2, 3, 4, 5] rfl))
                                                  · obtain ⟨hC9, hk9, el9⟩ := hI
                                                    rw [el9] at hl9
                                                    refine W.widen (k := 34 + 60 * 0) (n := 204 + 60 * 0) (by omega) (by omega) ?_
                                                    refine hp_cs (c2 := 34) (s2 := 204) rfl rfl ?_
                                                    refine lv_iload hx hb dL_isTold_149 (lv_at hl9 0 rfl) ?_
                                                    refine lv_aload hx hb dL_isTold_151 (lv_at hl9 5 rfl) ?_
                                                    refine lv_bipush (v := 9) hx hb dL_isTold_153 (by decide) ?_
                                                    have h343 : f9 lg = some (.inl (cI G, 10, .inl (g10r tk gl a n x cg))) := hk9 _ _ k_lg (Nat.ne_of_beq_eq_false rfl) (hdos _ (List.mem_cons_of_mem _ (List.mem_cons_of_mem _ (List.mem_cons_of_mem _ List.mem_cons_self))))
                                                    refine hp_iald B0 hw h343 (by unfold vp_in; decide) dL_isTold_155 ?_
                                                    refine hp_c (v := (nI cg)) (rfl) ?_
                                                    refine lv_icmp_ge (tgt := 180) hx hb dL_isTold_156 (by decide) (fun _ => ?_) (fun c9 => absurd (nI_le (Nat.le_refl _) (by omega)) c9)
                                                    refine lv_aload_n hx hb dL_isTold_180 rfl (lv_at hl9 1 rfl) ?_
                                                    have h344 : f9 xo = some (.inr (4, [.ref ez, .ref eo, .ref bu])) := by obtain ⟨_, _, h9⟩ := hC9; exact h9.1
                                                    refine hp_V (ci := 4) (As := []) (rest := []) B0 hw hS (c_P_given_ok hl G f9 xo ez eo bu nw0 na0 nq0 nr0 nw1 na1 nq1 nr1 bs bp bh bf bl bg S0 S1 gw0 ga0 gw1 ga1 n a cg x sa pk fl gv gh gl hC9 (Nat.lt_of_le_of_lt hl0 (by decide)) (Nat.lt_of_le_of_lt hl1 (by decide))) mV_X4_given qM_L_160 rfl h344 rfl rfl hl9.1 (Nat.le_of_ble_eq_true rfl) ⟨⟨Nat.le_of_ble_eq_true rfl, Nat.le_of_ble_eq_true rfl⟩, Nat.le_of_ble_eq_true rfl, Nat.le_of_ble_eq_true rfl⟩ dL_isTold_181 (fun E ce q9 f345 H locs hPX hw hS hce hcv hcl => ?_) (fun v f345 H locs hP hw hS => ?_)
                                                    · exact hPX.elim
                                                    · obtain ⟨ev9, hC346, k347⟩ := hP
                                                      subst ev9
                                                      refine W.eq (g2 := F0 m 184 ls [.int (nI cg)]) rfl ?_
                                                      refine lv_aload hx hb dL_isTold_184 (lv_at hl9 5 rfl) ?_
                                                      refine lv_bipush (v := 9) hx hb dL_isTold_186 (by decide) ?_
                                                      have h348 : f345 lg = some (.inl (cI G, 10, .inl (g10r tk gl a n x cg))) := k347 _ _ h343 (Nat.ne_of_beq_eq_false rfl) (hdos _ (List.mem_cons_of_mem _ (List.mem_cons_of_mem _ (List.mem_cons_of_mem _ List.mem_cons_self))))
                                                      refine hp_iald B0 hw h348 (by unfold vp_in; decide) dL_isTold_188 ?_
                                                      refine hp_c (v := (nI cg)) (rfl) ?_
                                                      refine lv_icmp_ne (tgt := 308) hx hb dL_isTold_189 (by decide) (fun c9 => absurd rfl c9) (fun _ => ?_)
                                                      refine lv_aload_n hx hb dL_isTold_192 rfl (lv_at hl9 1 rfl) ?_
                                                      have h349 : f345 xo = some (.inr (4, [.ref ez, .ref eo, .ref bu])) := by obtain ⟨_, _, h9⟩ := hC346; exact h9.1
                                                      refine hp_V (ci := 4) (As := []) (rest := []) B0 hw hS (c_P_next_ok hl G f345 xo ez eo bu nw0 na0 nq0 nr0 nw1 na1 nq1 nr1 bs bp bh bf bl bg S0 S1 gw0 ga0 gw1 ga1 n a cg x sa pk fl gv gh gl hC346 (Nat.lt_of_le_of_lt hl0 (by decide)) (Nat.lt_of_le_of_lt hl1 (by decide))) mV_X4_next qM_L_164 rfl h349 rfl rfl hl9.1 (Nat.le_of_ble_eq_true rfl) ⟨⟨Nat.le_of_ble_eq_true rfl, Nat.le_of_ble_eq_true rfl⟩, Nat.le_of_ble_eq_true rfl, Nat.le_of_ble_eq_true rfl⟩ dL_isTold_193 (fun E ce q9 f350 H locs hPX hw hS hce hcv hcl => ?_) (fun v f350 H locs hP hw hS => ?_)
                                                      · exact hPX.elim
                                                      · obtain ⟨ev9, hC351, k352⟩ := hP
                                                        subst ev9
                                                        refine W.eq (g2 := F0 m 196 ls [.int (nI x)]) rfl ?_
                                                        refine lv_aload hx hb dL_isTold_196 (lv_at hl9 5 rfl) ?_
                                                        refine lv_bipush (v := 8) hx hb dL_isTold_198 (by decide) ?_
                                                        have h353 : f350 lg = some (.inl (cI G, 10, .inl (g10r tk gl a n x cg))) := k352 _ _ h348 (Nat.ne_of_beq_eq_false rfl) (hdos _ (List.mem_cons_of_mem _ (List.mem_cons_of_mem _ (List.mem_cons_of_mem _ List.mem_cons_self))))
                                                        refine hp_iald B0 hw h353 (by unfold vp_in; decide) dL_isTold_200 ?_
                                                        refine hp_c (v := (nI x)) (rfl) ?_
                                                        refine lv_icmp_ne (tgt := 308) hx hb dL_isTold_201 (by decide) (fun c9 => absurd rfl c9) (fun _ => ?_)
                                                        refine lv_aload_n hx hb dL_isTold_204 rfl (lv_at hl9 1 rfl) ?_
                                                        refine lv_aload hx hb dL_isTold_205 (lv_at hl9 5 rfl) ?_
                                                        refine lv_bipush (v := 9) hx hb dL_isTold_207 (by decide) ?_
                                                        refine hp_iald B0 hw h353 (by unfold vp_in; decide) dL_isTold_209 ?_
                                                        refine hp_c (v := (nI cg)) (rfl) ?_
                                                        refine hp_SH (As := [.ref xo, .int (nI cg)]) (rest := []) B0 hw hS (c_V_givenAt_I hl G f350 xo ez eo bu nw0 na0 nq0 nr0 nw1 na1 nq1 nr1 bs bp bh bf bl bg S0 S1 gw0 ga0 gw1 ga1 n a cg x sa pk fl gv gh gl hC351 (Nat.lt_of_le_of_lt hl0 (by decide)) (Nat.lt_of_le_of_lt hl1 (by decide)) (nI cg) (by rw [nI_toInt (by omega)]; omega)) mH_L_givenAt qM_L_158 rfl rfl hl9.1 (Nat.le_of_ble_eq_true rfl) ⟨⟨Nat.le_of_ble_eq_true rfl, Nat.le_of_ble_eq_true rfl⟩, Nat.le_of_ble_eq_true rfl, Nat.le_of_ble_eq_true rfl⟩ dL_isTold_210 (fun E ce q9 f354 H locs hPX hw hS hce hcv hcl => ?_) (fun v f354 H locs hP hw hS => ?_)
                                                        · exact hPX.elim
                                                        · obtain ⟨ev9, hC355, k356⟩ := hP
                                                          subst ev9
                                                          have hC355 : CXW G f354 xo ez eo bu nw0 na0 nq0 nr0 nw1 na1 nq1 nr1 bs bp bh bf bl bg S0 S1 gw0 ga0 gw1 ga1 n a cg x sa pk fl gv gh gl := hC355
                                                          refine W.eq (g2 := F0 m 213 ls [.int (-71)]) rfl ?_
                                                          refine lv_bipush (v := (-71)) hx hb dL_isTold_213 (by decide) ?_
                                                          refine lv_icmp_ne (tgt := 308) hx hb dL_isTold_215 (by decide) (fun c9 => absurd (by decide) c9) (fun _ => ?_)
                                                          refine lv_aload_n hx hb dL_isTold_218 rfl (lv_at hl9 1 rfl) ?_
                                                          refine lv_iconst (v := (-1)) hx hb dL_isTold_219 (by decide) ?_
                                                          refine hp_SH (As := [.ref xo, .int (-1)]) (rest := []) B0 hw hS (c_V_givenAt_I hl G f354 xo ez eo bu nw0 na0 nq0 nr0 nw1 na1 nq1 nr1 bs bp bh bf bl bg S0 S1 gw0 ga0 gw1 ga1 n a cg x sa pk fl gv gh gl hC355 (Nat.lt_of_le_of_lt hl0 (by decide)) (Nat.lt_of_le_of_lt hl1 (by decide)) (-1) (fun h9 => absurd h9.1 (by decide))) mH_L_givenAt qM_L_158 rfl rfl hl9.1 (Nat.le_of_ble_eq_true rfl) ⟨⟨Nat.le_of_ble_eq_true rfl, Nat.le_of_ble_eq_true rfl⟩, Nat.le_of_ble_eq_true rfl, Nat.le_of_ble_eq_true rfl⟩ dL_isTold_220 (fun E ce q9 f357 H locs hPX hw hS hce hcv hcl => ?_) (fun v f357 H locs hP hw hS => ?_)
                                                          · exact hPX.elim
                                                          · obtain ⟨ev9, hC358, k359⟩ := hP
                                                            subst ev9
                                                            have hC358 : CXW G f357 xo ez eo bu nw0 na0 nq0 nr0 nw1 na1 nq1 nr1 bs bp bh bf bl bg S0 S1 gw0 ga0 gw1 ga1 n a cg x sa pk fl gv gh gl := hC358
                                                            refine W.eq (g2 := F0 m 223 ls [.int (-71)]) rfl ?_
                                                            refine lv_bipush (v := (-71)) hx hb dL_isTold_223 (by decide) ?_
                                                            refine lv_icmp_ne (tgt := 308) hx hb dL_isTold_225 (by decide) (fun c9 => absurd (by decide) c9) (fun _ => ?_)
                                                            refine lv_aload_n hx hb dL_isTold_228 rfl (lv_at hl9 1 rfl) ?_
                                                            refine lv_ldc (v := 2147483647) hx hb B0.2.2.2.1 (B0.2.2.2.2.1 _ qK_L_68) dL_isTold_229 ?_
                                                            refine hp_SH (As := [.ref xo, .int 2147483647]) (rest := []) B0 hw hS (c_V_givenAt_I hl G f357 xo ez eo bu nw0 na0 nq0 nr0 nw1 na1 nq1 nr1 bs bp bh bf bl bg S0 S1 gw0 ga0 gw1 ga1 n a cg x sa pk fl gv gh gl hC358 (Nat.lt_of_le_of_lt hl0 (by decide)) (Nat.lt_of_le_of_lt hl1 (by decide)) 2147483647 (fun h9 => by have h8 := h9.2; rw [show (2147483647 : Int32).toInt = 2147483647 from by decide] at h8; omega)) mH_L_givenAt qM_L_158 rfl rfl hl9.1 (Nat.le_of_ble_eq_true rfl) ⟨⟨Nat.le_of_ble_eq_true rfl, Nat.le_of_ble_eq_true rfl⟩, Nat.le_of_ble_eq_true rfl, Nat.le_of_ble_eq_true rfl⟩ dL_isTold_231 (fun E ce q9 f360 H locs hPX hw hS hce hcv hcl => ?_) (fun v f360 H locs hP hw hS => ?_)
                                                            · exact hPX.elim
                                                            · obtain ⟨ev9, hC361, k362⟩ := hP
                                                              subst ev9
                                                              have hC361 : CXW G f360 xo ez eo bu nw0 na0 nq0 nr0 nw1 na1 nq1 nr1 bs bp bh bf bl bg S0 S1 gw0 ga0 gw1 ga1 n a cg x sa pk fl gv gh gl := hC361
                                                              refine W.eq (g2 := F0 m 234 ls [.int (-71)]) rfl ?_
                                                              refine lv_bipush (v := (-71)) hx hb dL_isTold_234 (by decide) ?_
                                                              refine lv_icmp_ne (tgt := 308) hx hb dL_isTold_236 (by decide) (fun c9 => absurd (by decide) c9) (fun _ => ?_)
                                                              refine lv_aload_n hx hb dL_isTold_239 rfl (lv_at hl9 1 rfl) ?_
                                                              refine lv_iconst (v := 2) hx hb dL_isTold_240 (by decide) ?_
                                                              refine hp_SH (As := [.ref xo, .int 2]) (rest := []) B0 hw hS (c_V_stateOf_E hl G f360 xo ez eo bu nw0 na0 nq0 nr0 nw1 na1 nq1 nr1 bs bp bh bf bl bg S0 S1 gw0 ga0 gw1 ga1 n a cg x sa pk fl gv gh gl hC361 (Nat.lt_of_le_of_lt hl0 (by decide)) (Nat.lt_of_le_of_lt hl1 (by decide)) 2 (by decide)) mH_L_stateOf qM_L_141 rfl rfl hl9.1 (Nat.le_of_ble_eq_true rfl) ⟨⟨Nat.le_of_ble_eq_true rfl, Nat.le_of_ble_eq_true rfl⟩, Nat.le_of_ble_eq_true rfl, Nat.le_of_ble_eq_true rfl⟩ dL_isTold_241 (fun E ce q9 f363 H locs hPX hw hS hce hcv hcl => ?_) (fun v f363 H locs hP hw hS => ?_)
                                                              · exact hPX.elim
                                                              · obtain ⟨ev9, hC364, k365⟩ := hP
                                                                subst ev9
                                                                have hC364 : CXW G f363 xo ez eo bu nw0 na0 nq0 nr0 nw1 na1 nq1 nr1 bs bp bh bf bl bg S0 S1 gw0 ga0 gw1 ga1 n a cg x sa pk fl gv gh gl := hC364
                                                                refine W.eq (g2 := F0 m 244 ls [.int (-71)]) rfl ?_
                                                                refine lv_bipush (v := (-71)) hx hb dL_isTold_244 (by decide) ?_
                                                                refine lv_icmp_ne (tgt := 308) hx hb dL_isTold_246 (by decide) (fun c9 => absurd (by decide) c9) (fun _ => ?_)
                                                                refine lv_aload_n hx hb dL_isTold_249 rfl (lv_at hl9 1 rfl) ?_
                                                                refine lv_ldc (v := (-2147483648)) hx hb B0.2.2.2.1 (B0.2.2.2.2.1 _ qK_L_67) dL_isTold_250 ?_
                                                                refine hp_SH (As := [.ref xo, .int (-2147483648)]) (rest := []) B0 hw hS (c_V_stateOf_E hl G f363 xo ez eo bu nw0 na0 nq0 nr0 nw1 na1 nq1 nr1 bs bp bh bf bl bg S0 S1 gw0 ga0 gw1 ga1 n a cg x sa pk fl gv gh gl hC364 (Nat.lt_of_le_of_lt hl0 (by decide)) (Nat.lt_of_le_of_lt hl1 (by decide)) (-2147483648) (by decide)) mH_L_stateOf qM_L_141 rfl rfl hl9.1 (Nat.le_of_ble_eq_true rfl) ⟨⟨Nat.le_of_ble_eq_true rfl, Nat.le_of_ble_eq_true rfl⟩, Nat.le_of_ble_eq_true rfl, Nat.le_of_ble_eq_true rfl⟩ dL_isTold_252 (fun E ce q9 f366 H locs hPX hw hS hce hcv hcl => ?_) (fun v f366 H locs hP hw hS => ?_)
                                                                · exact hPX.elim
                                                                · obtain ⟨ev9, hC367, k368⟩ := hP
                                                                  subst ev9
                                                                  have hC367 : CXW G f366 xo ez eo bu nw0 na0 nq0 nr0 nw1 na1 nq1 nr1 bs bp bh bf bl bg S0 S1 gw0 ga0 gw1 ga1 n a cg x sa pk fl gv gh gl := hC367
                                                                  refine W.eq (g2 := F0 m 255 ls [.int (-71)]) rfl ?_
                                                                  refine lv_bipush (v := (-71)) hx hb dL_isTold_255 (by decide) ?_
                                                                  refine lv_icmp_ne (tgt := 308) hx hb dL_isTold_257 (by decide) (fun c9 => absurd (by decide) c9) (fun _ => ?_)
                                                                  refine lv_aload_n hx hb dL_isTold_260 rfl (lv_at hl9 1 rfl) ?_
                                                                  refine lv_iconst (v := 0) hx hb dL_isTold_261 (by decide) ?_
                                                                  refine lv_bipush (v := 6) hx hb dL_isTold_262 (by decide) ?_
                                                                  refine hp_SH (As := [.ref xo, .int 0, .int 6]) (rest := []) B0 hw hS (c_V_asked_O0 hl G f366 xo ez eo bu nw0 na0 nq0 nr0 nw1 na1 nq1 nr1 bs bp bh bf bl bg S0 S1 gw0 ga0 gw1 ga1 n a cg x sa pk fl gv gh gl hC367 (Nat.lt_of_le_of_lt hl0 (by decide)) (Nat.lt_of_le_of_lt hl1 (by decide)) 6 (by decide)) mH_L_asked qM_L_155 rfl rfl hl9.1 (Nat.le_of_ble_eq_true rfl) ⟨⟨Nat.le_of_ble_eq_true rfl, Nat.le_of_ble_eq_true rfl⟩, Nat.le_of_ble_eq_true rfl, Nat.le_of_ble_eq_true rfl⟩ dL_isTold_264 (fun E ce q9 f369 H locs hPX hw hS hce hcv hcl => ?_) (fun v f369 H locs hP hw hS => ?_)
                                                                  · exact hPX.elim
                                                                  · obtain ⟨ev9, hC370, k371⟩ := hP
                                                                    subst ev9
                                                                    have hC370 : CXW G f369 xo ez eo bu nw0 na0 nq0 nr0 nw1 na1 nq1 nr1 bs bp bh bf bl bg S0 S1 gw0 ga0 gw1 ga1 n a cg x sa pk fl gv gh gl := hC370
                                                                    refine W.eq (g2 := F0 m 267 ls [.int (-71)]) rfl ?_
                                                                    refine lv_bipush (v := (-71)) hx hb dL_isTold_267 (by decide) ?_
                                                                    refine lv_icmp_ne (tgt := 308) hx hb dL_isTold_269 (by decide) (fun c9 => absurd (by decide) c9) (fun _ => ?_)
                                                                    refine lv_aload_n hx hb dL_isTold_272 rfl (lv_at hl9 1 rfl) ?_
                                                                    refine lv_iconst (v := 2) hx hb dL_isTold_273 (by decide) ?_
                                                                    refine lv_iconst (v := 0) hx hb dL_isTold_274 (by decide) ?_
                                                                    refine hp_SH (As := [.ref xo, .int 2, .int 0]) (rest := []) B0 hw hS (c_V_asked_E hl G f369 xo ez eo bu nw0 na0 nq0 nr0 nw1 na1 nq1 nr1 bs bp bh bf bl bg S0 S1 gw0 ga0 gw1 ga1 n a cg x sa pk fl gv gh gl hC370 (Nat.lt_of_le_of_lt hl0 (by decide)) (Nat.lt_of_le_of_lt hl1 (by decide)) 2 0 (by decide)) mH_L_asked qM_L_155 rfl rfl hl9.1 (Nat.le_of_ble_eq_true rfl) ⟨⟨Nat.le_of_ble_eq_true rfl, Nat.le_of_ble_eq_true rfl⟩, Nat.le_of_ble_eq_true rfl, Nat.le_of_ble_eq_true rfl⟩ dL_isTold_275 (fun E ce q9 f372 H locs hPX hw hS hce hcv hcl => ?_) (fun v f372 H locs hP hw hS => ?_)
                                                                    · exact hPX.elim
                                                                    · obtain ⟨ev9, hC373, k374⟩ := hP
                                                                      subst ev9
                                                                      have hC373 : CXW G f372 xo ez eo bu nw0 na0 nq0 nr0 nw1 na1 nq1 nr1 bs bp bh bf bl bg S0 S1 gw0 ga0 gw1 ga1 n a cg x sa pk fl gv gh gl := hC373
                                                                      refine W.eq (g2 := F0 m 278 ls [.int (-71)]) rfl ?_
                                                                      refine lv_bipush (v := (-71)) hx hb dL_isTold_278 (by decide) ?_
                                                                      refine lv_icmp_ne (tgt := 308) hx hb dL_isTold_280 (by decide) (fun c9 => absurd (by decide) c9) (fun _ => ?_)
                                                                      refine lv_aload_n hx hb dL_isTold_283 rfl (lv_at hl9 1 rfl) ?_
                                                                      refine lv_iconst (v := 0) hx hb dL_isTold_284 (by decide) ?_
                                                                      refine lv_iconst (v := (-1)) hx hb dL_isTold_285 (by decide) ?_
                                                                      refine hp_SH (As := [.ref xo, .int 0, .int (-1)]) (rest := []) B0 hw hS (c_V_asked_O0 hl G f372 xo ez eo bu nw0 na0 nq0 nr0 nw1 na1 nq1 nr1 bs bp bh bf bl bg S0 S1 gw0 ga0 gw1 ga1 n a cg x sa pk fl gv gh gl hC373 (Nat.lt_of_le_of_lt hl0 (by decide)) (Nat.lt_of_le_of_lt hl1 (by decide)) (-1) (by decide)) mH_L_asked qM_L_155 rfl rfl hl9.1 (Nat.le_of_ble_eq_true rfl) ⟨⟨Nat.le_of_ble_eq_true rfl, Nat.le_of_ble_eq_true rfl⟩, Nat.le_of_ble_eq_true rfl, Nat.le_of_ble_eq_true rfl⟩ dL_isTold_286 (fun E ce q9 f375 H locs hPX hw hS hce hcv hcl => ?_) (fun v f375 H locs hP hw hS => ?_)
                                                                      · exact hPX.elim
                                                                      · obtain ⟨ev9, hC376, k377⟩ := hP
                                                                        subst ev9
                                                                        have hC376 : CXW G f375 xo ez eo bu nw0 na0 nq0 nr0 nw1 na1 nq1 nr1 bs bp bh bf bl bg S0 S1 gw0 ga0 gw1 ga1 n a cg x sa pk fl gv gh gl := hC376
                                                                        refine W.eq (g2 := F0 m 289 ls [.int (-71)]) rfl ?_
                                                                        refine lv_bipush (v := (-71)) hx hb dL_isTold_289 (by decide) ?_
                                                                        refine lv_icmp_ne (tgt := 308) hx hb dL_isTold_291 (by decide) (fun c9 => absurd (by decide) c9) (fun _ => ?_)
                                                                        refine lv_aload_n hx hb dL_isTold_294 rfl (lv_at hl9 1 rfl) ?_
                                                                        refine lv_iconst (v := (-1)) hx hb dL_isTold_295 (by decide) ?_
                                                                        refine hp_SH (As := [.ref xo, .int (-1)]) (rest := []) B0 hw hS (c_V_underWay_E hl G f375 xo ez eo bu nw0 na0 nq0 nr0 nw1 na1 nq1 nr1 bs bp bh bf bl bg S0 S1 gw0 ga0 gw1 ga1 n a cg x sa pk fl gv gh gl hC376 (Nat.lt_of_le_of_lt hl0 (by decide)) (Nat.lt_of_le_of_lt hl1 (by decide)) (-1) (by decide)) mH_L_underWay qM_L_150 rfl rfl hl9.1 (Nat.le_of_ble_eq_true rfl) ⟨⟨Nat.le_of_ble_eq_true rfl, Nat.le_of_ble_eq_true rfl⟩, Nat.le_of_ble_eq_true rfl, Nat.le_of_ble_eq_true rfl⟩ dL_isTold_296 (fun E ce q9 f378 H locs hPX hw hS hce hcv hcl => ?_) (fun v f378 H locs hP hw hS => ?_)
                                                                        · exact hPX.elim
                                                                        · obtain ⟨ev9, hC379, k380⟩ := hP
                                                                          subst ev9
                                                                          have hC379 : CXW G f378 xo ez eo bu nw0 na0 nq0 nr0 nw1 na1 nq1 nr1 bs bp bh bf bl bg S0 S1 gw0 ga0 gw1 ga1 n a cg x sa pk fl gv gh gl := hC379
                                                                          refine W.eq (g2 := F0 m 299 ls [.int (-71)]) rfl ?_
                                                                          refine lv_bipush (v := (-71)) hx hb dL_isTold_299 (by decide) ?_
                                                                          refine lv_icmp_ne (tgt := 308) hx hb dL_isTold_301 (by decide) (fun c9 => absurd (by decide) c9) (fun _ => ?_)
                                                                          refine lv_iconst (v := 1) hx hb dL_isTold_304 (by decide) ?_
                                                                          refine lv_goto (tgt := 309) hx hb dL_isTold_305 (by decide) ?_
                                                                          exact hp_zret (v := 1) B0 hw hS hr ⟨Nat.le_of_ble_eq_true rfl, Nat.le_of_ble_eq_true rfl⟩ (rfl) dL_isTold_309 (⟨rfl, hC379, ((show hKn [xo, ez, eo, bu, nw0, na0, nq0, nr0, nw1, na1, nq1, nr1, bs, bp, bh, bf, bl, bg] f f9 from (hKn.mono hk9 (fun _ h9 => h9))).tr ((show hKn [xo, ez, eo, bu, nw0, na0, nq0, nr0, nw1, na1, nq1, nr1, bs, bp, bh, bf, bl, bg] f9 f345 from (hKn.mono k347 (fun _ h9 => h9))).tr ((show hKn [xo, ez, eo, bu, nw0, na0, nq0, nr0, nw1, na1, nq1, nr1, bs, bp, bh, bf, bl, bg] f345 f350 from (hKn.mono k352 (fun _ h9 => h9))).tr ((show hKn [xo, ez, eo, bu, nw0, na0, nq0, nr0, nw1, na1, nq1, nr1, bs, bp, bh, bf, bl, bg] f350 f354 from (hKn.mono k356 (fun _ h9 => h9))).tr ((show hKn [xo, ez, eo, bu, nw0, na0, nq0, nr0, nw1, na1, nq1, nr1, bs, bp, bh, bf, bl, bg] f354 f357 from (hKn.mono k359 (fun _ h9 => h9))).tr ((show hKn [xo, ez, eo, bu, nw0, na0, nq0, nr0, nw1, na1, nq1, nr1, bs, bp, bh, bf, bl, bg] f357 f360 from (hKn.mono k362 (fun _ h9 => h9))).tr ((show hKn [xo, ez, eo, bu, nw0, na0, nq0, nr0, nw1, na1, nq1, nr1, bs, bp, bh, bf, bl, bg] f360 f363 from (hKn.mono k365 (fun _ h9 => h9))).tr ((show hKn [xo, ez, eo, bu, nw0, na0, nq0, nr0, nw1, na1, nq1, nr1, bs, bp, bh, bf, bl, bg] f363 f366 from (hKn.mono k368 (fun _ h9 => h9))).tr ((show hKn [xo, ez, eo, bu, nw0, na0, nq0, nr0, nw1, na1, nq1, nr1, bs, bp, bh, bf, bl, bg] f366 f369 from (hKn.mono k371 (fun _ h9 => h9))).tr ((show hKn [xo, ez, eo, bu, nw0, na0, nq0, nr0, nw1, na1, nq1, nr1, bs, bp, bh, bf, bl, bg] f369 f372 from (hKn.mono k374 (fun _ h9 => h9))).tr ((show hKn [xo, ez, eo, bu, nw0, na0, nq0, nr0, nw1, na1, nq1, nr1, bs, bp, bh, bf, bl, bg] f372 f375 from (hKn.mono k377 (fun _ h9 => h9))).tr (show hKn [xo, ez, eo, bu, nw0, na0, nq0, nr0, nw1, na1, nq1, nr1, bs, bp, bh, bf, bl, bg] f375 f378 from (hKn.mono k380 (fun _ h9 => h9))))))))))))))⟩)
                                · refine lv_iconst (v := 1) hx hb dL_isTold_60 (by decide) ?_
                                  refine lv_goto (tgt := 65) hx hb dL_isTold_61 (by decide) ?_
                                  refine lv_icmp_ne (tgt := 99) hx hb dL_isTold_65 (by decide) (fun c9 => absurd c298 c9) (fun _ => ?_)
                                  refine lv_aload_n hx hb dL_isTold_68 rfl (lv_at hl9 3 rfl) ?_
                                  refine lv_iload hx hb dL_isTold_69 (lv_at hl9 1 rfl) ?_
                                  refine hp_SH (As := [.ref xo, .int 1]) (rest := []) B0 hw hS (c_V_underWay_1 hl G f294 xo ez eo bu nw0 na0 nq0 nr0 nw1 na1 nq1 nr1 bs bp bh bf bl bg S0 S1 gw0 ga0 gw1 ga1 n a cg x sa pk fl gv gh gl hC295 (Nat.lt_of_le_of_lt hl0 (by decide)) (Nat.lt_of_le_of_lt hl1 (by decide)) ) mH_L_underWay qM_L_150 rfl rfl hl9.1 (Nat.le_of_ble_eq_true rfl) ⟨⟨Nat.le_of_ble_eq_true rfl, Nat.le_of_ble_eq_true rfl⟩, Nat.le_of_ble_eq_true rfl, Nat.le_of_ble_eq_true rfl⟩ dL_isTold_71 (fun E ce q9 f381 H locs hPX hw hS hce hcv hcl => ?_) (fun v f381 H locs hP hw hS => ?_)
                                  · exact hPX.elim
                                  · obtain ⟨ev9, hC382, k383⟩ := hP
                                    subst ev9
                                    have hC382 : CXW G f381 xo ez eo bu nw0 na0 nq0 nr0 nw1 na1 nq1 nr1 bs bp bh bf bl bg S0 S1 gw0 ga0 gw1 ga1 n a cg x sa pk fl gv gh gl := hC382
                                    refine W.eq (g2 := F0 m 74 ls [.int ((nI S1.2.2.2.2.2.2.2.2.length))]) rfl ?_
                                    refine lv_aload_n hx hb dL_isTold_74 rfl (lv_at hl9 5 rfl) ?_
                                    refine lv_iload hx hb dL_isTold_75 (lv_at hl9 0 rfl) ?_
                                    refine lv_bipush (v := 7) hx hb dL_isTold_77 (by decide) ?_
                                    refine lv_iadd hx hb dL_isTold_79 ?_
                                    refine hp_c (v := 15) (by decide) ?_
                                    have h384 : f381 le = some (.inl (cI G, 16, .inl (jE (eSt S0) (eSt S1)))) := k383 _ _ h297 (Nat.ne_of_beq_eq_false rfl) (hdos _ (List.mem_cons_of_mem _ List.mem_cons_self))
                                    refine hp_iald B0 hw h384 (by unfold vp_in; decide) dL_isTold_80 ?_
                                    refine hp_c (v := (nI S1.2.2.2.2.2.2.2.2.length)) (rfl) ?_
                                    refine lv_icmp_ne (tgt := 99) hx hb dL_isTold_81 (by decide) (fun c9 => absurd rfl c9) (fun _ => ?_)
                                    refine lv_aload_n hx hb dL_isTold_84 rfl (lv_at hl9 3 rfl) ?_
                                    refine lv_iload hx hb dL_isTold_85 (lv_at hl9 1 rfl) ?_
                                    have h385 : f381 xo = some (.inr (4, [.ref ez, .ref eo, .ref bu])) := by obtain ⟨_, _, h9⟩ := hC382; exact h9.1
                                    refine hp_V (ci := 4) (As := [.int 1]) (rest := []) B0 hw hS (c_P_missed_1 hl G f381 xo ez eo bu nw0 na0 nq0 nr0 nw1 na1 nq1 nr1 bs bp bh bf bl bg S0 S1 gw0 ga0 gw1 ga1 n a cg x sa pk fl gv gh gl hC382 (Nat.lt_of_le_of_lt hl0 (by decide)) (Nat.lt_of_le_of_lt hl1 (by decide))) mV_X4_missed qM_L_152 rfl h385 rfl rfl hl9.1 (Nat.le_of_ble_eq_true rfl) ⟨⟨Nat.le_of_ble_eq_true rfl, Nat.le_of_ble_eq_true rfl⟩, Nat.le_of_ble_eq_true rfl, Nat.le_of_ble_eq_true rfl⟩ dL_isTold_87 (fun E ce q9 f386 H locs hPX hw hS hce hcv hcl => ?_) (fun v f386 H locs hP hw hS => ?_)
                                    · exact hPX.elim
                                    · obtain ⟨ev9, hC387, k388⟩ := hP
                                      subst ev9
                                      refine W.eq (g2 := F0 m 90 ls [.int S1.2.2.2.2.2.1]) rfl ?_
                                      refine lv_aload_n hx hb dL_isTold_90 rfl (lv_at hl9 5 rfl) ?_
                                      refine lv_iload hx hb dL_isTold_91 (lv_at hl9 0 rfl) ?_
                                      refine lv_iconst (v := 5) hx hb dL_isTold_93 (by decide) ?_
                                      refine lv_iadd hx hb dL_isTold_94 ?_
                                      refine hp_c (v := 13) (by decide) ?_
                                      have h389 : f386 le = some (.inl (cI G, 16, .inl (jE (eSt S0) (eSt S1)))) := k388 _ _ h384 (Nat.ne_of_beq_eq_false rfl) (hdos _ (List.mem_cons_of_mem _ List.mem_cons_self))
                                      refine hp_iald B0 hw h389 (by unfold vp_in; decide) dL_isTold_95 ?_
                                      refine hp_c (v := S1.2.2.2.2.2.1) (rfl) ?_
                                      refine lv_icmp_eq (tgt := 101) hx hb dL_isTold_96 (by decide) (fun _ => ?_) (fun c9 => absurd rfl c9)
                                      refine lv_iconst (v := 0) hx hb dL_isTold_101 (by decide) ?_
                                      refine lv_istore (lv' := [(7, .int 0), (6, .int 8), (5, .int 1), (0, .ref xo), (1, .ref lq), (2, .ref le), (3, .ref lr), (4, .ref lg)]) hx hb dL_isTold_102 hl9 (by decide) rfl (fun ls hl9 => ?_)
                                      refine lv_iload hx hb dL_isTold_104 (lv_at hl9 0 rfl) ?_
                                      refine lv_bipush (v := 6) hx hb dL_isTold_106 (by decide) ?_
                                      refine lv_icmp_ge (tgt := 140) hx hb dL_isTold_108 (by decide) (fun c9 => absurd c9 (by decide)) (fun _ => ?_)
                                      refine lv_aload_n hx hb dL_isTold_111 rfl (lv_at hl9 3 rfl) ?_
                                      refine lv_iload hx hb dL_isTold_112 (lv_at hl9 2 rfl) ?_
                                      refine lv_iload hx hb dL_isTold_114 (lv_at hl9 0 rfl) ?_
                                      refine hp_SH (As := [.ref xo, .int 1, .int 0]) (rest := []) B0 hw hS (c_V_asked_1 hl G f386 xo ez eo bu nw0 na0 nq0 nr0 nw1 na1 nq1 nr1 bs bp bh bf bl bg S0 S1 gw0 ga0 gw1 ga1 n a cg x sa pk fl gv gh gl hC387 (Nat.lt_of_le_of_lt hl0 (by decide)) (Nat.lt_of_le_of_lt hl1 (by decide)) 0 (by decide)) mH_L_asked qM_L_155 rfl rfl hl9.1 (Nat.le_of_ble_eq_true rfl) ⟨⟨Nat.le_of_ble_eq_true rfl, Nat.le_of_ble_eq_true rfl⟩, Nat.le_of_ble_eq_true rfl, Nat.le_of_ble_eq_true rfl⟩ dL_isTold_116 (fun E ce q9 f390 H locs hPX hw hS hce hcv hcl => ?_) (fun v f390 H locs hP hw hS => ?_)
                                      · exact hPX.elim
                                      · obtain ⟨ev9, hC391, k392⟩ := hP
                                        subst ev9
                                        have hC391 : CXW G f390 xo ez eo bu nw0 na0 nq0 nr0 nw1 na1 nq1 nr1 bs bp bh bf bl bg S0 S1 gw0 ga0 gw1 ga1 n a cg x sa pk fl gv gh gl := hC391
                                        refine W.eq (g2 := F0 m 119 ls [.int ((S1.2.2.2.2.2.2.2.1 0))]) rfl ?_
                                        refine lv_aload_n hx hb dL_isTold_119 rfl (lv_at hl9 4 rfl) ?_
                                        refine lv_bipush (v := 6) hx hb dL_isTold_120 (by decide) ?_
                                        refine lv_iload hx hb dL_isTold_122 (lv_at hl9 2 rfl) ?_
                                        refine lv_imul hx hb dL_isTold_124 ?_
                                        refine hp_c (v := 6) (by decide) ?_
                                        refine lv_iload hx hb dL_isTold_125 (lv_at hl9 0 rfl) ?_
                                        refine lv_iadd hx hb dL_isTold_127 ?_
                                        refine hp_c (v := 6) (by decide) ?_
                                        have h393 : f278 lq = some (.inl (cI G, 12, .inl (j6r S0.2.2.2.2.2.2.2.1 S1.2.2.2.2.2.2.2.1))) := k280 _ _ h277 (Nat.ne_of_beq_eq_false rfl) (hdos _ List.mem_cons_self)
                                        have h394 : f289 lq = some (.inl (cI G, 12, .inl (j6r S0.2.2.2.2.2.2.2.1 S1.2.2.2.2.2.2.2.1))) := k291 _ _ h393 (Nat.ne_of_beq_eq_false rfl) (hdos _ List.mem_cons_self)
                                        have h395 : f294 lq = some (.inl (cI G, 12, .inl (j6r S0.2.2.2.2.2.2.2.1 S1.2.2.2.2.2.2.2.1))) := k296 _ _ h394 (Nat.ne_of_beq_eq_false rfl) (hdos _ List.mem_cons_self)
                                        have h396 : f381 lq = some (.inl (cI G, 12, .inl (j6r S0.2.2.2.2.2.2.2.1 S1.2.2.2.2.2.2.2.1))) := k383 _ _ h395 (Nat.ne_of_beq_eq_false rfl) (hdos _ List.mem_cons_self)
                                        have h397 : f386 lq = some (.inl (cI G, 12, .inl (j6r S0.2.2.2.2.2.2.2.1 S1.2.2.2.2.2.2.2.1))) := k388 _ _ h396 (Nat.ne_of_beq_eq_false rfl) (hdos _ List.mem_cons_self)
                                        have h398 : f390 lq = some (.inl (cI G, 12, .inl (j6r S0.2.2.2.2.2.2.2.1 S1.2.2.2.2.2.2.2.1))) := k392 _ _ h397 (Nat.ne_of_beq_eq_false rfl) (hdos _ List.mem_cons_self)
                                        refine hp_iald B0 hw h398 (by unfold vp_in; decide) dL_isTold_128 ?_
                                        refine hp_c (v := (S1.2.2.2.2.2.2.2.1 0)) (rfl) ?_
                                        refine lv_icmp_eq (tgt := 134) hx hb dL_isTold_129 (by decide) (fun _ => ?_) (fun c9 => absurd rfl c9)
                                        refine lv_iinc (v := 1) (lv' := [(7, .int 1), (6, .int 8), (5, .int 1), (0, .ref xo), (1, .ref lq), (2, .ref le), (3, .ref lr), (4, .ref lg)]) hx hb dL_isTold_134 hl9 (k := 0) rfl (by decide) (by decide) rfl (fun ls hl9 => ?_)
                                        refine lv_goto (tgt := 104) hx hb dL_isTold_137 (by decide) ?_
                                        refine lv_iload hx hb dL_isTold_104 (lv_at hl9 0 rfl) ?_
                                        refine lv_bipush (v := 6) hx hb dL_isTold_106 (by decide) ?_
                                        refine lv_icmp_ge (tgt := 140) hx hb dL_isTold_108 (by decide) (fun c9 => absurd c9 (by decide)) (fun _ => ?_)
                                        refine lv_aload_n hx hb dL_isTold_111 rfl (lv_at hl9 3 rfl) ?_
                                        refine lv_iload hx hb dL_isTold_112 (lv_at hl9 2 rfl) ?_
                                        refine lv_iload hx hb dL_isTold_114 (lv_at hl9 0 rfl) ?_
                                        refine hp_SH (As := [.ref xo, .int 1, .int 1]) (rest := []) B0 hw hS (c_V_asked_1 hl G f390 xo ez eo bu nw0 na0 nq0 nr0 nw1 na1 nq1 nr1 bs bp bh bf bl bg S0 S1 gw0 ga0 gw1 ga1 n a cg x sa pk fl gv gh gl hC391 (Nat.lt_of_le_of_lt hl0 (by decide)) (Nat.lt_of_le_of_lt hl1 (by decide)) 1 (by decide)) mH_L_asked qM_L_155 rfl rfl hl9.1 (Nat.le_of_ble_eq_true rfl) ⟨⟨Nat.le_of_ble_eq_true rfl, Nat.le_of_ble_eq_true rfl⟩, Nat.le_of_ble_eq_true rfl, Nat.le_of_ble_eq_true rfl⟩ dL_isTold_116 (fun E ce q9 f399 H locs hPX hw hS hce hcv hcl => ?_) (fun v f399 H locs hP hw hS => ?_)
                                        · exact hPX.elim
                                        · obtain ⟨ev9, hC400, k401⟩ := hP
                                          subst ev9
                                          have hC400 : CXW G f399 xo ez eo bu nw0 na0 nq0 nr0 nw1 na1 nq1 nr1 bs bp bh bf bl bg S0 S1 gw0 ga0 gw1 ga1 n a cg x sa pk fl gv gh gl := hC400
                                          refine W.eq (g2 := F0 m 119 ls [.int ((S1.2.2.2.2.2.2.2.1 1))]) rfl ?_
                                          refine lv_aload_n hx hb dL_isTold_119 rfl (lv_at hl9 4 rfl) ?_
                                          refine lv_bipush (v := 6) hx hb dL_isTold_120 (by decide) ?_
                                          refine lv_iload hx hb dL_isTold_122 (lv_at hl9 2 rfl) ?_
                                          refine lv_imul hx hb dL_isTold_124 ?_
                                          refine hp_c (v := 6) (by decide) ?_
                                          refine lv_iload hx hb dL_isTold_125 (lv_at hl9 0 rfl) ?_
                                          refine lv_iadd hx hb dL_isTold_127 ?_
                                          refine hp_c (v := 7) (by decide) ?_
                                          have h402 : f399 lq = some (.inl (cI G, 12, .inl (j6r S0.2.2.2.2.2.2.2.1 S1.2.2.2.2.2.2.2.1))) := k401 _ _ h398 (Nat.ne_of_beq_eq_false rfl) (hdos _ List.mem_cons_self)
                                          refine hp_iald B0 hw h402 (by unfold vp_in; decide) dL_isTold_128 ?_
                                          refine hp_c (v := (S1.2.2.2.2.2.2.2.1 1)) (rfl) ?_
                                          refine lv_icmp_eq (tgt := 134) hx hb dL_isTold_129 (by decide) (fun _ => ?_) (fun c9 => absurd rfl c9)
                                          refine lv_iinc (v := 2) (lv' := [(7, .int 2), (6, .int 8), (5, .int 1), (0, .ref xo), (1, .ref lq), (2, .ref le), (3, .ref lr), (4, .ref lg)]) hx hb dL_isTold_134 hl9 (k := 0) rfl (by decide) (by decide) rfl (fun ls hl9 => ?_)
                                          refine lv_goto (tgt := 104) hx hb dL_isTold_137 (by decide) ?_
                                          refine lv_iload hx hb dL_isTold_104 (lv_at hl9 0 rfl) ?_
                                          refine lv_bipush (v := 6) hx hb dL_isTold_106 (by decide) ?_
                                          refine lv_icmp_ge (tgt := 140) hx hb dL_isTold_108 (by decide) (fun c9 => absurd c9 (by decide)) (fun _ => ?_)
                                          refine lv_aload_n hx hb dL_isTold_111 rfl (lv_at hl9 3 rfl) ?_
                                          refine lv_iload hx hb dL_isTold_112 (lv_at hl9 2 rfl) ?_
                                          refine lv_iload hx hb dL_isTold_114 (lv_at hl9 0 rfl) ?_
                                          refine hp_SH (As := [.ref xo, .int 1, .int 2]) (rest := []) B0 hw hS (c_V_asked_1 hl G f399 xo ez eo bu nw0 na0 nq0 nr0 nw1 na1 nq1 nr1 bs bp bh bf bl bg S0 S1 gw0 ga0 gw1 ga1 n a cg x sa pk fl gv gh gl hC400 (Nat.lt_of_le_of_lt hl0 (by decide)) (Nat.lt_of_le_of_lt hl1 (by decide)) 2 (by decide)) mH_L_asked qM_L_155 rfl rfl hl9.1 (Nat.le_of_ble_eq_true rfl) ⟨⟨Nat.le_of_ble_eq_true rfl, Nat.le_of_ble_eq_true rfl⟩, Nat.le_of_ble_eq_true rfl, Nat.le_of_ble_eq_true rfl⟩ dL_isTold_116 (fun E ce q9 f403 H locs hPX hw hS hce hcv hcl => ?_) (fun v f403 H locs hP hw hS => ?_)
                                          · exact hPX.elim
                                          · obtain ⟨ev9, hC404, k405⟩ := hP
                                            subst ev9
                                            have hC404 : CXW G f403 xo ez eo bu nw0 na0 nq0 nr0 nw1 na1 nq1 nr1 bs bp bh bf bl bg S0 S1 gw0 ga0 gw1 ga1 n a cg x sa pk fl gv gh gl := hC404
                                            refine W.eq (g2 := F0 m 119 ls [.int ((S1.2.2.2.2.2.2.2.1 2))]) rfl ?_
                                            refine lv_aload_n hx hb dL_isTold_119 rfl (lv_at hl9 4 rfl) ?_
                                            refine lv_bipush (v := 6) hx hb dL_isTold_120 (by decide) ?_
                                            refine lv_iload hx hb dL_isTold_122 (lv_at hl9 2 rfl) ?_
                                            refine lv_imul hx hb dL_isTold_124 ?_
                                            refine hp_c (v := 6) (by decide) ?_
                                            refine lv_iload hx hb dL_isTold_125 (lv_at hl9 0 rfl) ?_
                                            refine lv_iadd hx hb dL_isTold_127 ?_
                                            refine hp_c (v := 8) (by decide) ?_
                                            have h406 : f403 lq = some (.inl (cI G, 12, .inl (j6r S0.2.2.2.2.2.2.2.1 S1.2.2.2.2.2.2.2.1))) := k405 _ _ h402 (Nat.ne_of_beq_eq_false rfl) (hdos _ List.mem_cons_self)
                                            refine hp_iald B0 hw h406 (by unfold vp_in; decide) dL_isTold_128 ?_
                                            refine hp_c (v := (S1.2.2.2.2.2.2.2.1 2)) (rfl) ?_
                                            refine lv_icmp_eq (tgt := 134) hx hb dL_isTold_129 (by decide) (fun _ => ?_) (fun c9 => absurd rfl c9)
                                            refine lv_iinc (v := 3) (lv' := [(7, .int 3), (6, .int 8), (5, .int 1), (0, .ref xo), (1, .ref lq), (2, .ref le), (3, .ref lr), (4, .ref lg)]) hx hb dL_isTold_134 hl9 (k := 0) rfl (by decide) (by decide) rfl (fun ls hl9 => ?_)
                                            refine lv_goto (tgt := 104) hx hb dL_isTold_137 (by decide) ?_
                                            refine lv_iload hx hb dL_isTold_104 (lv_at hl9 0 rfl) ?_
                                            refine lv_bipush (v := 6) hx hb dL_isTold_106 (by decide) ?_
                                            refine lv_icmp_ge (tgt := 140) hx hb dL_isTold_108 (by decide) (fun c9 => absurd c9 (by decide)) (fun _ => ?_)
                                            refine lv_aload_n hx hb dL_isTold_111 rfl (lv_at hl9 3 rfl) ?_
                                            refine lv_iload hx hb dL_isTold_112 (lv_at hl9 2 rfl) ?_
                                            refine lv_iload hx hb dL_isTold_114 (lv_at hl9 0 rfl) ?_
                                            refine hp_SH (As := [.ref xo, .int 1, .int 3]) (rest := []) B0 hw hS (c_V_asked_1 hl G f403 xo ez eo bu nw0 na0 nq0 nr0 nw1 na1 nq1 nr1 bs bp bh bf bl bg S0 S1 gw0 ga0 gw1 ga1 n a cg x sa pk fl gv gh gl hC404 (Nat.lt_of_le_of_lt hl0 (by decide)) (Nat.lt_of_le_of_lt hl1 (by decide)) 3 (by decide)) mH_L_asked qM_L_155 rfl rfl hl9.1 (Nat.le_of_ble_eq_true rfl) ⟨⟨Nat.le_of_ble_eq_true rfl, Nat.le_of_ble_eq_true rfl⟩, Nat.le_of_ble_eq_true rfl, Nat.le_of_ble_eq_true rfl⟩ dL_isTold_116 (fun E ce q9 f407 H locs hPX hw hS hce hcv hcl => ?_) (fun v f407 H locs hP hw hS => ?_)
                                            · exact hPX.elim
                                            · obtain ⟨ev9, hC408, k409⟩ := hP
                                              subst ev9
                                              have hC408 : CXW G f407 xo ez eo bu nw0 na0 nq0 nr0 nw1 na1 nq1 nr1 bs bp bh bf bl bg S0 S1 gw0 ga0 gw1 ga1 n a cg x sa pk fl gv gh gl := hC408
                                              refine W.eq (g2 := F0 m 119 ls [.int ((S1.2.2.2.2.2.2.2.1 3))]) rfl ?_
                                              refine lv_aload_n hx hb dL_isTold_119 rfl (lv_at hl9 4 rfl) ?_
                                              refine lv_bipush (v := 6) hx hb dL_isTold_120 (by decide) ?_
                                              refine lv_iload hx hb dL_isTold_122 (lv_at hl9 2 rfl) ?_
                                              refine lv_imul hx hb dL_isTold_124 ?_
                                              refine hp_c (v := 6) (by decide) ?_
                                              refine lv_iload hx hb dL_isTold_125 (lv_at hl9 0 rfl) ?_
                                              refine lv_iadd hx hb dL_isTold_127 ?_
                                              refine hp_c (v := 9) (by decide) ?_
                                              have h410 : f407 lq = some (.inl (cI G, 12, .inl (j6r S0.2.2.2.2.2.2.2.1 S1.2.2.2.2.2.2.2.1))) := k409 _ _ h406 (Nat.ne_of_beq_eq_false rfl) (hdos _ List.mem_cons_self)
                                              refine hp_iald B0 hw h410 (by unfold vp_in; decide) dL_isTold_128 ?_
                                              refine hp_c (v := (S1.2.2.2.2.2.2.2.1 3)) (rfl) ?_
                                              refine lv_icmp_eq (tgt := 134) hx hb dL_isTold_129 (by decide) (fun _ => ?_) (fun c9 => absurd rfl c9)
                                              refine lv_iinc (v := 4) (lv' := [(7, .int 4), (6, .int 8), (5, .int 1), (0, .ref xo), (1, .ref lq), (2, .ref le), (3, .ref lr), (4, .ref lg)]) hx hb dL_isTold_134 hl9 (k := 0) rfl (by decide) (by decide) rfl (fun ls hl9 => ?_)
                                              refine lv_goto (tgt := 104) hx hb dL_isTold_137 (by decide) ?_
                                              refine lv_iload hx hb dL_isTold_104 (lv_at hl9 0 rfl) ?_
                                              refine lv_bipush (v := 6) hx hb dL_isTold_106 (by decide) ?_
                                              refine lv_icmp_ge (tgt := 140) hx hb dL_isTold_108 (by decide) (fun c9 => absurd c9 (by decide)) (fun _ => ?_)
                                              refine lv_aload_n hx hb dL_isTold_111 rfl (lv_at hl9 3 rfl) ?_
                                              refine lv_iload hx hb dL_isTold_112 (lv_at hl9 2 rfl) ?_
                                              refine lv_iload hx hb dL_isTold_114 (lv_at hl9 0 rfl) ?_
                                              refine hp_SH (As := [.ref xo, .int 1, .int 4]) (rest := []) B0 hw hS (c_V_asked_1 hl G f407 xo ez eo bu nw0 na0 nq0 nr0 nw1 na1 nq1 nr1 bs bp bh bf bl bg S0 S1 gw0 ga0 gw1 ga1 n a cg x sa pk fl gv gh gl hC408 (Nat.lt_of_le_of_lt hl0 (by decide)) (Nat.lt_of_le_of_lt hl1 (by decide)) 4 (by decide)) mH_L_asked qM_L_155 rfl rfl hl9.1 (Nat.le_of_ble_eq_true rfl) ⟨⟨Nat.le_of_ble_eq_true rfl, Nat.le_of_ble_eq_true rfl⟩, Nat.le_of_ble_eq_true rfl, Nat.le_of_ble_eq_true rfl⟩ dL_isTold_116 (fun E ce q9 f411 H locs hPX hw hS hce hcv hcl => ?_) (fun v f411 H locs hP hw hS => ?_)
                                              · exact hPX.elim
                                              · obtain ⟨ev9, hC412, k413⟩ := hP
                                                subst ev9
                                                have hC412 : CXW G f411 xo ez eo bu nw0 na0 nq0 nr0 nw1 na1 nq1 nr1 bs bp bh bf bl bg S0 S1 gw0 ga0 gw1 ga1 n a cg x sa pk fl gv gh gl := hC412
                                                refine W.eq (g2 := F0 m 119 ls [.int ((S1.2.2.2.2.2.2.2.1 4))]) rfl ?_
                                                refine lv_aload_n hx hb dL_isTold_119 rfl (lv_at hl9 4 rfl) ?_
                                                refine lv_bipush (v := 6) hx hb dL_isTold_120 (by decide) ?_
                                                refine lv_iload hx hb dL_isTold_122 (lv_at hl9 2 rfl) ?_
                                                refine lv_imul hx hb dL_isTold_124 ?_
                                                refine hp_c (v := 6) (by decide) ?_
                                                refine lv_iload hx hb dL_isTold_125 (lv_at hl9 0 rfl) ?_
                                                refine lv_iadd hx hb dL_isTold_127 ?_
                                                refine hp_c (v := 10) (by decide) ?_
                                                have h414 : f411 lq = some (.inl (cI G, 12, .inl (j6r S0.2.2.2.2.2.2.2.1 S1.2.2.2.2.2.2.2.1))) := k413 _ _ h410 (Nat.ne_of_beq_eq_false rfl) (hdos _ List.mem_cons_self)
                                                refine hp_iald B0 hw h414 (by unfold vp_in; decide) dL_isTold_128 ?_
                                                refine hp_c (v := (S1.2.2.2.2.2.2.2.1 4)) (rfl) ?_
                                                refine lv_icmp_eq (tgt := 134) hx hb dL_isTold_129 (by decide) (fun _ => ?_) (fun c9 => absurd rfl c9)
                                                refine lv_iinc (v := 5) (lv' := [(7, .int 5), (6, .int 8), (5, .int 1), (0, .ref xo), (1, .ref lq), (2, .ref le), (3, .ref lr), (4, .ref lg)]) hx hb dL_isTold_134 hl9 (k := 0) rfl (by decide) (by decide) rfl (fun ls hl9 => ?_)
                                                refine lv_goto (tgt := 104) hx hb dL_isTold_137 (by decide) ?_
                                                refine lv_iload hx hb dL_isTold_104 (lv_at hl9 0 rfl) ?_
                                                refine lv_bipush (v := 6) hx hb dL_isTold_106 (by decide) ?_
                                                refine lv_icmp_ge (tgt := 140) hx hb dL_isTold_108 (by decide) (fun c9 => absurd c9 (by decide)) (fun _ => ?_)
                                                refine lv_aload_n hx hb dL_isTold_111 rfl (lv_at hl9 3 rfl) ?_
                                                refine lv_iload hx hb dL_isTold_112 (lv_at hl9 2 rfl) ?_
                                                refine lv_iload hx hb dL_isTold_114 (lv_at hl9 0 rfl) ?_
                                                refine hp_SH (As := [.ref xo, .int 1, .int 5]) (rest := []) B0 hw hS (c_V_asked_1 hl G f411 xo ez eo bu nw0 na0 nq0 nr0 nw1 na1 nq1 nr1 bs bp bh bf bl bg S0 S1 gw0 ga0 gw1 ga1 n a cg x sa pk fl gv gh gl hC412 (Nat.lt_of_le_of_lt hl0 (by decide)) (Nat.lt_of_le_of_lt hl1 (by decide)) 5 (by decide)) mH_L_asked qM_L_155 rfl rfl hl9.1 (Nat.le_of_ble_eq_true rfl) ⟨⟨Nat.le_of_ble_eq_true rfl, Nat.le_of_ble_eq_true rfl⟩, Nat.le_of_ble_eq_true rfl, Nat.le_of_ble_eq_true rfl⟩ dL_isTold_116 (fun E ce q9 f415 H locs hPX hw hS hce hcv hcl => ?_) (fun v f415 H locs hP hw hS => ?_)
                                                · exact hPX.elim
                                                · obtain ⟨ev9, hC416, k417⟩ := hP
                                                  subst ev9
                                                  have hC416 : CXW G f415 xo ez eo bu nw0 na0 nq0 nr0 nw1 na1 nq1 nr1 bs bp bh bf bl bg S0 S1 gw0 ga0 gw1 ga1 n a cg x sa pk fl gv gh gl := hC416
                                                  refine W.eq (g2 := F0 m 119 ls [.int ((S1.2.2.2.2.2.2.2.1 5))]) rfl ?_
                                                  refine lv_aload_n hx hb dL_isTold_119 rfl (lv_at hl9 4 rfl) ?_
                                                  refine lv_bipush (v := 6) hx hb dL_isTold_120 (by decide) ?_
                                                  refine lv_iload hx hb dL_isTold_122 (lv_at hl9 2 rfl) ?_
                                                  refine lv_imul hx hb dL_isTold_124 ?_
                                                  refine hp_c (v := 6) (by decide) ?_
                                                  refine lv_iload hx hb dL_isTold_125 (lv_at hl9 0 rfl) ?_
                                                  refine lv_iadd hx hb dL_isTold_127 ?_
                                                  refine hp_c (v := 11) (by decide) ?_
                                                  have h418 : f415 lq = some (.inl (cI G, 12, .inl (j6r S0.2.2.2.2.2.2.2.1 S1.2.2.2.2.2.2.2.1))) := k417 _ _ h414 (Nat.ne_of_beq_eq_false rfl) (hdos _ List.mem_cons_self)
                                                  refine hp_iald B0 hw h418 (by unfold vp_in; decide) dL_isTold_128 ?_
                                                  refine hp_c (v := (S1.2.2.2.2.2.2.2.1 5)) (rfl) ?_
                                                  refine lv_icmp_eq (tgt := 134) hx hb dL_isTold_129 (by decide) (fun _ => ?_) (fun c9 => absurd rfl c9)
                                                  refine lv_iinc (v := 6) (lv' := [(7, .int 6), (6, .int 8), (5, .int 1), (0, .ref xo), (1, .ref lq), (2, .ref le), (3, .ref lr), (4, .ref lg)]) hx hb dL_isTold_134 hl9 (k := 0) rfl (by decide) (by decide) rfl (fun ls hl9 => ?_)
                                                  refine lv_goto (tgt := 104) hx hb dL_isTold_137 (by decide) ?_
                                                  refine lv_iload hx hb dL_isTold_104 (lv_at hl9 0 rfl) ?_
                                                  refine lv_bipush (v := 6) hx hb dL_isTold_106 (by decide) ?_
                                                  refine lv_icmp_ge (tgt := 140) hx hb dL_isTold_108 (by decide) (fun _ => ?_) (fun c9 => absurd (by decide) c9)
                                                  refine lv_iinc (v := 2) (lv' := [(5, .int 2), (7, .int 6), (6, .int 8), (0, .ref xo), (1, .ref lq), (2, .ref le), (3, .ref lr), (4, .ref lg)]) hx hb dL_isTold_140 hl9 (k := 2) rfl (by decide) (by decide) rfl (fun ls hl9 => ?_)
                                                  refine lv_goto (tgt := 3) hx hb dL_isTold_143 (by decide) ?_
                                                  refine lv_iload hx hb dL_isTold_3 (lv_at hl9 0 rfl) ?_
                                                  refine lv_iconst (v := 2) hx hb dL_isTold_5 (by decide) ?_
                                                  refine lv_icmp_ge (tgt := 146) hx hb dL_isTold_6 (by decide) (fun _ => ?_) (fun c9 => absurd (by decide) c9)
                                                  refine lv_iconst (v := 0) hx hb dL_isTold_146 (by decide) ?_
                                                  refine lv_istore (lv' := [(5, .int 0), (7, .int 6), (6, .int 8), (0, .ref xo), (1, .ref lq), (2, .ref le), (3, .ref lr), (4, .ref lg)]) hx hb dL_isTold_147 hl9 (by decide) rfl (fun ls hl9 => ?_)
                                                  refine hp_cs (c2 := 34 + 0 * 0) (s2 := 204 + 0 * 0) rfl rfl ?_
                                                  refine hp_forC (nL := 8) (pc := 149) (fun j f9 lv9 => CXW G f9 xo ez eo bu nw0 na0 nq0 nr0 nw1 na1 nq1 nr1 bs bp bh bf bl bg S0 S1 gw0 ga0 gw1 ga1 n a cg x sa pk fl gv gh gl ∧ hKn [xo, ez, eo, bu, nw0, na0, nq0, nr0, nw1, na1, nq1, nr1, bs, bp, bh, bf, bl, bg] f f9 ∧ lv9 = [(5, .int (nI j)), (0, .ref xo), (1, .ref lq), (2, .ref le), (3, .ref lr), (4, .ref lg)]) cg 34 204 0 0 (fun j f9 lv9 H locs ls hj hI hw hS hl9 ih => ?_) (fun f9 lv9 H locs ls hI hw hS hl9 => ?_) cg 0 (Nat.zero_add _) f415 _ _ _ ls ⟨hC416, ((show hKn [xo, ez, eo, bu, nw0, na0, nq0, nr0, nw1, na1, nq1, nr1, bs, bp, bh, bf, bl, bg] f f1 from (hKn.mono k3 (fun _ h9 => h9))).tr ((show hKn [xo, ez, eo, bu, nw0, na0, nq0, nr0, nw1, na1, nq1, nr1, bs, bp, bh, bf, bl, bg] f1 f6 from (hKn.mono k8 (fun _ h9 => h9))).tr ((show hKn [xo, ez, eo, bu, nw0, na0, nq0, nr0, nw1, na1, nq1, nr1, bs, bp, bh, bf, bl, bg] f6 f12 from (hKn.mono k14 (fun _ h9 => h9))).tr ((show hKn [xo, ez, eo, bu, nw0, na0, nq0, nr0, nw1, na1, nq1, nr1, bs, bp, bh, bf, bl, bg] f12 f240 from (hKn.mono k242 (fun _ h9 => h9))).tr ((show hKn [xo, ez, eo, bu, nw0, na0, nq0, nr0, nw1, na1, nq1, nr1, bs, bp, bh, bf, bl, bg] f240 f245 from (hKn.mono k247 (fun _ h9 => h9))).tr ((show hKn [xo, ez, eo, bu, nw0, na0, nq0, nr0, nw1, na1, nq1, nr1, bs, bp, bh, bf, bl, bg] f245 f249 from (hKn.mono k251 (fun _ h9 => h9))).tr ((show hKn [xo, ez, eo, bu, nw0, na0, nq0, nr0, nw1, na1, nq1, nr1, bs, bp, bh, bf, bl, bg] f249 f258 from (hKn.mono k260 (fun _ h9 => h9))).tr ((show hKn [xo, ez, eo, bu, nw0, na0, nq0, nr0, nw1, na1, nq1, nr1, bs, bp, bh, bf, bl, bg] f258 f262 from (hKn.mono k264 (fun _ h9 => h9))).tr ((show hKn [xo, ez, eo, bu, nw0, na0, nq0, nr0, nw1, na1, nq1, nr1, bs, bp, bh, bf, bl, bg] f262 f266 from (hKn.mono k268 (fun _ h9 => h9))).tr ((show hKn [xo, ez, eo, bu, nw0, na0, nq0, nr0, nw1, na1, nq1, nr1, bs, bp, bh, bf, bl, bg] f266 f270 from (hKn.mono k272 (fun _ h9 => h9))).tr ((show hKn [xo, ez, eo, bu, nw0, na0, nq0, nr0, nw1, na1, nq1, nr1, bs, bp, bh, bf, bl, bg] f270 f274 from (hKn.mono k276 (fun _ h9 => h9))).tr ((show hKn [xo, ez, eo, bu, nw0, na0, nq0, nr0, nw1, na1, nq1, nr1, bs, bp, bh, bf, bl, bg] f274 f278 from (hKn.mono k280 (fun _ h9 => h9))).tr ((show hKn [xo, ez, eo, bu, nw0, na0, nq0, nr0, nw1, na1, nq1, nr1, bs, bp, bh, bf, bl, bg] f278 f289 from (hKn.mono k291 (fun _ h9 => h9))).tr ((show hKn [xo, ez, eo, bu, nw0, na0, nq0, nr0, nw1, na1, nq1, nr1, bs, bp, bh, bf, bl, bg] f289 f294 from (hKn.mono k296 (fun _ h9 => h9))).tr ((show hKn [xo, ez, eo, bu, nw0, na0, nq0, nr0, nw1, na1, nq1, nr1, bs, bp, bh, bf, bl, bg] f294 f381 from (hKn.mono k383 (fun _ h9 => h9))).tr ((show hKn [xo, ez, eo, bu, nw0, na0, nq0, nr0, nw1, na1, nq1, nr1, bs, bp, bh, bf, bl, bg] f381 f386 from (hKn.mono k388 (fun _ h9 => h9))).tr ((show hKn [xo, ez, eo, bu, nw0, na0, nq0, nr0, nw1, na1, nq1, nr1, bs, bp, bh, bf, bl, bg] f386 f390 from (hKn.mono k392 (fun _ h9 => h9))).tr ((show hKn [xo, ez, eo, bu, nw0, na0, nq0, nr0, nw1, na1, nq1, nr1, bs, bp, bh, bf, bl, bg] f390 f399 from (hKn.mono k401 (fun _ h9 => h9))).tr ((show hKn [xo, ez, eo, bu, nw0, na0, nq0, nr0, nw1, na1, nq1, nr1, bs, bp, bh, bf, bl, bg] f399 f403 from (hKn.mono k405 (fun _ h9 => h9))).tr ((show hKn [xo, ez, eo, bu, nw0, na0, nq0, nr0, nw1, na1, nq1, nr1, bs, bp, bh, bf, bl, bg] f403 f407 from (hKn.mono k409 (fun _ h9 => h9))).tr ((show hKn [xo, ez, eo, bu, nw0, na0, nq0, nr0, nw1, na1, nq1, nr1, bs, bp, bh, bf, bl, bg] f407 f411 from (hKn.mono k413 (fun _ h9 => h9))).tr (show hKn [xo, ez, eo, bu, nw0, na0, nq0, nr0, nw1, na1, nq1, nr1, bs, bp, bh, bf, bl, bg] f411 f415 from (hKn.mono k417 (fun _ h9 => h9)))))))))))))))))))))))), rfl⟩ hw hS (lv_sub hl9 [0, 3, 4, 5, 6, 7] rfl)
                                                  · obtain ⟨hC9, hk9, el9⟩ := hI
                                                    rw [el9] at hl9
                                                    refine lv_iload hx hb dL_isTold_149 (lv_at hl9 0 rfl) ?_
                                                    refine lv_aload hx hb dL_isTold_151 (lv_at hl9 5 rfl) ?_
                                                    refine lv_bipush (v := 9) hx hb dL_isTold_153 (by decide) ?_
                                                    have h419 : f9 lg = some (.inl (cI G, 10, .inl (g10r tk gl a n x cg))) := hk9 _ _ k_lg (Nat.ne_of_beq_eq_false rfl) (hdos _ (List.mem_cons_of_mem _ (List.mem_cons_of_mem _ (List.mem_cons_of_mem _ List.mem_cons_self))))
                                                    refine hp_iald B0 hw h419 (by unfold vp_in; decide) dL_isTold_155 ?_
                                                    refine hp_c (v := (nI cg)) (rfl) ?_
                                                    refine lv_icmp_ge (tgt := 180) hx hb dL_isTold_156 (by decide) (fun c9 => absurd c9 (nI_ge hj (by omega))) (fun _ => ?_)
                                                    refine lv_aload_n hx hb dL_isTold_159 rfl (lv_at hl9 1 rfl) ?_
                                                    refine lv_iload hx hb dL_isTold_160 (lv_at hl9 0 rfl) ?_
                                                    refine hp_SH (As := [.ref xo, .int (nI j)]) (rest := []) B0 hw hS (c_V_givenAt_ok hl G f9 xo ez eo bu nw0 na0 nq0 nr0 nw1 na1 nq1 nr1 bs bp bh bf bl bg S0 S1 gw0 ga0 gw1 ga1 n a cg x sa pk fl gv gh gl hC9 (Nat.lt_of_le_of_lt hl0 (by decide)) (Nat.lt_of_le_of_lt hl1 (by decide)) j (by omega)) mH_L_givenAt qM_L_158 rfl rfl hl9.1 (Nat.le_of_ble_eq_true rfl) ⟨⟨Nat.le_of_ble_eq_true rfl, Nat.le_of_ble_eq_true rfl⟩, (by first | omega | (dsimp only; omega)), (by first | omega | (dsimp only; omega))⟩ dL_isTold_162 (fun E ce q9 f420 H locs hPX hw hS hce hcv hcl => ?_) (fun v f420 H locs hP hw hS => ?_)
                                                    · exact hPX.elim
                                                    · obtain ⟨ev9, hC421, k422⟩ := hP
                                                      subst ev9
                                                      have hC421 : CXW G f420 xo ez eo bu nw0 na0 nq0 nr0 nw1 na1 nq1 nr1 bs bp bh bf bl bg S0 S1 gw0 ga0 gw1 ga1 n a cg x sa pk fl gv gh gl := hC421
                                                      refine W.eq (g2 := F0 m 165 ls [.int ((nI (gv j)))]) rfl ?_
                                                      refine lv_aload_n hx hb dL_isTold_165 rfl (lv_at hl9 4 rfl) ?_
                                                      refine lv_iload hx hb dL_isTold_166 (lv_at hl9 0 rfl) ?_
                                                      have h423 : f9 lr = some (.inl (cI G, 60, .inl (nf gv))) := hk9 _ _ k_lr (Nat.ne_of_beq_eq_false rfl) (hdos _ (List.mem_cons_of_mem _ (List.mem_cons_of_mem _ List.mem_cons_self)))
                                                      have h424 : f420 lr = some (.inl (cI G, 60, .inl (nf gv))) := k422 _ _ h423 (Nat.ne_of_beq_eq_false rfl) (hdos _ (List.mem_cons_of_mem _ (List.mem_cons_of_mem _ List.mem_cons_self)))
                                                      refine hp_iald B0 hw h424 (vp_in_nI (show j < 60 by omega) (by omega)) dL_isTold_168 ?_
                                                      refine hp_c (v := (nI (gv j))) (nf_at (nI_clamp (by omega))) ?_
                                                      refine lv_icmp_eq (tgt := 174) hx hb dL_isTold_169 (by decide) (fun _ => ?_) (fun c9 => absurd rfl c9)
                                                      refine lv_iinc (v := (nI (j + 1))) (lv' := [(5, .int (nI (j + 1))), (0, .ref xo), (1, .ref lq), (2, .ref le), (3, .ref lr), (4, .ref lg)]) hx hb dL_isTold_174 hl9 (k := 0) rfl (nI_1 j) (by decide) rfl (fun ls hl9 => ?_)
                                                      refine lv_goto (tgt := 149) hx hb dL_isTold_177 (by decide) ?_
                                                      exact hp_cs (by omega) (by omega) (ih _ _ H locs ls ⟨hC421, ((show hKn [xo, ez, eo, bu, nw0, na0, nq0, nr0, nw1, na1, nq1, nr1, bs, bp, bh, bf, bl, bg] f f9 from (hKn.mono hk9 (fun _ h9 => h9))).tr (show hKn [xo, ez, eo, bu, nw0, na0, nq0, nr0, nw1, na1, nq1, nr1, bs, bp, bh, bf, bl, bg] f9 f420 from (hKn.mono k422 (fun _ h9 => h9)))), rfl⟩ hw hS (lv_sub hl9 [0, 1, 2, 3, 4, 5] rfl))
                                                  · obtain ⟨hC9, hk9, el9⟩ := hI
                                                    rw [el9] at hl9
                                                    refine W.widen (k := 34 + 60 * 0) (n := 204 + 60 * 0) (by omega) (by omega) ?_
                                                    refine hp_cs (c2 := 34) (s2 := 204) rfl rfl ?_
                                                    refine lv_iload hx hb dL_isTold_149 (lv_at hl9 0 rfl) ?_
                                                    refine lv_aload hx hb dL_isTold_151 (lv_at hl9 5 rfl) ?_
                                                    refine lv_bipush (v := 9) hx hb dL_isTold_153 (by decide) ?_
                                                    have h425 : f9 lg = some (.inl (cI G, 10, .inl (g10r tk gl a n x cg))) := hk9 _ _ k_lg (Nat.ne_of_beq_eq_false rfl) (hdos _ (List.mem_cons_of_mem _ (List.mem_cons_of_mem _ (List.mem_cons_of_mem _ List.mem_cons_self))))
                                                    refine hp_iald B0 hw h425 (by unfold vp_in; decide) dL_isTold_155 ?_
                                                    refine hp_c (v := (nI cg)) (rfl) ?_
                                                    refine lv_icmp_ge (tgt := 180) hx hb dL_isTold_156 (by decide) (fun _ => ?_) (fun c9 => absurd (nI_le (Nat.le_refl _) (by omega)) c9)
                                                    refine lv_aload_n hx hb dL_isTold_180 rfl (lv_at hl9 1 rfl) ?_
                                                    have h426 : f9 xo = some (.inr (4, [.ref ez, .ref eo, .ref bu])) := by obtain ⟨_, _, h9⟩ := hC9; exact h9.1
                                                    refine hp_V (ci := 4) (As := []) (rest := []) B0 hw hS (c_P_given_ok hl G f9 xo ez eo bu nw0 na0 nq0 nr0 nw1 na1 nq1 nr1 bs bp bh bf bl bg S0 S1 gw0 ga0 gw1 ga1 n a cg x sa pk fl gv gh gl hC9 (Nat.lt_of_le_of_lt hl0 (by decide)) (Nat.lt_of_le_of_lt hl1 (by decide))) mV_X4_given qM_L_160 rfl h426 rfl rfl hl9.1 (Nat.le_of_ble_eq_true rfl) ⟨⟨Nat.le_of_ble_eq_true rfl, Nat.le_of_ble_eq_true rfl⟩, Nat.le_of_ble_eq_true rfl, Nat.le_of_ble_eq_true rfl⟩ dL_isTold_181 (fun E ce q9 f427 H locs hPX hw hS hce hcv hcl => ?_) (fun v f427 H locs hP hw hS => ?_)
                                                    · exact hPX.elim
                                                    · obtain ⟨ev9, hC428, k429⟩ := hP
                                                      subst ev9
                                                      refine W.eq (g2 := F0 m 184 ls [.int (nI cg)]) rfl ?_
                                                      refine lv_aload hx hb dL_isTold_184 (lv_at hl9 5 rfl) ?_
                                                      refine lv_bipush (v := 9) hx hb dL_isTold_186 (by decide) ?_
                                                      have h430 : f427 lg = some (.inl (cI G, 10, .inl (g10r tk gl a n x cg))) := k429 _ _ h425 (Nat.ne_of_beq_eq_false rfl) (hdos _ (List.mem_cons_of_mem _ (List.mem_cons_of_mem _ (List.mem_cons_of_mem _ List.mem_cons_self))))
                                                      refine hp_iald B0 hw h430 (by unfold vp_in; decide) dL_isTold_188 ?_
                                                      refine hp_c (v := (nI cg)) (rfl) ?_
                                                      refine lv_icmp_ne (tgt := 308) hx hb dL_isTold_189 (by decide) (fun c9 => absurd rfl c9) (fun _ => ?_)
                                                      refine lv_aload_n hx hb dL_isTold_192 rfl (lv_at hl9 1 rfl) ?_
                                                      have h431 : f427 xo = some (.inr (4, [.ref ez, .ref eo, .ref bu])) := by obtain ⟨_, _, h9⟩ := hC428; exact h9.1
                                                      refine hp_V (ci := 4) (As := []) (rest := []) B0 hw hS (c_P_next_ok hl G f427 xo ez eo bu nw0 na0 nq0 nr0 nw1 na1 nq1 nr1 bs bp bh bf bl bg S0 S1 gw0 ga0 gw1 ga1 n a cg x sa pk fl gv gh gl hC428 (Nat.lt_of_le_of_lt hl0 (by decide)) (Nat.lt_of_le_of_lt hl1 (by decide))) mV_X4_next qM_L_164 rfl h431 rfl rfl hl9.1 (Nat.le_of_ble_eq_true rfl) ⟨⟨Nat.le_of_ble_eq_true rfl, Nat.le_of_ble_eq_true rfl⟩, Nat.le_of_ble_eq_true rfl, Nat.le_of_ble_eq_true rfl⟩ dL_isTold_193 (fun E ce q9 f432 H locs hPX hw hS hce hcv hcl => ?_) (fun v f432 H locs hP hw hS => ?_)
                                                      · exact hPX.elim
                                                      · obtain ⟨ev9, hC433, k434⟩ := hP
                                                        subst ev9
                                                        refine W.eq (g2 := F0 m 196 ls [.int (nI x)]) rfl ?_
                                                        refine lv_aload hx hb dL_isTold_196 (lv_at hl9 5 rfl) ?_
                                                        refine lv_bipush (v := 8) hx hb dL_isTold_198 (by decide) ?_
                                                        have h435 : f432 lg = some (.inl (cI G, 10, .inl (g10r tk gl a n x cg))) := k434 _ _ h430 (Nat.ne_of_beq_eq_false rfl) (hdos _ (List.mem_cons_of_mem _ (List.mem_cons_of_mem _ (List.mem_cons_of_mem _ List.mem_cons_self))))
                                                        refine hp_iald B0 hw h435 (by unfold vp_in; decide) dL_isTold_200 ?_
                                                        refine hp_c (v := (nI x)) (rfl) ?_
                                                        refine lv_icmp_ne (tgt := 308) hx hb dL_isTold_201 (by decide) (fun c9 => absurd rfl c9) (fun _ => ?_)
                                                        refine lv_aload_n hx hb dL_isTold_204 rfl (lv_at hl9 1 rfl) ?_
                                                        refine lv_aload hx hb dL_isTold_205 (lv_at hl9 5 rfl) ?_
                                                        refine lv_bipush (v := 9) hx hb dL_isTold_207 (by decide) ?_
                                                        refine hp_iald B0 hw h435 (by unfold vp_in; decide) dL_isTold_209 ?_
                                                        refine hp_c (v := (nI cg)) (rfl) ?_
                                                        refine hp_SH (As := [.ref xo, .int (nI cg)]) (rest := []) B0 hw hS (c_V_givenAt_I hl G f432 xo ez eo bu nw0 na0 nq0 nr0 nw1 na1 nq1 nr1 bs bp bh bf bl bg S0 S1 gw0 ga0 gw1 ga1 n a cg x sa pk fl gv gh gl hC433 (Nat.lt_of_le_of_lt hl0 (by decide)) (Nat.lt_of_le_of_lt hl1 (by decide)) (nI cg) (by rw [nI_toInt (by omega)]; omega)) mH_L_givenAt qM_L_158 rfl rfl hl9.1 (Nat.le_of_ble_eq_true rfl) ⟨⟨Nat.le_of_ble_eq_true rfl, Nat.le_of_ble_eq_true rfl⟩, Nat.le_of_ble_eq_true rfl, Nat.le_of_ble_eq_true rfl⟩ dL_isTold_210 (fun E ce q9 f436 H locs hPX hw hS hce hcv hcl => ?_) (fun v f436 H locs hP hw hS => ?_)
                                                        · exact hPX.elim
                                                        · obtain ⟨ev9, hC437, k438⟩ := hP
                                                          subst ev9
                                                          have hC437 : CXW G f436 xo ez eo bu nw0 na0 nq0 nr0 nw1 na1 nq1 nr1 bs bp bh bf bl bg S0 S1 gw0 ga0 gw1 ga1 n a cg x sa pk fl gv gh gl := hC437
                                                          refine W.eq (g2 := F0 m 213 ls [.int (-71)]) rfl ?_
                                                          refine lv_bipush (v := (-71)) hx hb dL_isTold_213 (by decide) ?_
                                                          refine lv_icmp_ne (tgt := 308) hx hb dL_isTold_215 (by decide) (fun c9 => absurd (by decide) c9) (fun _ => ?_)
                                                          refine lv_aload_n hx hb dL_isTold_218 rfl (lv_at hl9 1 rfl) ?_
                                                          refine lv_iconst (v := (-1)) hx hb dL_isTold_219 (by decide) ?_
                                                          refine hp_SH (As := [.ref xo, .int (-1)]) (rest := []) B0 hw hS (c_V_givenAt_I hl G f436 xo ez eo bu nw0 na0 nq0 nr0 nw1 na1 nq1 nr1 bs bp bh bf bl bg S0 S1 gw0 ga0 gw1 ga1 n a cg x sa pk fl gv gh gl hC437 (Nat.lt_of_le_of_lt hl0 (by decide)) (Nat.lt_of_le_of_lt hl1 (by decide)) (-1) (fun h9 => absurd h9.1 (by decide))) mH_L_givenAt qM_L_158 rfl rfl hl9.1 (Nat.le_of_ble_eq_true rfl) ⟨⟨Nat.le_of_ble_eq_true rfl, Nat.le_of_ble_eq_true rfl⟩, Nat.le_of_ble_eq_true rfl, Nat.le_of_ble_eq_true rfl⟩ dL_isTold_220 (fun E ce q9 f439 H locs hPX hw hS hce hcv hcl => ?_) (fun v f439 H locs hP hw hS => ?_)
                                                          · exact hPX.elim
                                                          · obtain ⟨ev9, hC440, k441⟩ := hP
                                                            subst ev9
                                                            have hC440 : CXW G f439 xo ez eo bu nw0 na0 nq0 nr0 nw1 na1 nq1 nr1 bs bp bh bf bl bg S0 S1 gw0 ga0 gw1 ga1 n a cg x sa pk fl gv gh gl := hC440
                                                            refine W.eq (g2 := F0 m 223 ls [.int (-71)]) rfl ?_
                                                            refine lv_bipush (v := (-71)) hx hb dL_isTold_223 (by decide) ?_
                                                            refine lv_icmp_ne (tgt := 308) hx hb dL_isTold_225 (by decide) (fun c9 => absurd (by decide) c9) (fun _ => ?_)
                                                            refine lv_aload_n hx hb dL_isTold_228 rfl (lv_at hl9 1 rfl) ?_
                                                            refine lv_ldc (v := 2147483647) hx hb B0.2.2.2.1 (B0.2.2.2.2.1 _ qK_L_68) dL_isTold_229 ?_
                                                            refine hp_SH (As := [.ref xo, .int 2147483647]) (rest := []) B0 hw hS (c_V_givenAt_I hl G f439 xo ez eo bu nw0 na0 nq0 nr0 nw1 na1 nq1 nr1 bs bp bh bf bl bg S0 S1 gw0 ga0 gw1 ga1 n a cg x sa pk fl gv gh gl hC440 (Nat.lt_of_le_of_lt hl0 (by decide)) (Nat.lt_of_le_of_lt hl1 (by decide)) 2147483647 (fun h9 => by have h8 := h9.2; rw [show (2147483647 : Int32).toInt = 2147483647 from by decide] at h8; omega)) mH_L_givenAt qM_L_158 rfl rfl hl9.1 (Nat.le_of_ble_eq_true rfl) ⟨⟨Nat.le_of_ble_eq_true rfl, Nat.le_of_ble_eq_true rfl⟩, Nat.le_of_ble_eq_true rfl, Nat.le_of_ble_eq_true rfl⟩ dL_isTold_231 (fun E ce q9 f442 H locs hPX hw hS hce hcv hcl => ?_) (fun v f442 H locs hP hw hS => ?_)
                                                            · exact hPX.elim
                                                            · obtain ⟨ev9, hC443, k444⟩ := hP
                                                              subst ev9
                                                              have hC443 : CXW G f442 xo ez eo bu nw0 na0 nq0 nr0 nw1 na1 nq1 nr1 bs bp bh bf bl bg S0 S1 gw0 ga0 gw1 ga1 n a cg x sa pk fl gv gh gl := hC443
                                                              refine W.eq (g2 := F0 m 234 ls [.int (-71)]) rfl ?_
                                                              refine lv_bipush (v := (-71)) hx hb dL_isTold_234 (by decide) ?_
                                                              refine lv_icmp_ne (tgt := 308) hx hb dL_isTold_236 (by decide) (fun c9 => absurd (by decide) c9) (fun _ => ?_)
                                                              refine lv_aload_n hx hb dL_isTold_239 rfl (lv_at hl9 1 rfl) ?_
                                                              refine lv_iconst (v := 2) hx hb dL_isTold_240 (by decide) ?_
                                                              refine hp_SH (As := [.ref xo, .int 2]) (rest := []) B0 hw hS (c_V_stateOf_E hl G f442 xo ez eo bu nw0 na0 nq0 nr0 nw1 na1 nq1 nr1 bs bp bh bf bl bg S0 S1 gw0 ga0 gw1 ga1 n a cg x sa pk fl gv gh gl hC443 (Nat.lt_of_le_of_lt hl0 (by decide)) (Nat.lt_of_le_of_lt hl1 (by decide)) 2 (by decide)) mH_L_stateOf qM_L_141 rfl rfl hl9.1 (Nat.le_of_ble_eq_true rfl) ⟨⟨Nat.le_of_ble_eq_true rfl, Nat.le_of_ble_eq_true rfl⟩, Nat.le_of_ble_eq_true rfl, Nat.le_of_ble_eq_true rfl⟩ dL_isTold_241 (fun E ce q9 f445 H locs hPX hw hS hce hcv hcl => ?_) (fun v f445 H locs hP hw hS => ?_)
                                                              · exact hPX.elim
                                                              · obtain ⟨ev9, hC446, k447⟩ := hP
                                                                subst ev9
                                                                have hC446 : CXW G f445 xo ez eo bu nw0 na0 nq0 nr0 nw1 na1 nq1 nr1 bs bp bh bf bl bg S0 S1 gw0 ga0 gw1 ga1 n a cg x sa pk fl gv gh gl := hC446
                                                                refine W.eq (g2 := F0 m 244 ls [.int (-71)]) rfl ?_
                                                                refine lv_bipush (v := (-71)) hx hb dL_isTold_244 (by decide) ?_
                                                                refine lv_icmp_ne (tgt := 308) hx hb dL_isTold_246 (by decide) (fun c9 => absurd (by decide) c9) (fun _ => ?_)
                                                                refine lv_aload_n hx hb dL_isTold_249 rfl (lv_at hl9 1 rfl) ?_
                                                                refine lv_ldc (v := (-2147483648)) hx hb B0.2.2.2.1 (B0.2.2.2.2.1 _ qK_L_67) dL_isTold_250 ?_
                                                                refine hp_SH (As := [.ref xo, .int (-2147483648)]) (rest := []) B0 hw hS (c_V_stateOf_E hl G f445 xo ez eo bu nw0 na0 nq0 nr0 nw1 na1 nq1 nr1 bs bp bh bf bl bg S0 S1 gw0 ga0 gw1 ga1 n a cg x sa pk fl gv gh gl hC446 (Nat.lt_of_le_of_lt hl0 (by decide)) (Nat.lt_of_le_of_lt hl1 (by decide)) (-2147483648) (by decide)) mH_L_stateOf qM_L_141 rfl rfl hl9.1 (Nat.le_of_ble_eq_true rfl) ⟨⟨Nat.le_of_ble_eq_true rfl, Nat.le_of_ble_eq_true rfl⟩, Nat.le_of_ble_eq_true rfl, Nat.le_of_ble_eq_true rfl⟩ dL_isTold_252 (fun E ce q9 f448 H locs hPX hw hS hce hcv hcl => ?_) (fun v f448 H locs hP hw hS => ?_)
                                                                · exact hPX.elim
                                                                · obtain ⟨ev9, hC449, k450⟩ := hP
                                                                  subst ev9
                                                                  have hC449 : CXW G f448 xo ez eo bu nw0 na0 nq0 nr0 nw1 na1 nq1 nr1 bs bp bh bf bl bg S0 S1 gw0 ga0 gw1 ga1 n a cg x sa pk fl gv gh gl := hC449
                                                                  refine W.eq (g2 := F0 m 255 ls [.int (-71)]) rfl ?_
                                                                  refine lv_bipush (v := (-71)) hx hb dL_isTold_255 (by decide) ?_
                                                                  refine lv_icmp_ne (tgt := 308) hx hb dL_isTold_257 (by decide) (fun c9 => absurd (by decide) c9) (fun _ => ?_)
                                                                  refine lv_aload_n hx hb dL_isTold_260 rfl (lv_at hl9 1 rfl) ?_
                                                                  refine lv_iconst (v := 0) hx hb dL_isTold_261 (by decide) ?_
                                                                  refine lv_bipush (v := 6) hx hb dL_isTold_262 (by decide) ?_
                                                                  refine hp_SH (As := [.ref xo, .int 0, .int 6]) (rest := []) B0 hw hS (c_V_asked_O0 hl G f448 xo ez eo bu nw0 na0 nq0 nr0 nw1 na1 nq1 nr1 bs bp bh bf bl bg S0 S1 gw0 ga0 gw1 ga1 n a cg x sa pk fl gv gh gl hC449 (Nat.lt_of_le_of_lt hl0 (by decide)) (Nat.lt_of_le_of_lt hl1 (by decide)) 6 (by decide)) mH_L_asked qM_L_155 rfl rfl hl9.1 (Nat.le_of_ble_eq_true rfl) ⟨⟨Nat.le_of_ble_eq_true rfl, Nat.le_of_ble_eq_true rfl⟩, Nat.le_of_ble_eq_true rfl, Nat.le_of_ble_eq_true rfl⟩ dL_isTold_264 (fun E ce q9 f451 H locs hPX hw hS hce hcv hcl => ?_) (fun v f451 H locs hP hw hS => ?_)
                                                                  · exact hPX.elim
                                                                  · obtain ⟨ev9, hC452, k453⟩ := hP
                                                                    subst ev9
                                                                    have hC452 : CXW G f451 xo ez eo bu nw0 na0 nq0 nr0 nw1 na1 nq1 nr1 bs bp bh bf bl bg S0 S1 gw0 ga0 gw1 ga1 n a cg x sa pk fl gv gh gl := hC452
                                                                    refine W.eq (g2 := F0 m 267 ls [.int (-71)]) rfl ?_
                                                                    refine lv_bipush (v := (-71)) hx hb dL_isTold_267 (by decide) ?_
                                                                    refine lv_icmp_ne (tgt := 308) hx hb dL_isTold_269 (by decide) (fun c9 => absurd (by decide) c9) (fun _ => ?_)
                                                                    refine lv_aload_n hx hb dL_isTold_272 rfl (lv_at hl9 1 rfl) ?_
                                                                    refine lv_iconst (v := 2) hx hb dL_isTold_273 (by decide) ?_
                                                                    refine lv_iconst (v := 0) hx hb dL_isTold_274 (by decide) ?_
                                                                    refine hp_SH (As := [.ref xo, .int 2, .int 0]) (rest := []) B0 hw hS (c_V_asked_E hl G f451 xo ez eo bu nw0 na0 nq0 nr0 nw1 na1 nq1 nr1 bs bp bh bf bl bg S0 S1 gw0 ga0 gw1 ga1 n a cg x sa pk fl gv gh gl hC452 (Nat.lt_of_le_of_lt hl0 (by decide)) (Nat.lt_of_le_of_lt hl1 (by decide)) 2 0 (by decide)) mH_L_asked qM_L_155 rfl rfl hl9.1 (Nat.le_of_ble_eq_true rfl) ⟨⟨Nat.le_of_ble_eq_true rfl, Nat.le_of_ble_eq_true rfl⟩, Nat.le_of_ble_eq_true rfl, Nat.le_of_ble_eq_true rfl⟩ dL_isTold_275 (fun E ce q9 f454 H locs hPX hw hS hce hcv hcl => ?_) (fun v f454 H locs hP hw hS => ?_)
                                                                    · exact hPX.elim
                                                                    · obtain ⟨ev9, hC455, k456⟩ := hP
                                                                      subst ev9
                                                                      have hC455 : CXW G f454 xo ez eo bu nw0 na0 nq0 nr0 nw1 na1 nq1 nr1 bs bp bh bf bl bg S0 S1 gw0 ga0 gw1 ga1 n a cg x sa pk fl gv gh gl := hC455
                                                                      refine W.eq (g2 := F0 m 278 ls [.int (-71)]) rfl ?_
                                                                      refine lv_bipush (v := (-71)) hx hb dL_isTold_278 (by decide) ?_
                                                                      refine lv_icmp_ne (tgt := 308) hx hb dL_isTold_280 (by decide) (fun c9 => absurd (by decide) c9) (fun _ => ?_)
                                                                      refine lv_aload_n hx hb dL_isTold_283 rfl (lv_at hl9 1 rfl) ?_
                                                                      refine lv_iconst (v := 0) hx hb dL_isTold_284 (by decide) ?_
                                                                      refine lv_iconst (v := (-1)) hx hb dL_isTold_285 (by decide) ?_
                                                                      refine hp_SH (As := [.ref xo, .int 0, .int (-1)]) (rest := []) B0 hw hS (c_V_asked_O0 hl G f454 xo ez eo bu nw0 na0 nq0 nr0 nw1 na1 nq1 nr1 bs bp bh bf bl bg S0 S1 gw0 ga0 gw1 ga1 n a cg x sa pk fl gv gh gl hC455 (Nat.lt_of_le_of_lt hl0 (by decide)) (Nat.lt_of_le_of_lt hl1 (by decide)) (-1) (by decide)) mH_L_asked qM_L_155 rfl rfl hl9.1 (Nat.le_of_ble_eq_true rfl) ⟨⟨Nat.le_of_ble_eq_true rfl, Nat.le_of_ble_eq_true rfl⟩, Nat.le_of_ble_eq_true rfl, Nat.le_of_ble_eq_true rfl⟩ dL_isTold_286 (fun E ce q9 f457 H locs hPX hw hS hce hcv hcl => ?_) (fun v f457 H locs hP hw hS => ?_)
                                                                      · exact hPX.elim
                                                                      · obtain ⟨ev9, hC458, k459⟩ := hP
                                                                        subst ev9
                                                                        have hC458 : CXW G f457 xo ez eo bu nw0 na0 nq0 nr0 nw1 na1 nq1 nr1 bs bp bh bf bl bg S0 S1 gw0 ga0 gw1 ga1 n a cg x sa pk fl gv gh gl := hC458
                                                                        refine W.eq (g2 := F0 m 289 ls [.int (-71)]) rfl ?_
                                                                        refine lv_bipush (v := (-71)) hx hb dL_isTold_289 (by decide) ?_
                                                                        refine lv_icmp_ne (tgt := 308) hx hb dL_isTold_291 (by decide) (fun c9 => absurd (by decide) c9) (fun _ => ?_)
                                                                        refine lv_aload_n hx hb dL_isTold_294 rfl (lv_at hl9 1 rfl) ?_
                                                                        refine lv_iconst (v := (-1)) hx hb dL_isTold_295 (by decide) ?_
                                                                        refine hp_SH (As := [.ref xo, .int (-1)]) (rest := []) B0 hw hS (c_V_underWay_E hl G f457 xo ez eo bu nw0 na0 nq0 nr0 nw1 na1 nq1 nr1 bs bp bh bf bl bg S0 S1 gw0 ga0 gw1 ga1 n a cg x sa pk fl gv gh gl hC458 (Nat.lt_of_le_of_lt hl0 (by decide)) (Nat.lt_of_le_of_lt hl1 (by decide)) (-1) (by decide)) mH_L_underWay qM_L_150 rfl rfl hl9.1 (Nat.le_of_ble_eq_true rfl) ⟨⟨Nat.le_of_ble_eq_true rfl, Nat.le_of_ble_eq_true rfl⟩, Nat.le_of_ble_eq_true rfl, Nat.le_of_ble_eq_true rfl⟩ dL_isTold_296 (fun E ce q9 f460 H locs hPX hw hS hce hcv hcl => ?_) (fun v f460 H locs hP hw hS => ?_)
                                                                        · exact hPX.elim
                                                                        · obtain ⟨ev9, hC461, k462⟩ := hP
                                                                          subst ev9
                                                                          have hC461 : CXW G f460 xo ez eo bu nw0 na0 nq0 nr0 nw1 na1 nq1 nr1 bs bp bh bf bl bg S0 S1 gw0 ga0 gw1 ga1 n a cg x sa pk fl gv gh gl := hC461
                                                                          refine W.eq (g2 := F0 m 299 ls [.int (-71)]) rfl ?_
                                                                          refine lv_bipush (v := (-71)) hx hb dL_isTold_299 (by decide) ?_
                                                                          refine lv_icmp_ne (tgt := 308) hx hb dL_isTold_301 (by decide) (fun c9 => absurd (by decide) c9) (fun _ => ?_)
                                                                          refine lv_iconst (v := 1) hx hb dL_isTold_304 (by decide) ?_
                                                                          refine lv_goto (tgt := 309) hx hb dL_isTold_305 (by decide) ?_
                                                                          exact hp_zret (v := 1) B0 hw hS hr ⟨Nat.le_of_ble_eq_true rfl, Nat.le_of_ble_eq_true rfl⟩ (rfl) dL_isTold_309 (⟨rfl, hC461, ((show hKn [xo, ez, eo, bu, nw0, na0, nq0, nr0, nw1, na1, nq1, nr1, bs, bp, bh, bf, bl, bg] f f9 from (hKn.mono hk9 (fun _ h9 => h9))).tr ((show hKn [xo, ez, eo, bu, nw0, na0, nq0, nr0, nw1, na1, nq1, nr1, bs, bp, bh, bf, bl, bg] f9 f427 from (hKn.mono k429 (fun _ h9 => h9))).tr ((show hKn [xo, ez, eo, bu, nw0, na0, nq0, nr0, nw1, na1, nq1, nr1, bs, bp, bh, bf, bl, bg] f427 f432 from (hKn.mono k434 (fun _ h9 => h9))).tr ((show hKn [xo, ez, eo, bu, nw0, na0, nq0, nr0, nw1, na1, nq1, nr1, bs, bp, bh, bf, bl, bg] f432 f436 from (hKn.mono k438 (fun _ h9 => h9))).tr ((show hKn [xo, ez, eo, bu, nw0, na0, nq0, nr0, nw1, na1, nq1, nr1, bs, bp, bh, bf, bl, bg] f436 f439 from (hKn.mono k441 (fun _ h9 => h9))).tr ((show hKn [xo, ez, eo, bu, nw0, na0, nq0, nr0, nw1, na1, nq1, nr1, bs, bp, bh, bf, bl, bg] f439 f442 from (hKn.mono k444 (fun _ h9 => h9))).tr ((show hKn [xo, ez, eo, bu, nw0, na0, nq0, nr0, nw1, na1, nq1, nr1, bs, bp, bh, bf, bl, bg] f442 f445 from (hKn.mono k447 (fun _ h9 => h9))).tr ((show hKn [xo, ez, eo, bu, nw0, na0, nq0, nr0, nw1, na1, nq1, nr1, bs, bp, bh, bf, bl, bg] f445 f448 from (hKn.mono k450 (fun _ h9 => h9))).tr ((show hKn [xo, ez, eo, bu, nw0, na0, nq0, nr0, nw1, na1, nq1, nr1, bs, bp, bh, bf, bl, bg] f448 f451 from (hKn.mono k453 (fun _ h9 => h9))).tr ((show hKn [xo, ez, eo, bu, nw0, na0, nq0, nr0, nw1, na1, nq1, nr1, bs, bp, bh, bf, bl, bg] f451 f454 from (hKn.mono k456 (fun _ h9 => h9))).tr ((show hKn [xo, ez, eo, bu, nw0, na0, nq0, nr0, nw1, na1, nq1, nr1, bs, bp, bh, bf, bl, bg] f454 f457 from (hKn.mono k459 (fun _ h9 => h9))).tr (show hKn [xo, ez, eo, bu, nw0, na0, nq0, nr0, nw1, na1, nq1, nr1, bs, bp, bh, bf, bl, bg] f457 f460 from (hKn.mono k462 (fun _ h9 => h9))))))))))))))⟩)

