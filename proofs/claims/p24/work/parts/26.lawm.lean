/-- the law's rows for the bundle -/
def LBX (G : hG) (f : hM) (lb lh lr lg : Nat) (n a cg x : Nat) (sa fl gv : Nat → Nat) (gh gl : Nat → Int32) : Prop := f lb = some (.inl (cI G, 64, .inl (nf sa))) ∧ (∃ (hh : Nat → Int64) (hn : Nat), f lh = some (.inl (cJ G, 1, .inr (.inl hh))) ∧ hh 0 = lN hn ∧ HB hn gh) ∧ f lr = some (.inl (cI G, 60, .inl (nf gv))) ∧ ∃ tk : Nat → Nat, f lg = some (.inl (cI G, 10, .inl (g10r tk gl a n x cg))) ∧ ∀ l, l < 3 → fl l = l + 3 * tk l
theorem nf_same {g : Nat → Nat} {k v : Nat} (h : g k = v) : upd (nf g) k (nI v) = nf g := by
  rw [nf_up]
  congr 1
  funext i
  by_cases e : i = k
  · rw [e, va_up_self, h]
  · rw [va_up_ne _ _ e]
theorem tk_up {fl tk : Nat → Nat} (h : ∀ l, l < 3 → fl l = l + 3 * tk l) {j : Nat} (hj : j < 3) : ∀ l, l < 3 → va_up fl j (fl j + 3) l = l + 3 * va_up tk j (tk j + 1) l := fun l hl => by
  by_cases e : l = j
  · rw [e, va_up_self, va_up_self, h j hj]; omega
  · rw [va_up_ne _ _ e, va_up_ne _ _ e]; exact h l hl
set_option maxHeartbeats 4000000 in
set_option maxRecDepth 100000 in
theorem c_L_bundles_0 {l : Launch} (hl : l.stackTraces = false) (G : hG) (f : hM) (xo ez eo bu nw0 na0 nq0 nr0 nw1 na1 nq1 nr1 bs bp bh bf bl bg : Nat) (S0 : ES) (S1 : ES) (gw0 : Nat → Int32) (ga0 : Nat → Int32) (gw1 : Nat → Int32) (ga1 : Nat → Int32) (n : Nat) (a : Nat) (cg : Nat) (x : Nat) (sa : Nat → Nat) (pk : Nat → Nat) (fl : Nat → Nat) (gv : Nat → Nat) (gh : Nat → Int32) (gl : Nat → Int32) (hC : CXW G f xo ez eo bu nw0 na0 nq0 nr0 nw1 na1 nq1 nr1 bs bp bh bf bl bg S0 S1 gw0 ga0 gw1 ga1 n a cg x sa pk fl gv gh gl) (lb lh lr lg : Nat) (hdis : ∀ p, p ∈ [xo, ez, eo, bu, nw0, na0, nq0, nr0, nw1, na1, nq1, nr1, bs, bp, bh, bf, bl, bg] → p ∉ [lb, lh, lr, lg]) (hdos : ∀ p, p ∈ [lb, lh, lr, lg] → p ∉ [xo, ez, eo, bu, nw0, na0, nq0, nr0, nw1, na1, nq1, nr1, bs, bp, bh, bf, bl, bg]) (hLB : LBX G f lb lh lr lg n a cg x sa fl gv gh gl) (ha60 : a ≤ 60) (hl0 : S0.2.2.2.2.2.2.2.2.length ≤ 52) (hl1 : S1.2.2.2.2.2.2.2.2.length ≤ 52) (u z : Int32) : CT l yL_bundles (.code yL_bundles cL_bundles 11 (some .boolean)) 8 126 4 24 G [.ref xo, .int 0, .int u, .int z, .ref lb, .ref lh, .ref lr, .ref lg] f (fun v f1 => v = some (.int 1) ∧ ∃ (n2 a2 c2 x2 : Nat) (sa2 pk2 fl2 gv2 : Nat → Nat) (gh2 gl2 : Nat → Int32), CXW G f1 xo ez eo bu nw0 na0 nq0 nr0 nw1 na1 nq1 nr1 bs bp bh bf bl bg S0 S1 gw0 ga0 gw1 ga1 n2 a2 c2 x2 sa2 pk2 fl2 gv2 gh2 gl2 ∧ LBX G f1 lb lh lr lg n2 a2 c2 x2 sa2 fl2 gv2 gh2 gl2 ∧ a2 ≤ 60 ∧ hKn [lb, lh, lr, lg, xo, ez, eo, bu, nw0, na0, nq0, nr0, nw1, na1, nq1, nr1, bs, bp, bh, bf, bl, bg] f f1) (fun E f1 => False) := by
  refine hp_start hl (own := RL) (by decide) rfl (Nat.le_of_ble_eq_true rfl) ?_
  intro p e s m args below meth c B0 hr hnm hout hw hS ls hl9
  have hx := B0.1
  have hb := B0.2.1
  have hl9 : lv_has ls 11 [(0, .ref xo), (1, .int 0), (2, .int u), (3, .int z), (4, .ref lb), (5, .ref lh), (6, .ref lr), (7, .ref lg)] := hl9
  obtain ⟨k_lb, ⟨hh, hn, k_lh, hh0, hHB⟩, k_lr, ⟨tk, k_lg, htk⟩⟩ := hLB
  have hB9 : BOK n a cg x sa pk := by obtain ⟨_, _, h9⟩ := hC; exact h9.2.2.2.2.2.2.2.2.2.2.2.2.2.2.1
  have hnle := hB9.nle
  have hsn := hB9.2.2.1
  have hHB1 := hHB.1
  have hflq : ∀ k, k < 3 → fl k < 243 := by obtain ⟨_, _, h9⟩ := hC; exact h9.2.2.2.2.2.2.2.2.2.2.2.2.2.2.2.1
  have n_lb_lh : lb ≠ lh := hneL k_lb k_lh (Nat.ne_of_beq_eq_false rfl)
  have n_lb_lr : lb ≠ lr := hneL k_lb k_lr (Nat.ne_of_beq_eq_false rfl)
  have n_lb_lg : lb ≠ lg := hneL k_lb k_lg (Nat.ne_of_beq_eq_false rfl)
  have n_lh_lr : lh ≠ lr := hneL k_lh k_lr (Nat.ne_of_beq_eq_false rfl)
  have n_lh_lg : lh ≠ lg := hneL k_lh k_lg (Nat.ne_of_beq_eq_false rfl)
  have n_lr_lg : lr ≠ lg := hneL k_lr k_lg (Nat.ne_of_beq_eq_false rfl)
  have sbA : ∀ x9, x9 ∈ [xo, ez, eo, bu, nw0, na0, nq0, nr0, nw1, na1, nq1, nr1, bs, bp, bh, bf, bl, bg] → x9 ∈ [lb, lh, lr, lg, xo, ez, eo, bu, nw0, na0, nq0, nr0, nw1, na1, nq1, nr1, bs, bp, bh, bf, bl, bg] := (sub_cons (List.mem_cons_of_mem _ (List.mem_cons_of_mem _ (List.mem_cons_of_mem _ (List.mem_cons_of_mem _ List.mem_cons_self)))) (sub_cons (List.mem_cons_of_mem _ (List.mem_cons_of_mem _ (List.mem_cons_of_mem _ (List.mem_cons_of_mem _ (List.mem_cons_of_mem _ List.mem_cons_self))))) (sub_cons (List.mem_cons_of_mem _ (List.mem_cons_of_mem _ (List.mem_cons_of_mem _ (List.mem_cons_of_mem _ (List.mem_cons_of_mem _ (List.mem_cons_of_mem _ List.mem_cons_self)))))) (sub_cons (List.mem_cons_of_mem _ (List.mem_cons_of_mem _ (List.mem_cons_of_mem _ (List.mem_cons_of_mem _ (List.mem_cons_of_mem _ (List.mem_cons_of_mem _ (List.mem_cons_of_mem _ List.mem_cons_self))))))) (sub_cons (List.mem_cons_of_mem _ (List.mem_cons_of_mem _ (List.mem_cons_of_mem _ (List.mem_cons_of_mem _ (List.mem_cons_of_mem _ (List.mem_cons_of_mem _ (List.mem_cons_of_mem _ (List.mem_cons_of_mem _ List.mem_cons_self)))))))) (sub_cons (List.mem_cons_of_mem _ (List.mem_cons_of_mem _ (List.mem_cons_of_mem _ (List.mem_cons_of_mem _ (List.mem_cons_of_mem _ (List.mem_cons_of_mem _ (List.mem_cons_of_mem _ (List.mem_cons_of_mem _ (List.mem_cons_of_mem _ List.mem_cons_self))))))))) (sub_cons (List.mem_cons_of_mem _ (List.mem_cons_of_mem _ (List.mem_cons_of_mem _ (List.mem_cons_of_mem _ (List.mem_cons_of_mem _ (List.mem_cons_of_mem _ (List.mem_cons_of_mem _ (List.mem_cons_of_mem _ (List.mem_cons_of_mem _ (List.mem_cons_of_mem _ List.mem_cons_self)))))))))) (sub_cons (List.mem_cons_of_mem _ (List.mem_cons_of_mem _ (List.mem_cons_of_mem _ (List.mem_cons_of_mem _ (List.mem_cons_of_mem _ (List.mem_cons_of_mem _ (List.mem_cons_of_mem _ (List.mem_cons_of_mem _ (List.mem_cons_of_mem _ (List.mem_cons_of_mem _ (List.mem_cons_of_mem _ List.mem_cons_self))))))))))) (sub_cons (List.mem_cons_of_mem _ (List.mem_cons_of_mem _ (List.mem_cons_of_mem _ (List.mem_cons_of_mem _ (List.mem_cons_of_mem _ (List.mem_cons_of_mem _ (List.mem_cons_of_mem _ (List.mem_cons_of_mem _ (List.mem_cons_of_mem _ (List.mem_cons_of_mem _ (List.mem_cons_of_mem _ (List.mem_cons_of_mem _ List.mem_cons_self)))))))))))) (sub_cons (List.mem_cons_of_mem _ (List.mem_cons_of_mem _ (List.mem_cons_of_mem _ (List.mem_cons_of_mem _ (List.mem_cons_of_mem _ (List.mem_cons_of_mem _ (List.mem_cons_of_mem _ (List.mem_cons_of_mem _ (List.mem_cons_of_mem _ (List.mem_cons_of_mem _ (List.mem_cons_of_mem _ (List.mem_cons_of_mem _ (List.mem_cons_of_mem _ List.mem_cons_self))))))))))))) (sub_cons (List.mem_cons_of_mem _ (List.mem_cons_of_mem _ (List.mem_cons_of_mem _ (List.mem_cons_of_mem _ (List.mem_cons_of_mem _ (List.mem_cons_of_mem _ (List.mem_cons_of_mem _ (List.mem_cons_of_mem _ (List.mem_cons_of_mem _ (List.mem_cons_of_mem _ (List.mem_cons_of_mem _ (List.mem_cons_of_mem _ (List.mem_cons_of_mem _ (List.mem_cons_of_mem _ List.mem_cons_self)))))))))))))) (sub_cons (List.mem_cons_of_mem _ (List.mem_cons_of_mem _ (List.mem_cons_of_mem _ (List.mem_cons_of_mem _ (List.mem_cons_of_mem _ (List.mem_cons_of_mem _ (List.mem_cons_of_mem _ (List.mem_cons_of_mem _ (List.mem_cons_of_mem _ (List.mem_cons_of_mem _ (List.mem_cons_of_mem _ (List.mem_cons_of_mem _ (List.mem_cons_of_mem _ (List.mem_cons_of_mem _ (List.mem_cons_of_mem _ List.mem_cons_self))))))))))))))) (sub_cons (List.mem_cons_of_mem _ (List.mem_cons_of_mem _ (List.mem_cons_of_mem _ (List.mem_cons_of_mem _ (List.mem_cons_of_mem _ (List.mem_cons_of_mem _ (List.mem_cons_of_mem _ (List.mem_cons_of_mem _ (List.mem_cons_of_mem _ (List.mem_cons_of_mem _ (List.mem_cons_of_mem _ (List.mem_cons_of_mem _ (List.mem_cons_of_mem _ (List.mem_cons_of_mem _ (List.mem_cons_of_mem _ (List.mem_cons_of_mem _ List.mem_cons_self)))))))))))))))) (sub_cons (List.mem_cons_of_mem _ (List.mem_cons_of_mem _ (List.mem_cons_of_mem _ (List.mem_cons_of_mem _ (List.mem_cons_of_mem _ (List.mem_cons_of_mem _ (List.mem_cons_of_mem _ (List.mem_cons_of_mem _ (List.mem_cons_of_mem _ (List.mem_cons_of_mem _ (List.mem_cons_of_mem _ (List.mem_cons_of_mem _ (List.mem_cons_of_mem _ (List.mem_cons_of_mem _ (List.mem_cons_of_mem _ (List.mem_cons_of_mem _ (List.mem_cons_of_mem _ List.mem_cons_self))))))))))))))))) (sub_cons (List.mem_cons_of_mem _ (List.mem_cons_of_mem _ (List.mem_cons_of_mem _ (List.mem_cons_of_mem _ (List.mem_cons_of_mem _ (List.mem_cons_of_mem _ (List.mem_cons_of_mem _ (List.mem_cons_of_mem _ (List.mem_cons_of_mem _ (List.mem_cons_of_mem _ (List.mem_cons_of_mem _ (List.mem_cons_of_mem _ (List.mem_cons_of_mem _ (List.mem_cons_of_mem _ (List.mem_cons_of_mem _ (List.mem_cons_of_mem _ (List.mem_cons_of_mem _ (List.mem_cons_of_mem _ List.mem_cons_self)))))))))))))))))) (sub_cons (List.mem_cons_of_mem _ (List.mem_cons_of_mem _ (List.mem_cons_of_mem _ (List.mem_cons_of_mem _ (List.mem_cons_of_mem _ (List.mem_cons_of_mem _ (List.mem_cons_of_mem _ (List.mem_cons_of_mem _ (List.mem_cons_of_mem _ (List.mem_cons_of_mem _ (List.mem_cons_of_mem _ (List.mem_cons_of_mem _ (List.mem_cons_of_mem _ (List.mem_cons_of_mem _ (List.mem_cons_of_mem _ (List.mem_cons_of_mem _ (List.mem_cons_of_mem _ (List.mem_cons_of_mem _ (List.mem_cons_of_mem _ List.mem_cons_self))))))))))))))))))) (sub_cons (List.mem_cons_of_mem _ (List.mem_cons_of_mem _ (List.mem_cons_of_mem _ (List.mem_cons_of_mem _ (List.mem_cons_of_mem _ (List.mem_cons_of_mem _ (List.mem_cons_of_mem _ (List.mem_cons_of_mem _ (List.mem_cons_of_mem _ (List.mem_cons_of_mem _ (List.mem_cons_of_mem _ (List.mem_cons_of_mem _ (List.mem_cons_of_mem _ (List.mem_cons_of_mem _ (List.mem_cons_of_mem _ (List.mem_cons_of_mem _ (List.mem_cons_of_mem _ (List.mem_cons_of_mem _ (List.mem_cons_of_mem _ (List.mem_cons_of_mem _ List.mem_cons_self)))))))))))))))))))) (sub_cons (List.mem_cons_of_mem _ (List.mem_cons_of_mem _ (List.mem_cons_of_mem _ (List.mem_cons_of_mem _ (List.mem_cons_of_mem _ (List.mem_cons_of_mem _ (List.mem_cons_of_mem _ (List.mem_cons_of_mem _ (List.mem_cons_of_mem _ (List.mem_cons_of_mem _ (List.mem_cons_of_mem _ (List.mem_cons_of_mem _ (List.mem_cons_of_mem _ (List.mem_cons_of_mem _ (List.mem_cons_of_mem _ (List.mem_cons_of_mem _ (List.mem_cons_of_mem _ (List.mem_cons_of_mem _ (List.mem_cons_of_mem _ (List.mem_cons_of_mem _ (List.mem_cons_of_mem _ List.mem_cons_self))))))))))))))))))))) sub_nil))))))))))))))))))
  refine lv_iload_n hx hb dL_bundles_0 rfl (lv_at hl9 1 rfl) ?_
  refine lv_iconst (v := 2) hx hb dL_bundles_1 (by decide) ?_
  refine lv_icmp_ge (tgt := 143) hx hb dL_bundles_2 (by decide) (fun c9 => absurd c9 (by decide)) (fun _ => ?_)
  refine lv_iconst (v := 1) hx hb dL_bundles_5 (by decide) ?_
  refine lv_iload_n hx hb dL_bundles_6 rfl (lv_at hl9 2 rfl) ?_
  refine lv_iconst (v := 4) hx hb dL_bundles_7 (by decide) ?_
  refine hp_S (As := [.int u, .int 4]) (rest := [.int 1]) B0 hw hS (c_L_low hl G f u 4 (by omega) (by omega)) mS_L_low qM_L_94 rfl rfl hl9.1 (Nat.le_of_ble_eq_true rfl) ⟨⟨Nat.le_of_ble_eq_true rfl, Nat.le_of_ble_eq_true rfl⟩, Nat.le_of_ble_eq_true rfl, Nat.le_of_ble_eq_true rfl⟩ dL_bundles_8 (fun E ce q9 f1 H locs hPX hw hS hce hcv hcl => ?_) (fun v f1 H locs hP hw hS => ?_)
  · exact hPX.elim
  · obtain ⟨ef9, j2, hj3, ev9⟩ := hP
    rw [ef9] at hw
    subst ev9
    refine W.eq (g2 := F0 m 11 ls [.int (nI j2), .int 1]) rfl ?_
    refine lv_iadd hx hb dL_bundles_11 ?_
    refine hp_c (v := (nI (1 + j2))) (nI_add 1 j2) ?_
    refine lv_istore (lv' := [(8, .int (nI (1 + j2))), (0, .ref xo), (1, .int 0), (2, .int u), (3, .int z), (4, .ref lb), (5, .ref lh), (6, .ref lr), (7, .ref lg)]) hx hb dL_bundles_12 hl9 (by decide) rfl (fun ls hl9 => ?_)
    refine lv_aload_n hx hb dL_bundles_14 rfl (lv_at hl9 1 rfl) ?_
    refine lv_iconst (v := 0) hx hb dL_bundles_15 (by decide) ?_
    refine hp_SH (As := [.ref xo, .int 0]) (rest := []) B0 hw hS (c_V_send_A hl G f xo ez eo bu nw0 na0 nq0 nr0 nw1 na1 nq1 nr1 bs bp bh bf bl bg S0 S1 gw0 ga0 gw1 ga1 n a cg x sa pk fl gv gh gl hC (Nat.lt_of_le_of_lt hl0 (by decide)) (Nat.lt_of_le_of_lt hl1 (by decide)) 0 (by decide)) mH_L_send qM_L_131 rfl rfl hl9.1 (Nat.le_of_ble_eq_true rfl) ⟨⟨Nat.le_of_ble_eq_true rfl, Nat.le_of_ble_eq_true rfl⟩, Nat.le_of_ble_eq_true rfl, Nat.le_of_ble_eq_true rfl⟩ dL_bundles_16 (fun E ce q9 f4 H locs hPX hw hS hce hcv hcl => ?_) (fun v f4 H locs hP hw hS => ?_)
    · exact hPX.elim
    · obtain ⟨ev9, hC5, k6⟩ := hP
      subst ev9
      have hC5 : CXW G f4 xo ez eo bu nw0 na0 nq0 nr0 nw1 na1 nq1 nr1 bs bp bh bf bl bg S0 S1 gw0 ga0 gw1 ga1 n a cg x sa pk fl gv gh gl := hC5
      refine W.eq (g2 := F0 m 19 ls [.int (-72)]) rfl ?_
      refine lv_bipush (v := (-72)) hx hb dL_bundles_19 (by decide) ?_
      refine lv_icmp_ne (tgt := 45) hx hb dL_bundles_21 (by decide) (fun c9 => absurd (by decide) c9) (fun _ => ?_)
      refine lv_aload_n hx hb dL_bundles_24 rfl (lv_at hl9 1 rfl) ?_
      refine lv_iconst (v := 5) hx hb dL_bundles_25 (by decide) ?_
      refine hp_SH (As := [.ref xo, .int 5]) (rest := []) B0 hw hS (c_V_send_A hl G f4 xo ez eo bu nw0 na0 nq0 nr0 nw1 na1 nq1 nr1 bs bp bh bf bl bg S0 S1 gw0 ga0 gw1 ga1 n a cg x sa pk fl gv gh gl hC5 (Nat.lt_of_le_of_lt hl0 (by decide)) (Nat.lt_of_le_of_lt hl1 (by decide)) 5 (by decide)) mH_L_send qM_L_131 rfl rfl hl9.1 (Nat.le_of_ble_eq_true rfl) ⟨⟨Nat.le_of_ble_eq_true rfl, Nat.le_of_ble_eq_true rfl⟩, Nat.le_of_ble_eq_true rfl, Nat.le_of_ble_eq_true rfl⟩ dL_bundles_26 (fun E ce q9 f7 H locs hPX hw hS hce hcv hcl => ?_) (fun v f7 H locs hP hw hS => ?_)
      · exact hPX.elim
      · obtain ⟨ev9, hC8, k10⟩ := hP
        subst ev9
        have hC8 : CXW G f7 xo ez eo bu nw0 na0 nq0 nr0 nw1 na1 nq1 nr1 bs bp bh bf bl bg S0 S1 gw0 ga0 gw1 ga1 n a cg x sa pk fl gv gh gl := hC8
        refine W.eq (g2 := F0 m 29 ls [.int (-72)]) rfl ?_
        refine lv_bipush (v := (-72)) hx hb dL_bundles_29 (by decide) ?_
        refine lv_icmp_ne (tgt := 45) hx hb dL_bundles_31 (by decide) (fun c9 => absurd (by decide) c9) (fun _ => ?_)
        refine lv_aload_n hx hb dL_bundles_34 rfl (lv_at hl9 1 rfl) ?_
        refine lv_ldc (v := 2147483647) hx hb B0.2.2.2.1 (B0.2.2.2.2.1 _ qK_L_68) dL_bundles_35 ?_
        refine hp_SH (As := [.ref xo, .int 2147483647]) (rest := []) B0 hw hS (c_V_send_A hl G f7 xo ez eo bu nw0 na0 nq0 nr0 nw1 na1 nq1 nr1 bs bp bh bf bl bg S0 S1 gw0 ga0 gw1 ga1 n a cg x sa pk fl gv gh gl hC8 (Nat.lt_of_le_of_lt hl0 (by decide)) (Nat.lt_of_le_of_lt hl1 (by decide)) 2147483647 (by decide)) mH_L_send qM_L_131 rfl rfl hl9.1 (Nat.le_of_ble_eq_true rfl) ⟨⟨Nat.le_of_ble_eq_true rfl, Nat.le_of_ble_eq_true rfl⟩, Nat.le_of_ble_eq_true rfl, Nat.le_of_ble_eq_true rfl⟩ dL_bundles_37 (fun E ce q9 f11 H locs hPX hw hS hce hcv hcl => ?_) (fun v f11 H locs hP hw hS => ?_)
        · exact hPX.elim
        · obtain ⟨ev9, hC12, k13⟩ := hP
          subst ev9
          have hC12 : CXW G f11 xo ez eo bu nw0 na0 nq0 nr0 nw1 na1 nq1 nr1 bs bp bh bf bl bg S0 S1 gw0 ga0 gw1 ga1 n a cg x sa pk fl gv gh gl := hC12
          refine W.eq (g2 := F0 m 40 ls [.int (-72)]) rfl ?_
          refine lv_bipush (v := (-72)) hx hb dL_bundles_40 (by decide) ?_
          refine lv_icmp_eq (tgt := 47) hx hb dL_bundles_42 (by decide) (fun _ => ?_) (fun c9 => absurd (by decide) c9)
          refine lv_aload hx hb dL_bundles_47 (lv_at hl9 8 rfl) ?_
          refine lv_bipush (v := 6) hx hb dL_bundles_49 (by decide) ?_
          have h14 : f4 lg = some (.inl (cI G, 10, .inl (g10r tk gl a n x cg))) := k6 _ _ k_lg (Nat.ne_of_beq_eq_false rfl) (hdos _ (List.mem_cons_of_mem _ (List.mem_cons_of_mem _ (List.mem_cons_of_mem _ List.mem_cons_self))))
          have h15 : f7 lg = some (.inl (cI G, 10, .inl (g10r tk gl a n x cg))) := k10 _ _ h14 (Nat.ne_of_beq_eq_false rfl) (hdos _ (List.mem_cons_of_mem _ (List.mem_cons_of_mem _ (List.mem_cons_of_mem _ List.mem_cons_self))))
          have h16 : f11 lg = some (.inl (cI G, 10, .inl (g10r tk gl a n x cg))) := k13 _ _ h15 (Nat.ne_of_beq_eq_false rfl) (hdos _ (List.mem_cons_of_mem _ (List.mem_cons_of_mem _ (List.mem_cons_of_mem _ List.mem_cons_self))))
          refine hp_iald B0 hw h16 (by unfold vp_in; decide) dL_bundles_51 ?_
          refine hp_c (v := (nI a)) (rfl) ?_
          refine lv_bipush (v := 56) hx hb dL_bundles_52 (by decide) ?_
          refine lv_icmp_le (tgt := 73) hx hb dL_bundles_54 (by decide) (fun c17 => ?_) (fun c17 => ?_)
          · have ha56 : a ≤ 56 := by have h9 := (nI_leI (show a < 2 ^ 31 by omega) (show 56 < 2 ^ 31 by omega)).mp c17; exact h9
            refine lv_aload hx hb dL_bundles_73 (lv_at hl9 5 rfl) ?_
            refine lv_aload hx hb dL_bundles_75 (lv_at hl9 8 rfl) ?_
            refine lv_bipush (v := 7) hx hb dL_bundles_77 (by decide) ?_
            refine hp_iald B0 hw h16 (by unfold vp_in; decide) dL_bundles_79 ?_
            refine hp_c (v := (nI n)) (rfl) ?_
            refine lv_aload hx hb dL_bundles_80 (lv_at hl9 8 rfl) ?_
            refine lv_bipush (v := 6) hx hb dL_bundles_82 (by decide) ?_
            refine hp_iald B0 hw h16 (by unfold vp_in; decide) dL_bundles_84 ?_
            refine hp_c (v := (nI a)) (rfl) ?_
            have h18 : f4 lb = some (.inl (cI G, 64, .inl (nf sa))) := k6 _ _ k_lb (Nat.ne_of_beq_eq_false rfl) (hdos _ List.mem_cons_self)
            have h19 : f7 lb = some (.inl (cI G, 64, .inl (nf sa))) := k10 _ _ h18 (Nat.ne_of_beq_eq_false rfl) (hdos _ List.mem_cons_self)
            have h20 : f11 lb = some (.inl (cI G, 64, .inl (nf sa))) := k13 _ _ h19 (Nat.ne_of_beq_eq_false rfl) (hdos _ List.mem_cons_self)
            refine hp_iast B0 hw hS h20 (vp_in_nI (show n < 64 by omega) (by omega)) dL_bundles_85 (fun H locs f21 ef21 hw hS => ?_)
            rw [show (upd (nf sa) ((nI n) : Int32).toNatClampNeg (nI a) : Nat → Int32) = (nf sa) from (by rw [nI_clamp (by omega)]; exact nf_same hsn)] at ef21
            have h22 : f21 lb = some (.inl (cI G, 64, .inl (nf sa))) := by rw [ef21, va_up_self]
            refine lv_aload hx hb dL_bundles_86 (lv_at hl9 8 rfl) ?_
            refine lv_bipush (v := 7) hx hb dL_bundles_88 (by decide) ?_
            refine lv_dup2_11 hx hb dL_bundles_90 rfl rfl ?_
            have h23 : f21 lg = some (.inl (cI G, 10, .inl (g10r tk gl a n x cg))) := by rw [ef21, va_up_ne _ _ (Ne.symm n_lb_lg)]; exact h16
            refine hp_iald B0 hw h23 (by unfold vp_in; decide) dL_bundles_91 ?_
            refine hp_c (v := (nI n)) (rfl) ?_
            refine lv_iconst (v := 1) hx hb dL_bundles_92 (by decide) ?_
            refine lv_iadd hx hb dL_bundles_93 ?_
            refine hp_c (v := (nI (n + 1))) (nI_1 n) ?_
            refine hp_iast B0 hw hS h23 (by unfold vp_in; decide) dL_bundles_94 (fun H locs f24 ef24 hw hS => ?_)
            rw [show (upd (g10r tk gl a n x cg) (7 : Int32).toNatClampNeg (nI (n + 1)) : Nat → Int32) = (g10r tk gl a (n + 1) x cg) from g10_7] at ef24
            have h25 : f24 lg = some (.inl (cI G, 10, .inl (g10r tk gl a (n + 1) x cg))) := by rw [ef24, va_up_self]
            refine lv_aload hx hb dL_bundles_95 (lv_at hl9 8 rfl) ?_
            refine lv_bipush (v := 6) hx hb dL_bundles_97 (by decide) ?_
            refine lv_dup2_11 hx hb dL_bundles_99 rfl rfl ?_
            refine hp_iald B0 hw h25 (by unfold vp_in; decide) dL_bundles_100 ?_
            refine hp_c (v := (nI a)) (rfl) ?_
            refine lv_iload hx hb dL_bundles_101 (lv_at hl9 0 rfl) ?_
            refine lv_iadd hx hb dL_bundles_103 ?_
            refine hp_c (v := (nI (a + (1 + j2)))) (nI_add a (1 + j2)) ?_
            refine hp_iast B0 hw hS h25 (by unfold vp_in; decide) dL_bundles_104 (fun H locs f26 ef26 hw hS => ?_)
            rw [show (upd (g10r tk gl a (n + 1) x cg) (6 : Int32).toNatClampNeg (nI (a + (1 + j2))) : Nat → Int32) = (g10r tk gl (a + (1 + j2)) (n + 1) x cg) from g10_6] at ef26
            have e27 : f26 = va_up f21 lg (some (.inl (cI G, 10, .inl (g10r tk gl (a + (1 + j2)) (n + 1) x cg)))) := by rw [ef26, ef24, bx_uu]
            have h28 : f26 lg = some (.inl (cI G, 10, .inl (g10r tk gl (a + (1 + j2)) (n + 1) x cg))) := by rw [ef26, va_up_self]
            refine lv_aload hx hb dL_bundles_105 (lv_at hl9 5 rfl) ?_
            refine lv_aload hx hb dL_bundles_107 (lv_at hl9 8 rfl) ?_
            refine lv_bipush (v := 7) hx hb dL_bundles_109 (by decide) ?_
            refine hp_iald B0 hw h28 (by unfold vp_in; decide) dL_bundles_111 ?_
            refine hp_c (v := (nI (n + 1))) (rfl) ?_
            refine lv_aload hx hb dL_bundles_112 (lv_at hl9 8 rfl) ?_
            refine lv_bipush (v := 6) hx hb dL_bundles_114 (by decide) ?_
            refine hp_iald B0 hw h28 (by unfold vp_in; decide) dL_bundles_116 ?_
            refine hp_c (v := (nI (a + (1 + j2)))) (rfl) ?_
            have h29 : f26 lb = some (.inl (cI G, 64, .inl (nf sa))) := by rw [e27, va_up_ne _ _ n_lb_lg]; exact h22
            refine hp_iast B0 hw hS h29 (vp_in_nI (show n + 1 < 64 by omega) (by omega)) dL_bundles_117 (fun H locs f30 ef30 hw hS => ?_)
            rw [show (upd (nf sa) ((nI (n + 1)) : Int32).toNatClampNeg (nI (a + (1 + j2))) : Nat → Int32) = (nf (va_up sa (n + 1) (a + (1 + j2)))) from (by rw [nI_clamp (by omega), nf_up])] at ef30
            have h31 : f30 lb = some (.inl (cI G, 64, .inl (nf (va_up sa (n + 1) (a + (1 + j2)))))) := by rw [ef30, va_up_self]
            refine lv_aload_n hx hb dL_bundles_118 rfl (lv_at hl9 1 rfl) ?_
            refine lv_iload hx hb dL_bundles_119 (lv_at hl9 0 rfl) ?_
            have h32 : f4 lh = some (.inl (cJ G, 1, .inr (.inl hh))) := k6 _ _ k_lh (Nat.ne_of_beq_eq_false rfl) (hdos _ (List.mem_cons_of_mem _ List.mem_cons_self))
            have h33 : f7 lh = some (.inl (cJ G, 1, .inr (.inl hh))) := k10 _ _ h32 (Nat.ne_of_beq_eq_false rfl) (hdos _ (List.mem_cons_of_mem _ List.mem_cons_self))
            have h34 : f11 lh = some (.inl (cJ G, 1, .inr (.inl hh))) := k13 _ _ h33 (Nat.ne_of_beq_eq_false rfl) (hdos _ (List.mem_cons_of_mem _ List.mem_cons_self))
            have h35 : f4 lr = some (.inl (cI G, 60, .inl (nf gv))) := k6 _ _ k_lr (Nat.ne_of_beq_eq_false rfl) (hdos _ (List.mem_cons_of_mem _ (List.mem_cons_of_mem _ List.mem_cons_self)))
            have h36 : f7 lr = some (.inl (cI G, 60, .inl (nf gv))) := k10 _ _ h35 (Nat.ne_of_beq_eq_false rfl) (hdos _ (List.mem_cons_of_mem _ (List.mem_cons_of_mem _ List.mem_cons_self)))
            have h37 : f11 lr = some (.inl (cI G, 60, .inl (nf gv))) := k13 _ _ h36 (Nat.ne_of_beq_eq_false rfl) (hdos _ (List.mem_cons_of_mem _ (List.mem_cons_of_mem _ List.mem_cons_self)))
            have h38 : f21 lh = some (.inl (cJ G, 1, .inr (.inl hh))) := by rw [ef21, va_up_ne _ _ (Ne.symm n_lb_lh)]; exact h34
            have h39 : f26 lh = some (.inl (cJ G, 1, .inr (.inl hh))) := by rw [e27, va_up_ne _ _ n_lh_lg]; exact h38
            have h40 : f30 lh = some (.inl (cJ G, 1, .inr (.inl hh))) := by rw [ef30, va_up_ne _ _ (Ne.symm n_lb_lh)]; exact h39
            have h41 : f21 lr = some (.inl (cI G, 60, .inl (nf gv))) := by rw [ef21, va_up_ne _ _ (Ne.symm n_lb_lr)]; exact h37
            have h42 : f26 lr = some (.inl (cI G, 60, .inl (nf gv))) := by rw [e27, va_up_ne _ _ n_lr_lg]; exact h41
            have h43 : f30 lr = some (.inl (cI G, 60, .inl (nf gv))) := by rw [ef30, va_up_ne _ _ (Ne.symm n_lb_lr)]; exact h42
            have h44 : f30 lg = some (.inl (cI G, 10, .inl (g10r tk gl (a + (1 + j2)) (n + 1) x cg))) := by rw [ef30, va_up_ne _ _ (Ne.symm n_lb_lg)]; exact h28
            have hC45 : CXW G f30 xo ez eo bu nw0 na0 nq0 nr0 nw1 na1 nq1 nr1 bs bp bh bf bl bg S0 S1 gw0 ga0 gw1 ga1 n a cg x sa pk fl gv gh gl := CXW.eq hC12 ((show hEq [lb, lh, lr, lg] f11 f21 from (by rw [ef21]; exact hEq.up List.mem_cons_self)).tr ((show hEq [lb, lh, lr, lg] f21 f26 from (by rw [e27]; exact hEq.up (List.mem_cons_of_mem _ (List.mem_cons_of_mem _ (List.mem_cons_of_mem _ List.mem_cons_self))))).tr (show hEq [lb, lh, lr, lg] f26 f30 from (by rw [ef30]; exact hEq.up List.mem_cons_self)))) hdis (fun b9 hb9 => by
                simp only [List.mem_cons, List.not_mem_nil, or_false] at hb9
                rcases hb9 with hb9 | hb9 | hb9 | hb9
                · rw [hb9]; exact ⟨_, _, h20, h31, (Nat.ne_of_beq_eq_false rfl), (Nat.ne_of_beq_eq_false rfl)⟩
                · rw [hb9]; exact ⟨_, _, h34, h40, (Nat.ne_of_beq_eq_false rfl), (Nat.ne_of_beq_eq_false rfl)⟩
                · rw [hb9]; exact ⟨_, _, h37, h43, (Nat.ne_of_beq_eq_false rfl), (Nat.ne_of_beq_eq_false rfl)⟩
                · rw [hb9]; exact ⟨_, _, h16, h44, (Nat.ne_of_beq_eq_false rfl), (Nat.ne_of_beq_eq_false rfl)⟩)
            refine hp_SH (As := [.ref xo, .int (nI (1 + j2))]) (rest := []) B0 hw hS (c_V_send_ok hl G f30 xo ez eo bu nw0 na0 nq0 nr0 nw1 na1 nq1 nr1 bs bp bh bf bl bg S0 S1 gw0 ga0 gw1 ga1 n a cg x sa pk fl gv gh gl hC45 (Nat.lt_of_le_of_lt hl0 (by decide)) (Nat.lt_of_le_of_lt hl1 (by decide)) (1 + j2) (by omega) (by omega) (by omega)) mH_L_send qM_L_131 rfl rfl hl9.1 (Nat.le_of_ble_eq_true rfl) ⟨⟨Nat.le_of_ble_eq_true rfl, Nat.le_of_ble_eq_true rfl⟩, Nat.le_of_ble_eq_true rfl, Nat.le_of_ble_eq_true rfl⟩ dL_bundles_121 (fun E ce q9 f46 H locs hPX hw hS hce hcv hcl => ?_) (fun v f46 H locs hP hw hS => ?_)
            · exact hPX.elim
            · obtain ⟨ev9, hC47, k48⟩ := hP
              subst ev9
              have hC47 : CXW G f46 xo ez eo bu nw0 na0 nq0 nr0 nw1 na1 nq1 nr1 bs bp bh bf bl bg S0 S1 gw0 ga0 gw1 ga1 (n + 1) (a + (1 + j2)) cg x (va_up sa (n + 1) (a + (1 + j2))) (pkA pk n a (1 + j2)) fl gv gh gl := hC47
              refine W.eq (g2 := F0 m 124 ls [.int ((nI a))]) rfl ?_
              refine lv_aload hx hb dL_bundles_124 (lv_at hl9 5 rfl) ?_
              refine lv_aload hx hb dL_bundles_126 (lv_at hl9 8 rfl) ?_
              refine lv_bipush (v := 7) hx hb dL_bundles_128 (by decide) ?_
              have h49 : f46 lg = some (.inl (cI G, 10, .inl (g10r tk gl (a + (1 + j2)) (n + 1) x cg))) := k48 _ _ h44 (Nat.ne_of_beq_eq_false rfl) (hdos _ (List.mem_cons_of_mem _ (List.mem_cons_of_mem _ (List.mem_cons_of_mem _ List.mem_cons_self))))
              refine hp_iald B0 hw h49 (by unfold vp_in; decide) dL_bundles_130 ?_
              refine hp_c (v := (nI (n + 1))) (rfl) ?_
              refine lv_iconst (v := 1) hx hb dL_bundles_131 (by decide) ?_
              refine lv_isub hx hb dL_bundles_132 ?_
              refine hp_c (v := (nI n)) (nI_pred n) ?_
              have h50 : f46 lb = some (.inl (cI G, 64, .inl (nf (va_up sa (n + 1) (a + (1 + j2)))))) := k48 _ _ h31 (Nat.ne_of_beq_eq_false rfl) (hdos _ List.mem_cons_self)
              refine hp_iald B0 hw h50 (vp_in_nI (show n < 64 by omega) (by omega)) dL_bundles_133 ?_
              refine hp_c (v := (nI a)) ((by rw [nI_clamp (by omega)]; show nI (va_up sa (n + 1) (a + (1 + j2)) n) = nI a; rw [va_up_ne _ _ (by omega), hsn])) ?_
              refine lv_icmp_ne (tgt := 141) hx hb dL_bundles_134 (by decide) (fun c9 => absurd rfl c9) (fun _ => ?_)
              refine lv_iconst (v := 1) hx hb dL_bundles_137 (by decide) ?_
              refine lv_goto (tgt := 142) hx hb dL_bundles_138 (by decide) ?_
              have h51 : f46 lh = some (.inl (cJ G, 1, .inr (.inl hh))) := k48 _ _ h40 (Nat.ne_of_beq_eq_false rfl) (hdos _ (List.mem_cons_of_mem _ List.mem_cons_self))
              have h52 : f46 lr = some (.inl (cI G, 60, .inl (nf gv))) := k48 _ _ h43 (Nat.ne_of_beq_eq_false rfl) (hdos _ (List.mem_cons_of_mem _ (List.mem_cons_of_mem _ List.mem_cons_self)))
              exact hp_zret (v := 1) B0 hw hS hr ⟨Nat.le_of_ble_eq_true rfl, Nat.le_of_ble_eq_true rfl⟩ (rfl) dL_bundles_142 (⟨rfl, (n + 1), (a + (1 + j2)), cg, x, (va_up sa (n + 1) (a + (1 + j2))), _, fl, gv, gh, gl, hC47, ⟨h50, ⟨hh, hn, h51, hh0, hHB⟩, h52, ⟨_, h49, htk⟩⟩, (by omega), ((show hKn [lb, lh, lr, lg, xo, ez, eo, bu, nw0, na0, nq0, nr0, nw1, na1, nq1, nr1, bs, bp, bh, bf, bl, bg] f f4 from (hKn.mono k6 sbA)).tr ((show hKn [lb, lh, lr, lg, xo, ez, eo, bu, nw0, na0, nq0, nr0, nw1, na1, nq1, nr1, bs, bp, bh, bf, bl, bg] f4 f7 from (hKn.mono k10 sbA)).tr ((show hKn [lb, lh, lr, lg, xo, ez, eo, bu, nw0, na0, nq0, nr0, nw1, na1, nq1, nr1, bs, bp, bh, bf, bl, bg] f7 f11 from (hKn.mono k13 sbA)).tr ((show hKn [lb, lh, lr, lg, xo, ez, eo, bu, nw0, na0, nq0, nr0, nw1, na1, nq1, nr1, bs, bp, bh, bf, bl, bg] f11 f21 from (by rw [ef21]; exact hKn.up List.mem_cons_self)).tr ((show hKn [lb, lh, lr, lg, xo, ez, eo, bu, nw0, na0, nq0, nr0, nw1, na1, nq1, nr1, bs, bp, bh, bf, bl, bg] f21 f26 from (by rw [e27]; exact hKn.up (List.mem_cons_of_mem _ (List.mem_cons_of_mem _ (List.mem_cons_of_mem _ List.mem_cons_self))))).tr ((show hKn [lb, lh, lr, lg, xo, ez, eo, bu, nw0, na0, nq0, nr0, nw1, na1, nq1, nr1, bs, bp, bh, bf, bl, bg] f26 f30 from (by rw [ef30]; exact hKn.up List.mem_cons_self)).tr (show hKn [lb, lh, lr, lg, xo, ez, eo, bu, nw0, na0, nq0, nr0, nw1, na1, nq1, nr1, bs, bp, bh, bf, bl, bg] f30 f46 from (hKn.mono k48 sbA))))))))⟩)
          · refine lv_aload_n hx hb dL_bundles_57 rfl (lv_at hl9 1 rfl) ?_
            refine lv_iconst (v := (-1)) hx hb dL_bundles_58 (by decide) ?_
            refine hp_SH (As := [.ref xo, .int (-1)]) (rest := []) B0 hw hS (c_V_send_A hl G f11 xo ez eo bu nw0 na0 nq0 nr0 nw1 na1 nq1 nr1 bs bp bh bf bl bg S0 S1 gw0 ga0 gw1 ga1 n a cg x sa pk fl gv gh gl hC12 (Nat.lt_of_le_of_lt hl0 (by decide)) (Nat.lt_of_le_of_lt hl1 (by decide)) (-1) (by decide)) mH_L_send qM_L_131 rfl rfl hl9.1 (Nat.le_of_ble_eq_true rfl) ⟨⟨Nat.le_of_ble_eq_true rfl, Nat.le_of_ble_eq_true rfl⟩, Nat.le_of_ble_eq_true rfl, Nat.le_of_ble_eq_true rfl⟩ dL_bundles_59 (fun E ce q9 f53 H locs hPX hw hS hce hcv hcl => ?_) (fun v f53 H locs hP hw hS => ?_)
            · exact hPX.elim
            · obtain ⟨ev9, hC54, k55⟩ := hP
              subst ev9
              have hC54 : CXW G f53 xo ez eo bu nw0 na0 nq0 nr0 nw1 na1 nq1 nr1 bs bp bh bf bl bg S0 S1 gw0 ga0 gw1 ga1 n a cg x sa pk fl gv gh gl := hC54
              refine W.eq (g2 := F0 m 62 ls [.int (-72)]) rfl ?_
              refine lv_bipush (v := (-72)) hx hb dL_bundles_62 (by decide) ?_
              refine lv_icmp_ne (tgt := 71) hx hb dL_bundles_64 (by decide) (fun c9 => absurd (by decide) c9) (fun _ => ?_)
              refine lv_iconst (v := 1) hx hb dL_bundles_67 (by decide) ?_
              refine lv_goto (tgt := 72) hx hb dL_bundles_68 (by decide) ?_
              have h56 : f4 lb = some (.inl (cI G, 64, .inl (nf sa))) := k6 _ _ k_lb (Nat.ne_of_beq_eq_false rfl) (hdos _ List.mem_cons_self)
              have h57 : f7 lb = some (.inl (cI G, 64, .inl (nf sa))) := k10 _ _ h56 (Nat.ne_of_beq_eq_false rfl) (hdos _ List.mem_cons_self)
              have h58 : f11 lb = some (.inl (cI G, 64, .inl (nf sa))) := k13 _ _ h57 (Nat.ne_of_beq_eq_false rfl) (hdos _ List.mem_cons_self)
              have h59 : f53 lb = some (.inl (cI G, 64, .inl (nf sa))) := k55 _ _ h58 (Nat.ne_of_beq_eq_false rfl) (hdos _ List.mem_cons_self)
              have h60 : f4 lh = some (.inl (cJ G, 1, .inr (.inl hh))) := k6 _ _ k_lh (Nat.ne_of_beq_eq_false rfl) (hdos _ (List.mem_cons_of_mem _ List.mem_cons_self))
              have h61 : f7 lh = some (.inl (cJ G, 1, .inr (.inl hh))) := k10 _ _ h60 (Nat.ne_of_beq_eq_false rfl) (hdos _ (List.mem_cons_of_mem _ List.mem_cons_self))
              have h62 : f11 lh = some (.inl (cJ G, 1, .inr (.inl hh))) := k13 _ _ h61 (Nat.ne_of_beq_eq_false rfl) (hdos _ (List.mem_cons_of_mem _ List.mem_cons_self))
              have h63 : f53 lh = some (.inl (cJ G, 1, .inr (.inl hh))) := k55 _ _ h62 (Nat.ne_of_beq_eq_false rfl) (hdos _ (List.mem_cons_of_mem _ List.mem_cons_self))
              have h64 : f4 lr = some (.inl (cI G, 60, .inl (nf gv))) := k6 _ _ k_lr (Nat.ne_of_beq_eq_false rfl) (hdos _ (List.mem_cons_of_mem _ (List.mem_cons_of_mem _ List.mem_cons_self)))
              have h65 : f7 lr = some (.inl (cI G, 60, .inl (nf gv))) := k10 _ _ h64 (Nat.ne_of_beq_eq_false rfl) (hdos _ (List.mem_cons_of_mem _ (List.mem_cons_of_mem _ List.mem_cons_self)))
              have h66 : f11 lr = some (.inl (cI G, 60, .inl (nf gv))) := k13 _ _ h65 (Nat.ne_of_beq_eq_false rfl) (hdos _ (List.mem_cons_of_mem _ (List.mem_cons_of_mem _ List.mem_cons_self)))
              have h67 : f53 lr = some (.inl (cI G, 60, .inl (nf gv))) := k55 _ _ h66 (Nat.ne_of_beq_eq_false rfl) (hdos _ (List.mem_cons_of_mem _ (List.mem_cons_of_mem _ List.mem_cons_self)))
              have h68 : f53 lg = some (.inl (cI G, 10, .inl (g10r tk gl a n x cg))) := k55 _ _ h16 (Nat.ne_of_beq_eq_false rfl) (hdos _ (List.mem_cons_of_mem _ (List.mem_cons_of_mem _ (List.mem_cons_of_mem _ List.mem_cons_self))))
              exact hp_zret (v := 1) B0 hw hS hr ⟨Nat.le_of_ble_eq_true rfl, Nat.le_of_ble_eq_true rfl⟩ (rfl) dL_bundles_72 (⟨rfl, n, a, cg, x, sa, _, fl, gv, gh, gl, hC54, ⟨h59, ⟨hh, hn, h63, hh0, hHB⟩, h67, ⟨_, h68, htk⟩⟩, (by omega), ((show hKn [lb, lh, lr, lg, xo, ez, eo, bu, nw0, na0, nq0, nr0, nw1, na1, nq1, nr1, bs, bp, bh, bf, bl, bg] f f4 from (hKn.mono k6 sbA)).tr ((show hKn [lb, lh, lr, lg, xo, ez, eo, bu, nw0, na0, nq0, nr0, nw1, na1, nq1, nr1, bs, bp, bh, bf, bl, bg] f4 f7 from (hKn.mono k10 sbA)).tr ((show hKn [lb, lh, lr, lg, xo, ez, eo, bu, nw0, na0, nq0, nr0, nw1, na1, nq1, nr1, bs, bp, bh, bf, bl, bg] f7 f11 from (hKn.mono k13 sbA)).tr (show hKn [lb, lh, lr, lg, xo, ez, eo, bu, nw0, na0, nq0, nr0, nw1, na1, nq1, nr1, bs, bp, bh, bf, bl, bg] f11 f53 from (hKn.mono k55 sbA)))))⟩)

set_option maxHeartbeats 4000000 in
set_option maxRecDepth 100000 in
theorem c_L_bundles_2 {l : Launch} (hl : l.stackTraces = false) (G : hG) (f : hM) (xo ez eo bu nw0 na0 nq0 nr0 nw1 na1 nq1 nr1 bs bp bh bf bl bg : Nat) (S0 : ES) (S1 : ES) (gw0 : Nat → Int32) (ga0 : Nat → Int32) (gw1 : Nat → Int32) (ga1 : Nat → Int32) (n : Nat) (a : Nat) (cg : Nat) (x : Nat) (sa : Nat → Nat) (pk : Nat → Nat) (fl : Nat → Nat) (gv : Nat → Nat) (gh : Nat → Int32) (gl : Nat → Int32) (hC : CXW G f xo ez eo bu nw0 na0 nq0 nr0 nw1 na1 nq1 nr1 bs bp bh bf bl bg S0 S1 gw0 ga0 gw1 ga1 n a cg x sa pk fl gv gh gl) (lb lh lr lg : Nat) (hdis : ∀ p, p ∈ [xo, ez, eo, bu, nw0, na0, nq0, nr0, nw1, na1, nq1, nr1, bs, bp, bh, bf, bl, bg] → p ∉ [lb, lh, lr, lg]) (hdos : ∀ p, p ∈ [lb, lh, lr, lg] → p ∉ [xo, ez, eo, bu, nw0, na0, nq0, nr0, nw1, na1, nq1, nr1, bs, bp, bh, bf, bl, bg]) (hLB : LBX G f lb lh lr lg n a cg x sa fl gv gh gl) (ha60 : a ≤ 60) (hl0 : S0.2.2.2.2.2.2.2.2.length ≤ 52) (hl1 : S1.2.2.2.2.2.2.2.2.length ≤ 52) (u z : Int32) : CT l yL_bundles (.code yL_bundles cL_bundles 11 (some .boolean)) 9 147 4 24 G [.ref xo, .int 2, .int u, .int z, .ref lb, .ref lh, .ref lr, .ref lg] f (fun v f1 => v = some (.int 1) ∧ ∃ (n2 a2 c2 x2 : Nat) (sa2 pk2 fl2 gv2 : Nat → Nat) (gh2 gl2 : Nat → Int32), CXW G f1 xo ez eo bu nw0 na0 nq0 nr0 nw1 na1 nq1 nr1 bs bp bh bf bl bg S0 S1 gw0 ga0 gw1 ga1 n2 a2 c2 x2 sa2 pk2 fl2 gv2 gh2 gl2 ∧ LBX G f1 lb lh lr lg n2 a2 c2 x2 sa2 fl2 gv2 gh2 gl2 ∧ a2 ≤ 60 ∧ hKn [lb, lh, lr, lg, xo, ez, eo, bu, nw0, na0, nq0, nr0, nw1, na1, nq1, nr1, bs, bp, bh, bf, bl, bg] f f1) (fun E f1 => False) := by
  refine hp_start hl (own := RL) (by decide) rfl (Nat.le_of_ble_eq_true rfl) ?_
  intro p e s m args below meth c B0 hr hnm hout hw hS ls hl9
  have hx := B0.1
  have hb := B0.2.1
  have hl9 : lv_has ls 11 [(0, .ref xo), (1, .int 2), (2, .int u), (3, .int z), (4, .ref lb), (5, .ref lh), (6, .ref lr), (7, .ref lg)] := hl9
  obtain ⟨k_lb, ⟨hh, hn, k_lh, hh0, hHB⟩, k_lr, ⟨tk, k_lg, htk⟩⟩ := hLB
  have hB9 : BOK n a cg x sa pk := by obtain ⟨_, _, h9⟩ := hC; exact h9.2.2.2.2.2.2.2.2.2.2.2.2.2.2.1
  have hnle := hB9.nle
  have hsn := hB9.2.2.1
  have hHB1 := hHB.1
  have hflq : ∀ k, k < 3 → fl k < 243 := by obtain ⟨_, _, h9⟩ := hC; exact h9.2.2.2.2.2.2.2.2.2.2.2.2.2.2.2.1
  have n_lb_lh : lb ≠ lh := hneL k_lb k_lh (Nat.ne_of_beq_eq_false rfl)
  have n_lb_lr : lb ≠ lr := hneL k_lb k_lr (Nat.ne_of_beq_eq_false rfl)
  have n_lb_lg : lb ≠ lg := hneL k_lb k_lg (Nat.ne_of_beq_eq_false rfl)
  have n_lh_lr : lh ≠ lr := hneL k_lh k_lr (Nat.ne_of_beq_eq_false rfl)
  have n_lh_lg : lh ≠ lg := hneL k_lh k_lg (Nat.ne_of_beq_eq_false rfl)
  have n_lr_lg : lr ≠ lg := hneL k_lr k_lg (Nat.ne_of_beq_eq_false rfl)
  have sbA : ∀ x9, x9 ∈ [xo, ez, eo, bu, nw0, na0, nq0, nr0, nw1, na1, nq1, nr1, bs, bp, bh, bf, bl, bg] → x9 ∈ [lb, lh, lr, lg, xo, ez, eo, bu, nw0, na0, nq0, nr0, nw1, na1, nq1, nr1, bs, bp, bh, bf, bl, bg] := (sub_cons (List.mem_cons_of_mem _ (List.mem_cons_of_mem _ (List.mem_cons_of_mem _ (List.mem_cons_of_mem _ List.mem_cons_self)))) (sub_cons (List.mem_cons_of_mem _ (List.mem_cons_of_mem _ (List.mem_cons_of_mem _ (List.mem_cons_of_mem _ (List.mem_cons_of_mem _ List.mem_cons_self))))) (sub_cons (List.mem_cons_of_mem _ (List.mem_cons_of_mem _ (List.mem_cons_of_mem _ (List.mem_cons_of_mem _ (List.mem_cons_of_mem _ (List.mem_cons_of_mem _ List.mem_cons_self)))))) (sub_cons (List.mem_cons_of_mem _ (List.mem_cons_of_mem _ (List.mem_cons_of_mem _ (List.mem_cons_of_mem _ (List.mem_cons_of_mem _ (List.mem_cons_of_mem _ (List.mem_cons_of_mem _ List.mem_cons_self))))))) (sub_cons (List.mem_cons_of_mem _ (List.mem_cons_of_mem _ (List.mem_cons_of_mem _ (List.mem_cons_of_mem _ (List.mem_cons_of_mem _ (List.mem_cons_of_mem _ (List.mem_cons_of_mem _ (List.mem_cons_of_mem _ List.mem_cons_self)))))))) (sub_cons (List.mem_cons_of_mem _ (List.mem_cons_of_mem _ (List.mem_cons_of_mem _ (List.mem_cons_of_mem _ (List.mem_cons_of_mem _ (List.mem_cons_of_mem _ (List.mem_cons_of_mem _ (List.mem_cons_of_mem _ (List.mem_cons_of_mem _ List.mem_cons_self))))))))) (sub_cons (List.mem_cons_of_mem _ (List.mem_cons_of_mem _ (List.mem_cons_of_mem _ (List.mem_cons_of_mem _ (List.mem_cons_of_mem _ (List.mem_cons_of_mem _ (List.mem_cons_of_mem _ (List.mem_cons_of_mem _ (List.mem_cons_of_mem _ (List.mem_cons_of_mem _ List.mem_cons_self)))))))))) (sub_cons (List.mem_cons_of_mem _ (List.mem_cons_of_mem _ (List.mem_cons_of_mem _ (List.mem_cons_of_mem _ (List.mem_cons_of_mem _ (List.mem_cons_of_mem _ (List.mem_cons_of_mem _ (List.mem_cons_of_mem _ (List.mem_cons_of_mem _ (List.mem_cons_of_mem _ (List.mem_cons_of_mem _ List.mem_cons_self))))))))))) (sub_cons (List.mem_cons_of_mem _ (List.mem_cons_of_mem _ (List.mem_cons_of_mem _ (List.mem_cons_of_mem _ (List.mem_cons_of_mem _ (List.mem_cons_of_mem _ (List.mem_cons_of_mem _ (List.mem_cons_of_mem _ (List.mem_cons_of_mem _ (List.mem_cons_of_mem _ (List.mem_cons_of_mem _ (List.mem_cons_of_mem _ List.mem_cons_self)))))))))))) (sub_cons (List.mem_cons_of_mem _ (List.mem_cons_of_mem _ (List.mem_cons_of_mem _ (List.mem_cons_of_mem _ (List.mem_cons_of_mem _ (List.mem_cons_of_mem _ (List.mem_cons_of_mem _ (List.mem_cons_of_mem _ (List.mem_cons_of_mem _ (List.mem_cons_of_mem _ (List.mem_cons_of_mem _ (List.mem_cons_of_mem _ (List.mem_cons_of_mem _ List.mem_cons_self))))))))))))) (sub_cons (List.mem_cons_of_mem _ (List.mem_cons_of_mem _ (List.mem_cons_of_mem _ (List.mem_cons_of_mem _ (List.mem_cons_of_mem _ (List.mem_cons_of_mem _ (List.mem_cons_of_mem _ (List.mem_cons_of_mem _ (List.mem_cons_of_mem _ (List.mem_cons_of_mem _ (List.mem_cons_of_mem _ (List.mem_cons_of_mem _ (List.mem_cons_of_mem _ (List.mem_cons_of_mem _ List.mem_cons_self)))))))))))))) (sub_cons (List.mem_cons_of_mem _ (List.mem_cons_of_mem _ (List.mem_cons_of_mem _ (List.mem_cons_of_mem _ (List.mem_cons_of_mem _ (List.mem_cons_of_mem _ (List.mem_cons_of_mem _ (List.mem_cons_of_mem _ (List.mem_cons_of_mem _ (List.mem_cons_of_mem _ (List.mem_cons_of_mem _ (List.mem_cons_of_mem _ (List.mem_cons_of_mem _ (List.mem_cons_of_mem _ (List.mem_cons_of_mem _ List.mem_cons_self))))))))))))))) (sub_cons (List.mem_cons_of_mem _ (List.mem_cons_of_mem _ (List.mem_cons_of_mem _ (List.mem_cons_of_mem _ (List.mem_cons_of_mem _ (List.mem_cons_of_mem _ (List.mem_cons_of_mem _ (List.mem_cons_of_mem _ (List.mem_cons_of_mem _ (List.mem_cons_of_mem _ (List.mem_cons_of_mem _ (List.mem_cons_of_mem _ (List.mem_cons_of_mem _ (List.mem_cons_of_mem _ (List.mem_cons_of_mem _ (List.mem_cons_of_mem _ List.mem_cons_self)))))))))))))))) (sub_cons (List.mem_cons_of_mem _ (List.mem_cons_of_mem _ (List.mem_cons_of_mem _ (List.mem_cons_of_mem _ (List.mem_cons_of_mem _ (List.mem_cons_of_mem _ (List.mem_cons_of_mem _ (List.mem_cons_of_mem _ (List.mem_cons_of_mem _ (List.mem_cons_of_mem _ (List.mem_cons_of_mem _ (List.mem_cons_of_mem _ (List.mem_cons_of_mem _ (List.mem_cons_of_mem _ (List.mem_cons_of_mem _ (List.mem_cons_of_mem _ (List.mem_cons_of_mem _ List.mem_cons_self))))))))))))))))) (sub_cons (List.mem_cons_of_mem _ (List.mem_cons_of_mem _ (List.mem_cons_of_mem _ (List.mem_cons_of_mem _ (List.mem_cons_of_mem _ (List.mem_cons_of_mem _ (List.mem_cons_of_mem _ (List.mem_cons_of_mem _ (List.mem_cons_of_mem _ (List.mem_cons_of_mem _ (List.mem_cons_of_mem _ (List.mem_cons_of_mem _ (List.mem_cons_of_mem _ (List.mem_cons_of_mem _ (List.mem_cons_of_mem _ (List.mem_cons_of_mem _ (List.mem_cons_of_mem _ (List.mem_cons_of_mem _ List.mem_cons_self)))))))))))))))))) (sub_cons (List.mem_cons_of_mem _ (List.mem_cons_of_mem _ (List.mem_cons_of_mem _ (List.mem_cons_of_mem _ (List.mem_cons_of_mem _ (List.mem_cons_of_mem _ (List.mem_cons_of_mem _ (List.mem_cons_of_mem _ (List.mem_cons_of_mem _ (List.mem_cons_of_mem _ (List.mem_cons_of_mem _ (List.mem_cons_of_mem _ (List.mem_cons_of_mem _ (List.mem_cons_of_mem _ (List.mem_cons_of_mem _ (List.mem_cons_of_mem _ (List.mem_cons_of_mem _ (List.mem_cons_of_mem _ (List.mem_cons_of_mem _ List.mem_cons_self))))))))))))))))))) (sub_cons (List.mem_cons_of_mem _ (List.mem_cons_of_mem _ (List.mem_cons_of_mem _ (List.mem_cons_of_mem _ (List.mem_cons_of_mem _ (List.mem_cons_of_mem _ (List.mem_cons_of_mem _ (List.mem_cons_of_mem _ (List.mem_cons_of_mem _ (List.mem_cons_of_mem _ (List.mem_cons_of_mem _ (List.mem_cons_of_mem _ (List.mem_cons_of_mem _ (List.mem_cons_of_mem _ (List.mem_cons_of_mem _ (List.mem_cons_of_mem _ (List.mem_cons_of_mem _ (List.mem_cons_of_mem _ (List.mem_cons_of_mem _ (List.mem_cons_of_mem _ List.mem_cons_self)))))))))))))))))))) (sub_cons (List.mem_cons_of_mem _ (List.mem_cons_of_mem _ (List.mem_cons_of_mem _ (List.mem_cons_of_mem _ (List.mem_cons_of_mem _ (List.mem_cons_of_mem _ (List.mem_cons_of_mem _ (List.mem_cons_of_mem _ (List.mem_cons_of_mem _ (List.mem_cons_of_mem _ (List.mem_cons_of_mem _ (List.mem_cons_of_mem _ (List.mem_cons_of_mem _ (List.mem_cons_of_mem _ (List.mem_cons_of_mem _ (List.mem_cons_of_mem _ (List.mem_cons_of_mem _ (List.mem_cons_of_mem _ (List.mem_cons_of_mem _ (List.mem_cons_of_mem _ (List.mem_cons_of_mem _ List.mem_cons_self))))))))))))))))))))) sub_nil))))))))))))))))))
  refine lv_iload_n hx hb dL_bundles_0 rfl (lv_at hl9 1 rfl) ?_
  refine lv_iconst (v := 2) hx hb dL_bundles_1 (by decide) ?_
  refine lv_icmp_ge (tgt := 143) hx hb dL_bundles_2 (by decide) (fun _ => ?_) (fun c9 => absurd (by decide) c9)
  refine lv_iload_n hx hb dL_bundles_143 rfl (lv_at hl9 2 rfl) ?_
  refine lv_iconst (v := 3) hx hb dL_bundles_144 (by decide) ?_
  refine hp_S (As := [.int u, .int 3]) (rest := []) B0 hw hS (c_L_low hl G f u 3 (by omega) (by omega)) mS_L_low qM_L_94 rfl rfl hl9.1 (Nat.le_of_ble_eq_true rfl) ⟨⟨Nat.le_of_ble_eq_true rfl, Nat.le_of_ble_eq_true rfl⟩, Nat.le_of_ble_eq_true rfl, Nat.le_of_ble_eq_true rfl⟩ dL_bundles_145 (fun E ce q9 f1 H locs hPX hw hS hce hcv hcl => ?_) (fun v f1 H locs hP hw hS => ?_)
  · exact hPX.elim
  · obtain ⟨ef9, j2, hj3, ev9⟩ := hP
    rw [ef9] at hw
    subst ev9
    refine W.eq (g2 := F0 m 148 ls [.int (nI j2)]) rfl ?_
    refine lv_istore (lv' := [(8, .int (nI j2)), (0, .ref xo), (1, .int 2), (2, .int u), (3, .int z), (4, .ref lb), (5, .ref lh), (6, .ref lr), (7, .ref lg)]) hx hb dL_bundles_148 hl9 (by decide) rfl (fun ls hl9 => ?_)
    refine lv_iload hx hb dL_bundles_150 (lv_at hl9 0 rfl) ?_
    refine lv_iconst (v := 3) hx hb dL_bundles_152 (by decide) ?_
    refine lv_aload hx hb dL_bundles_153 (lv_at hl9 8 rfl) ?_
    refine lv_iload hx hb dL_bundles_155 (lv_at hl9 0 rfl) ?_
    refine hp_iald B0 hw k_lg (vp_in_nI (show j2 < 10 by omega) (by omega)) dL_bundles_157 ?_
    refine hp_c (v := (nI (tk j2))) ((by rw [nI_clamp (by omega)]; exact if_pos (by omega))) ?_
    refine lv_imul hx hb dL_bundles_158 ?_
    refine hp_c (v := (nI (3 * tk j2))) (pk_mul 3 _) ?_
    refine lv_iadd hx hb dL_bundles_159 ?_
    refine hp_c (v := (nI (fl j2))) ((nI_add j2 (3 * tk j2)).trans (by rw [htk j2 (by omega)])) ?_
    have hfj := hflq j2 (by omega)
    refine lv_istore (lv' := [(9, .int (nI (fl j2))), (8, .int (nI j2)), (0, .ref xo), (1, .int 2), (2, .int u), (3, .int z), (4, .ref lb), (5, .ref lh), (6, .ref lr), (7, .ref lg)]) hx hb dL_bundles_160 hl9 (by decide) rfl (fun ls hl9 => ?_)
    refine lv_aload_n hx hb dL_bundles_162 rfl (lv_at hl9 2 rfl) ?_
    refine lv_iconst (v := 3) hx hb dL_bundles_163 (by decide) ?_
    refine hp_SH (As := [.ref xo, .int 3]) (rest := []) B0 hw hS (c_V_come_L hl G f xo ez eo bu nw0 na0 nq0 nr0 nw1 na1 nq1 nr1 bs bp bh bf bl bg S0 S1 gw0 ga0 gw1 ga1 n a cg x sa pk fl gv gh gl hC (Nat.lt_of_le_of_lt hl0 (by decide)) (Nat.lt_of_le_of_lt hl1 (by decide)) 3 (by decide)) mH_L_come qM_L_133 rfl rfl hl9.1 (Nat.le_of_ble_eq_true rfl) ⟨⟨Nat.le_of_ble_eq_true rfl, Nat.le_of_ble_eq_true rfl⟩, Nat.le_of_ble_eq_true rfl, Nat.le_of_ble_eq_true rfl⟩ dL_bundles_164 (fun E ce q9 f4 H locs hPX hw hS hce hcv hcl => ?_) (fun v f4 H locs hP hw hS => ?_)
    · exact hPX.elim
    · obtain ⟨ev9, hC5, k6⟩ := hP
      subst ev9
      have hC5 : CXW G f4 xo ez eo bu nw0 na0 nq0 nr0 nw1 na1 nq1 nr1 bs bp bh bf bl bg S0 S1 gw0 ga0 gw1 ga1 n a cg x sa pk fl gv gh gl := hC5
      refine W.eq (g2 := F0 m 167 ls [.int (-71)]) rfl ?_
      refine lv_bipush (v := (-71)) hx hb dL_bundles_167 (by decide) ?_
      refine lv_icmp_ne (tgt := 182) hx hb dL_bundles_169 (by decide) (fun c9 => absurd (by decide) c9) (fun _ => ?_)
      refine lv_aload_n hx hb dL_bundles_172 rfl (lv_at hl9 2 rfl) ?_
      refine lv_iconst (v := (-1)) hx hb dL_bundles_173 (by decide) ?_
      refine hp_SH (As := [.ref xo, .int (-1)]) (rest := []) B0 hw hS (c_V_drop_L hl G f4 xo ez eo bu nw0 na0 nq0 nr0 nw1 na1 nq1 nr1 bs bp bh bf bl bg S0 S1 gw0 ga0 gw1 ga1 n a cg x sa pk fl gv gh gl hC5 (Nat.lt_of_le_of_lt hl0 (by decide)) (Nat.lt_of_le_of_lt hl1 (by decide)) (-1) (by decide)) mH_L_drop qM_L_135 rfl rfl hl9.1 (Nat.le_of_ble_eq_true rfl) ⟨⟨Nat.le_of_ble_eq_true rfl, Nat.le_of_ble_eq_true rfl⟩, Nat.le_of_ble_eq_true rfl, Nat.le_of_ble_eq_true rfl⟩ dL_bundles_174 (fun E ce q9 f7 H locs hPX hw hS hce hcv hcl => ?_) (fun v f7 H locs hP hw hS => ?_)
      · exact hPX.elim
      · obtain ⟨ev9, hC8, k10⟩ := hP
        subst ev9
        have hC8 : CXW G f7 xo ez eo bu nw0 na0 nq0 nr0 nw1 na1 nq1 nr1 bs bp bh bf bl bg S0 S1 gw0 ga0 gw1 ga1 n a cg x sa pk fl gv gh gl := hC8
        refine W.eq (g2 := F0 m 177 ls [.int (-71)]) rfl ?_
        refine lv_bipush (v := (-71)) hx hb dL_bundles_177 (by decide) ?_
        refine lv_icmp_eq (tgt := 184) hx hb dL_bundles_179 (by decide) (fun _ => ?_) (fun c9 => absurd (by decide) c9)
        refine lv_iload hx hb dL_bundles_184 (lv_at hl9 0 rfl) ?_
        refine lv_aload hx hb dL_bundles_186 (lv_at hl9 9 rfl) ?_
        refine lv_bipush (v := 6) hx hb dL_bundles_188 (by decide) ?_
        have h11 : f4 lg = some (.inl (cI G, 10, .inl (g10r tk gl a n x cg))) := k6 _ _ k_lg (Nat.ne_of_beq_eq_false rfl) (hdos _ (List.mem_cons_of_mem _ (List.mem_cons_of_mem _ (List.mem_cons_of_mem _ List.mem_cons_self))))
        have h12 : f7 lg = some (.inl (cI G, 10, .inl (g10r tk gl a n x cg))) := k10 _ _ h11 (Nat.ne_of_beq_eq_false rfl) (hdos _ (List.mem_cons_of_mem _ (List.mem_cons_of_mem _ (List.mem_cons_of_mem _ List.mem_cons_self))))
        refine hp_iald B0 hw h12 (by unfold vp_in; decide) dL_bundles_190 ?_
        refine hp_c (v := (nI a)) (rfl) ?_
        refine lv_icmp_lt (tgt := 222) hx hb dL_bundles_191 (by decide) (fun c13 => ?_) (fun c13 => ?_)
        · have hpl : fl j2 < a := Nat.lt_of_not_le (fun h9 => nI_nlt h9 (by omega) c13)
          have hf60 : fl j2 < 60 := Nat.lt_of_lt_of_le hpl ha60
          refine lv_aload hx hb dL_bundles_222 (lv_at hl9 9 rfl) ?_
          refine lv_iload hx hb dL_bundles_224 (lv_at hl9 1 rfl) ?_
          refine lv_dup2_11 hx hb dL_bundles_226 rfl rfl ?_
          refine hp_iald B0 hw h12 (vp_in_nI (show j2 < 10 by omega) (by omega)) dL_bundles_227 ?_
          refine hp_c (v := (nI (tk j2))) ((by rw [nI_clamp (by omega)]; exact if_pos (by omega))) ?_
          refine lv_iconst (v := 1) hx hb dL_bundles_228 (by decide) ?_
          refine lv_iadd hx hb dL_bundles_229 ?_
          refine hp_c (v := (nI (tk j2 + 1))) (nI_1 _) ?_
          refine hp_iast B0 hw hS h12 (vp_in_nI (show j2 < 10 by omega) (by omega)) dL_bundles_230 (fun H locs f14 ef14 hw hS => ?_)
          rw [show (upd (g10r tk gl a n x cg) ((nI j2) : Int32).toNatClampNeg (nI (tk j2 + 1)) : Nat → Int32) = (g10r (va_up tk j2 (tk j2 + 1)) gl a n x cg) from (by rw [nI_clamp (by omega)]; exact g10_t (by omega))] at ef14
          have h15 : f14 lg = some (.inl (cI G, 10, .inl (g10r (va_up tk j2 (tk j2 + 1)) gl a n x cg))) := by rw [ef14, va_up_self]
          refine lv_iload_n hx hb dL_bundles_231 rfl (lv_at hl9 3 rfl) ?_
          refine lv_iconst (v := 2) hx hb dL_bundles_232 (by decide) ?_
          refine lv_icmp_ne (tgt := 253) hx hb dL_bundles_233 (by decide) (fun c9 => absurd (by decide) c9) (fun _ => ?_)
          refine lv_aload_n hx hb dL_bundles_236 rfl (lv_at hl9 2 rfl) ?_
          refine lv_iload hx hb dL_bundles_237 (lv_at hl9 1 rfl) ?_
          have h16 : f4 lb = some (.inl (cI G, 64, .inl (nf sa))) := k6 _ _ k_lb (Nat.ne_of_beq_eq_false rfl) (hdos _ List.mem_cons_self)
          have h17 : f7 lb = some (.inl (cI G, 64, .inl (nf sa))) := k10 _ _ h16 (Nat.ne_of_beq_eq_false rfl) (hdos _ List.mem_cons_self)
          have h18 : f4 lh = some (.inl (cJ G, 1, .inr (.inl hh))) := k6 _ _ k_lh (Nat.ne_of_beq_eq_false rfl) (hdos _ (List.mem_cons_of_mem _ List.mem_cons_self))
          have h19 : f7 lh = some (.inl (cJ G, 1, .inr (.inl hh))) := k10 _ _ h18 (Nat.ne_of_beq_eq_false rfl) (hdos _ (List.mem_cons_of_mem _ List.mem_cons_self))
          have h20 : f4 lr = some (.inl (cI G, 60, .inl (nf gv))) := k6 _ _ k_lr (Nat.ne_of_beq_eq_false rfl) (hdos _ (List.mem_cons_of_mem _ (List.mem_cons_of_mem _ List.mem_cons_self)))
          have h21 : f7 lr = some (.inl (cI G, 60, .inl (nf gv))) := k10 _ _ h20 (Nat.ne_of_beq_eq_false rfl) (hdos _ (List.mem_cons_of_mem _ (List.mem_cons_of_mem _ List.mem_cons_self)))
          have h22 : f14 lb = some (.inl (cI G, 64, .inl (nf sa))) := by rw [ef14, va_up_ne _ _ n_lb_lg]; exact h17
          have h23 : f14 lh = some (.inl (cJ G, 1, .inr (.inl hh))) := by rw [ef14, va_up_ne _ _ n_lh_lg]; exact h19
          have h24 : f14 lr = some (.inl (cI G, 60, .inl (nf gv))) := by rw [ef14, va_up_ne _ _ n_lr_lg]; exact h21
          have hC25 : CXW G f14 xo ez eo bu nw0 na0 nq0 nr0 nw1 na1 nq1 nr1 bs bp bh bf bl bg S0 S1 gw0 ga0 gw1 ga1 n a cg x sa pk fl gv gh gl := CXW.eq hC8 (show hEq [lb, lh, lr, lg] f7 f14 from (by rw [ef14]; exact hEq.up (List.mem_cons_of_mem _ (List.mem_cons_of_mem _ (List.mem_cons_of_mem _ List.mem_cons_self))))) hdis (fun b9 hb9 => by
              simp only [List.mem_cons, List.not_mem_nil, or_false] at hb9
              rcases hb9 with hb9 | hb9 | hb9 | hb9
              · rw [hb9]; exact ⟨_, _, h17, h22, (Nat.ne_of_beq_eq_false rfl), (Nat.ne_of_beq_eq_false rfl)⟩
              · rw [hb9]; exact ⟨_, _, h19, h23, (Nat.ne_of_beq_eq_false rfl), (Nat.ne_of_beq_eq_false rfl)⟩
              · rw [hb9]; exact ⟨_, _, h21, h24, (Nat.ne_of_beq_eq_false rfl), (Nat.ne_of_beq_eq_false rfl)⟩
              · rw [hb9]; exact ⟨_, _, h12, h15, (Nat.ne_of_beq_eq_false rfl), (Nat.ne_of_beq_eq_false rfl)⟩)
          refine hp_SH (As := [.ref xo, .int (nI j2)]) (rest := []) B0 hw hS (c_V_drop_ok hl G f14 xo ez eo bu nw0 na0 nq0 nr0 nw1 na1 nq1 nr1 bs bp bh bf bl bg S0 S1 gw0 ga0 gw1 ga1 n a cg x sa pk fl gv gh gl hC25 (Nat.lt_of_le_of_lt hl0 (by decide)) (Nat.lt_of_le_of_lt hl1 (by decide)) j2 (by omega) hpl) mH_L_drop qM_L_135 rfl rfl hl9.1 (Nat.le_of_ble_eq_true rfl) ⟨⟨Nat.le_of_ble_eq_true rfl, Nat.le_of_ble_eq_true rfl⟩, Nat.le_of_ble_eq_true rfl, Nat.le_of_ble_eq_true rfl⟩ dL_bundles_239 (fun E ce q9 f26 H locs hPX hw hS hce hcv hcl => ?_) (fun v f26 H locs hP hw hS => ?_)
          · exact hPX.elim
          · obtain ⟨ev9, hC27, k28⟩ := hP
            subst ev9
            have hC27 : CXW G f26 xo ez eo bu nw0 na0 nq0 nr0 nw1 na1 nq1 nr1 bs bp bh bf bl bg S0 S1 gw0 ga0 gw1 ga1 n a cg x sa pk (va_up fl j2 (fl j2 + 3)) gv gh gl := hC27
            refine W.eq (g2 := F0 m 242 ls [.int ((nI (fl j2)))]) rfl ?_
            refine lv_iload hx hb dL_bundles_242 (lv_at hl9 0 rfl) ?_
            refine lv_icmp_ne (tgt := 251) hx hb dL_bundles_244 (by decide) (fun c9 => absurd rfl c9) (fun _ => ?_)
            refine lv_iconst (v := 1) hx hb dL_bundles_247 (by decide) ?_
            refine lv_goto (tgt := 252) hx hb dL_bundles_248 (by decide) ?_
            have h29 : f26 lb = some (.inl (cI G, 64, .inl (nf sa))) := k28 _ _ h22 (Nat.ne_of_beq_eq_false rfl) (hdos _ List.mem_cons_self)
            have h30 : f26 lh = some (.inl (cJ G, 1, .inr (.inl hh))) := k28 _ _ h23 (Nat.ne_of_beq_eq_false rfl) (hdos _ (List.mem_cons_of_mem _ List.mem_cons_self))
            have h31 : f26 lr = some (.inl (cI G, 60, .inl (nf gv))) := k28 _ _ h24 (Nat.ne_of_beq_eq_false rfl) (hdos _ (List.mem_cons_of_mem _ (List.mem_cons_of_mem _ List.mem_cons_self)))
            have h32 : f26 lg = some (.inl (cI G, 10, .inl (g10r (va_up tk j2 (tk j2 + 1)) gl a n x cg))) := k28 _ _ h15 (Nat.ne_of_beq_eq_false rfl) (hdos _ (List.mem_cons_of_mem _ (List.mem_cons_of_mem _ (List.mem_cons_of_mem _ List.mem_cons_self))))
            exact hp_zret (v := 1) B0 hw hS hr ⟨Nat.le_of_ble_eq_true rfl, Nat.le_of_ble_eq_true rfl⟩ (rfl) dL_bundles_252 (⟨rfl, n, a, cg, x, sa, _, (va_up fl j2 (fl j2 + 3)), gv, gh, gl, hC27, ⟨h29, ⟨hh, hn, h30, hh0, hHB⟩, h31, ⟨_, h32, (tk_up htk (by omega))⟩⟩, (by omega), ((show hKn [lb, lh, lr, lg, xo, ez, eo, bu, nw0, na0, nq0, nr0, nw1, na1, nq1, nr1, bs, bp, bh, bf, bl, bg] f f4 from (hKn.mono k6 sbA)).tr ((show hKn [lb, lh, lr, lg, xo, ez, eo, bu, nw0, na0, nq0, nr0, nw1, na1, nq1, nr1, bs, bp, bh, bf, bl, bg] f4 f7 from (hKn.mono k10 sbA)).tr ((show hKn [lb, lh, lr, lg, xo, ez, eo, bu, nw0, na0, nq0, nr0, nw1, na1, nq1, nr1, bs, bp, bh, bf, bl, bg] f7 f14 from (by rw [ef14]; exact hKn.up (List.mem_cons_of_mem _ (List.mem_cons_of_mem _ (List.mem_cons_of_mem _ List.mem_cons_self))))).tr (show hKn [lb, lh, lr, lg, xo, ez, eo, bu, nw0, na0, nq0, nr0, nw1, na1, nq1, nr1, bs, bp, bh, bf, bl, bg] f14 f26 from (hKn.mono k28 sbA)))))⟩)
        · refine lv_aload_n hx hb dL_bundles_194 rfl (lv_at hl9 2 rfl) ?_
          refine lv_iload hx hb dL_bundles_195 (lv_at hl9 1 rfl) ?_
          refine hp_SH (As := [.ref xo, .int (nI j2)]) (rest := []) B0 hw hS (c_V_come_S hl G f7 xo ez eo bu nw0 na0 nq0 nr0 nw1 na1 nq1 nr1 bs bp bh bf bl bg S0 S1 gw0 ga0 gw1 ga1 n a cg x sa pk fl gv gh gl hC8 (Nat.lt_of_le_of_lt hl0 (by decide)) (Nat.lt_of_le_of_lt hl1 (by decide)) j2 (by omega) (fun h9 => c13 (nI_lt h9 (by omega)))) mH_L_come qM_L_133 rfl rfl hl9.1 (Nat.le_of_ble_eq_true rfl) ⟨⟨Nat.le_of_ble_eq_true rfl, Nat.le_of_ble_eq_true rfl⟩, Nat.le_of_ble_eq_true rfl, Nat.le_of_ble_eq_true rfl⟩ dL_bundles_197 (fun E ce q9 f33 H locs hPX hw hS hce hcv hcl => ?_) (fun v f33 H locs hP hw hS => ?_)
          · exact hPX.elim
          · obtain ⟨ev9, hC34, k35⟩ := hP
            subst ev9
            have hC34 : CXW G f33 xo ez eo bu nw0 na0 nq0 nr0 nw1 na1 nq1 nr1 bs bp bh bf bl bg S0 S1 gw0 ga0 gw1 ga1 n a cg x sa pk fl gv gh gl := hC34
            refine W.eq (g2 := F0 m 200 ls [.int (-73)]) rfl ?_
            refine lv_bipush (v := (-73)) hx hb dL_bundles_200 (by decide) ?_
            refine lv_icmp_ne (tgt := 220) hx hb dL_bundles_202 (by decide) (fun c9 => absurd (by decide) c9) (fun _ => ?_)
            refine lv_aload_n hx hb dL_bundles_205 rfl (lv_at hl9 2 rfl) ?_
            refine lv_iload hx hb dL_bundles_206 (lv_at hl9 1 rfl) ?_
            refine hp_SH (As := [.ref xo, .int (nI j2)]) (rest := []) B0 hw hS (c_V_drop_S hl G f33 xo ez eo bu nw0 na0 nq0 nr0 nw1 na1 nq1 nr1 bs bp bh bf bl bg S0 S1 gw0 ga0 gw1 ga1 n a cg x sa pk fl gv gh gl hC34 (Nat.lt_of_le_of_lt hl0 (by decide)) (Nat.lt_of_le_of_lt hl1 (by decide)) j2 (by omega) (fun h9 => c13 (nI_lt h9 (by omega)))) mH_L_drop qM_L_135 rfl rfl hl9.1 (Nat.le_of_ble_eq_true rfl) ⟨⟨Nat.le_of_ble_eq_true rfl, Nat.le_of_ble_eq_true rfl⟩, Nat.le_of_ble_eq_true rfl, Nat.le_of_ble_eq_true rfl⟩ dL_bundles_208 (fun E ce q9 f36 H locs hPX hw hS hce hcv hcl => ?_) (fun v f36 H locs hP hw hS => ?_)
            · exact hPX.elim
            · obtain ⟨ev9, hC37, k38⟩ := hP
              subst ev9
              have hC37 : CXW G f36 xo ez eo bu nw0 na0 nq0 nr0 nw1 na1 nq1 nr1 bs bp bh bf bl bg S0 S1 gw0 ga0 gw1 ga1 n a cg x sa pk fl gv gh gl := hC37
              refine W.eq (g2 := F0 m 211 ls [.int (-73)]) rfl ?_
              refine lv_bipush (v := (-73)) hx hb dL_bundles_211 (by decide) ?_
              refine lv_icmp_ne (tgt := 220) hx hb dL_bundles_213 (by decide) (fun c9 => absurd (by decide) c9) (fun _ => ?_)
              refine lv_iconst (v := 1) hx hb dL_bundles_216 (by decide) ?_
              refine lv_goto (tgt := 221) hx hb dL_bundles_217 (by decide) ?_
              have h39 : f4 lb = some (.inl (cI G, 64, .inl (nf sa))) := k6 _ _ k_lb (Nat.ne_of_beq_eq_false rfl) (hdos _ List.mem_cons_self)
              have h40 : f7 lb = some (.inl (cI G, 64, .inl (nf sa))) := k10 _ _ h39 (Nat.ne_of_beq_eq_false rfl) (hdos _ List.mem_cons_self)
              have h41 : f33 lb = some (.inl (cI G, 64, .inl (nf sa))) := k35 _ _ h40 (Nat.ne_of_beq_eq_false rfl) (hdos _ List.mem_cons_self)
              have h42 : f36 lb = some (.inl (cI G, 64, .inl (nf sa))) := k38 _ _ h41 (Nat.ne_of_beq_eq_false rfl) (hdos _ List.mem_cons_self)
              have h43 : f4 lh = some (.inl (cJ G, 1, .inr (.inl hh))) := k6 _ _ k_lh (Nat.ne_of_beq_eq_false rfl) (hdos _ (List.mem_cons_of_mem _ List.mem_cons_self))
              have h44 : f7 lh = some (.inl (cJ G, 1, .inr (.inl hh))) := k10 _ _ h43 (Nat.ne_of_beq_eq_false rfl) (hdos _ (List.mem_cons_of_mem _ List.mem_cons_self))
              have h45 : f33 lh = some (.inl (cJ G, 1, .inr (.inl hh))) := k35 _ _ h44 (Nat.ne_of_beq_eq_false rfl) (hdos _ (List.mem_cons_of_mem _ List.mem_cons_self))
              have h46 : f36 lh = some (.inl (cJ G, 1, .inr (.inl hh))) := k38 _ _ h45 (Nat.ne_of_beq_eq_false rfl) (hdos _ (List.mem_cons_of_mem _ List.mem_cons_self))
              have h47 : f4 lr = some (.inl (cI G, 60, .inl (nf gv))) := k6 _ _ k_lr (Nat.ne_of_beq_eq_false rfl) (hdos _ (List.mem_cons_of_mem _ (List.mem_cons_of_mem _ List.mem_cons_self)))
              have h48 : f7 lr = some (.inl (cI G, 60, .inl (nf gv))) := k10 _ _ h47 (Nat.ne_of_beq_eq_false rfl) (hdos _ (List.mem_cons_of_mem _ (List.mem_cons_of_mem _ List.mem_cons_self)))
              have h49 : f33 lr = some (.inl (cI G, 60, .inl (nf gv))) := k35 _ _ h48 (Nat.ne_of_beq_eq_false rfl) (hdos _ (List.mem_cons_of_mem _ (List.mem_cons_of_mem _ List.mem_cons_self)))
              have h50 : f36 lr = some (.inl (cI G, 60, .inl (nf gv))) := k38 _ _ h49 (Nat.ne_of_beq_eq_false rfl) (hdos _ (List.mem_cons_of_mem _ (List.mem_cons_of_mem _ List.mem_cons_self)))
              have h51 : f33 lg = some (.inl (cI G, 10, .inl (g10r tk gl a n x cg))) := k35 _ _ h12 (Nat.ne_of_beq_eq_false rfl) (hdos _ (List.mem_cons_of_mem _ (List.mem_cons_of_mem _ (List.mem_cons_of_mem _ List.mem_cons_self))))
              have h52 : f36 lg = some (.inl (cI G, 10, .inl (g10r tk gl a n x cg))) := k38 _ _ h51 (Nat.ne_of_beq_eq_false rfl) (hdos _ (List.mem_cons_of_mem _ (List.mem_cons_of_mem _ (List.mem_cons_of_mem _ List.mem_cons_self))))
              exact hp_zret (v := 1) B0 hw hS hr ⟨Nat.le_of_ble_eq_true rfl, Nat.le_of_ble_eq_true rfl⟩ (rfl) dL_bundles_221 (⟨rfl, n, a, cg, x, sa, _, fl, gv, gh, gl, hC37, ⟨h42, ⟨hh, hn, h46, hh0, hHB⟩, h50, ⟨_, h52, htk⟩⟩, (by omega), ((show hKn [lb, lh, lr, lg, xo, ez, eo, bu, nw0, na0, nq0, nr0, nw1, na1, nq1, nr1, bs, bp, bh, bf, bl, bg] f f4 from (hKn.mono k6 sbA)).tr ((show hKn [lb, lh, lr, lg, xo, ez, eo, bu, nw0, na0, nq0, nr0, nw1, na1, nq1, nr1, bs, bp, bh, bf, bl, bg] f4 f7 from (hKn.mono k10 sbA)).tr ((show hKn [lb, lh, lr, lg, xo, ez, eo, bu, nw0, na0, nq0, nr0, nw1, na1, nq1, nr1, bs, bp, bh, bf, bl, bg] f7 f33 from (hKn.mono k35 sbA)).tr (show hKn [lb, lh, lr, lg, xo, ez, eo, bu, nw0, na0, nq0, nr0, nw1, na1, nq1, nr1, bs, bp, bh, bf, bl, bg] f33 f36 from (hKn.mono k38 sbA)))))⟩)

set_option maxHeartbeats 4000000 in
set_option maxRecDepth 100000 in
theorem c_L_bundles_3 {l : Launch} (hl : l.stackTraces = false) (G : hG) (f : hM) (xo ez eo bu nw0 na0 nq0 nr0 nw1 na1 nq1 nr1 bs bp bh bf bl bg : Nat) (S0 : ES) (S1 : ES) (gw0 : Nat → Int32) (ga0 : Nat → Int32) (gw1 : Nat → Int32) (ga1 : Nat → Int32) (n : Nat) (a : Nat) (cg : Nat) (x : Nat) (sa : Nat → Nat) (pk : Nat → Nat) (fl : Nat → Nat) (gv : Nat → Nat) (gh : Nat → Int32) (gl : Nat → Int32) (hC : CXW G f xo ez eo bu nw0 na0 nq0 nr0 nw1 na1 nq1 nr1 bs bp bh bf bl bg S0 S1 gw0 ga0 gw1 ga1 n a cg x sa pk fl gv gh gl) (lb lh lr lg : Nat) (hdis : ∀ p, p ∈ [xo, ez, eo, bu, nw0, na0, nq0, nr0, nw1, na1, nq1, nr1, bs, bp, bh, bf, bl, bg] → p ∉ [lb, lh, lr, lg]) (hdos : ∀ p, p ∈ [lb, lh, lr, lg] → p ∉ [xo, ez, eo, bu, nw0, na0, nq0, nr0, nw1, na1, nq1, nr1, bs, bp, bh, bf, bl, bg]) (hLB : LBX G f lb lh lr lg n a cg x sa fl gv gh gl) (ha60 : a ≤ 60) (hl0 : S0.2.2.2.2.2.2.2.2.length ≤ 52) (hl1 : S1.2.2.2.2.2.2.2.2.length ≤ 52) (u z : Int32) : CT l yL_bundles (.code yL_bundles cL_bundles 11 (some .boolean)) 9 149 4 24 G [.ref xo, .int 3, .int u, .int z, .ref lb, .ref lh, .ref lr, .ref lg] f (fun v f1 => v = some (.int 1) ∧ ∃ (n2 a2 c2 x2 : Nat) (sa2 pk2 fl2 gv2 : Nat → Nat) (gh2 gl2 : Nat → Int32), CXW G f1 xo ez eo bu nw0 na0 nq0 nr0 nw1 na1 nq1 nr1 bs bp bh bf bl bg S0 S1 gw0 ga0 gw1 ga1 n2 a2 c2 x2 sa2 pk2 fl2 gv2 gh2 gl2 ∧ LBX G f1 lb lh lr lg n2 a2 c2 x2 sa2 fl2 gv2 gh2 gl2 ∧ a2 ≤ 60 ∧ hKn [lb, lh, lr, lg, xo, ez, eo, bu, nw0, na0, nq0, nr0, nw1, na1, nq1, nr1, bs, bp, bh, bf, bl, bg] f f1) (fun E f1 => False) := by
  refine hp_start hl (own := RL) (by decide) rfl (Nat.le_of_ble_eq_true rfl) ?_
  intro p e s m args below meth c B0 hr hnm hout hw hS ls hl9
  have hx := B0.1
  have hb := B0.2.1
  have hl9 : lv_has ls 11 [(0, .ref xo), (1, .int 3), (2, .int u), (3, .int z), (4, .ref lb), (5, .ref lh), (6, .ref lr), (7, .ref lg)] := hl9
  obtain ⟨k_lb, ⟨hh, hn, k_lh, hh0, hHB⟩, k_lr, ⟨tk, k_lg, htk⟩⟩ := hLB
  have hB9 : BOK n a cg x sa pk := by obtain ⟨_, _, h9⟩ := hC; exact h9.2.2.2.2.2.2.2.2.2.2.2.2.2.2.1
  have hnle := hB9.nle
  have hsn := hB9.2.2.1
  have hHB1 := hHB.1
  have hflq : ∀ k, k < 3 → fl k < 243 := by obtain ⟨_, _, h9⟩ := hC; exact h9.2.2.2.2.2.2.2.2.2.2.2.2.2.2.2.1
  have n_lb_lh : lb ≠ lh := hneL k_lb k_lh (Nat.ne_of_beq_eq_false rfl)
  have n_lb_lr : lb ≠ lr := hneL k_lb k_lr (Nat.ne_of_beq_eq_false rfl)
  have n_lb_lg : lb ≠ lg := hneL k_lb k_lg (Nat.ne_of_beq_eq_false rfl)
  have n_lh_lr : lh ≠ lr := hneL k_lh k_lr (Nat.ne_of_beq_eq_false rfl)
  have n_lh_lg : lh ≠ lg := hneL k_lh k_lg (Nat.ne_of_beq_eq_false rfl)
  have n_lr_lg : lr ≠ lg := hneL k_lr k_lg (Nat.ne_of_beq_eq_false rfl)
  have sbA : ∀ x9, x9 ∈ [xo, ez, eo, bu, nw0, na0, nq0, nr0, nw1, na1, nq1, nr1, bs, bp, bh, bf, bl, bg] → x9 ∈ [lb, lh, lr, lg, xo, ez, eo, bu, nw0, na0, nq0, nr0, nw1, na1, nq1, nr1, bs, bp, bh, bf, bl, bg] := (sub_cons (List.mem_cons_of_mem _ (List.mem_cons_of_mem _ (List.mem_cons_of_mem _ (List.mem_cons_of_mem _ List.mem_cons_self)))) (sub_cons (List.mem_cons_of_mem _ (List.mem_cons_of_mem _ (List.mem_cons_of_mem _ (List.mem_cons_of_mem _ (List.mem_cons_of_mem _ List.mem_cons_self))))) (sub_cons (List.mem_cons_of_mem _ (List.mem_cons_of_mem _ (List.mem_cons_of_mem _ (List.mem_cons_of_mem _ (List.mem_cons_of_mem _ (List.mem_cons_of_mem _ List.mem_cons_self)))))) (sub_cons (List.mem_cons_of_mem _ (List.mem_cons_of_mem _ (List.mem_cons_of_mem _ (List.mem_cons_of_mem _ (List.mem_cons_of_mem _ (List.mem_cons_of_mem _ (List.mem_cons_of_mem _ List.mem_cons_self))))))) (sub_cons (List.mem_cons_of_mem _ (List.mem_cons_of_mem _ (List.mem_cons_of_mem _ (List.mem_cons_of_mem _ (List.mem_cons_of_mem _ (List.mem_cons_of_mem _ (List.mem_cons_of_mem _ (List.mem_cons_of_mem _ List.mem_cons_self)))))))) (sub_cons (List.mem_cons_of_mem _ (List.mem_cons_of_mem _ (List.mem_cons_of_mem _ (List.mem_cons_of_mem _ (List.mem_cons_of_mem _ (List.mem_cons_of_mem _ (List.mem_cons_of_mem _ (List.mem_cons_of_mem _ (List.mem_cons_of_mem _ List.mem_cons_self))))))))) (sub_cons (List.mem_cons_of_mem _ (List.mem_cons_of_mem _ (List.mem_cons_of_mem _ (List.mem_cons_of_mem _ (List.mem_cons_of_mem _ (List.mem_cons_of_mem _ (List.mem_cons_of_mem _ (List.mem_cons_of_mem _ (List.mem_cons_of_mem _ (List.mem_cons_of_mem _ List.mem_cons_self)))))))))) (sub_cons (List.mem_cons_of_mem _ (List.mem_cons_of_mem _ (List.mem_cons_of_mem _ (List.mem_cons_of_mem _ (List.mem_cons_of_mem _ (List.mem_cons_of_mem _ (List.mem_cons_of_mem _ (List.mem_cons_of_mem _ (List.mem_cons_of_mem _ (List.mem_cons_of_mem _ (List.mem_cons_of_mem _ List.mem_cons_self))))))))))) (sub_cons (List.mem_cons_of_mem _ (List.mem_cons_of_mem _ (List.mem_cons_of_mem _ (List.mem_cons_of_mem _ (List.mem_cons_of_mem _ (List.mem_cons_of_mem _ (List.mem_cons_of_mem _ (List.mem_cons_of_mem _ (List.mem_cons_of_mem _ (List.mem_cons_of_mem _ (List.mem_cons_of_mem _ (List.mem_cons_of_mem _ List.mem_cons_self)))))))))))) (sub_cons (List.mem_cons_of_mem _ (List.mem_cons_of_mem _ (List.mem_cons_of_mem _ (List.mem_cons_of_mem _ (List.mem_cons_of_mem _ (List.mem_cons_of_mem _ (List.mem_cons_of_mem _ (List.mem_cons_of_mem _ (List.mem_cons_of_mem _ (List.mem_cons_of_mem _ (List.mem_cons_of_mem _ (List.mem_cons_of_mem _ (List.mem_cons_of_mem _ List.mem_cons_self))))))))))))) (sub_cons (List.mem_cons_of_mem _ (List.mem_cons_of_mem _ (List.mem_cons_of_mem _ (List.mem_cons_of_mem _ (List.mem_cons_of_mem _ (List.mem_cons_of_mem _ (List.mem_cons_of_mem _ (List.mem_cons_of_mem _ (List.mem_cons_of_mem _ (List.mem_cons_of_mem _ (List.mem_cons_of_mem _ (List.mem_cons_of_mem _ (List.mem_cons_of_mem _ (List.mem_cons_of_mem _ List.mem_cons_self)))))))))))))) (sub_cons (List.mem_cons_of_mem _ (List.mem_cons_of_mem _ (List.mem_cons_of_mem _ (List.mem_cons_of_mem _ (List.mem_cons_of_mem _ (List.mem_cons_of_mem _ (List.mem_cons_of_mem _ (List.mem_cons_of_mem _ (List.mem_cons_of_mem _ (List.mem_cons_of_mem _ (List.mem_cons_of_mem _ (List.mem_cons_of_mem _ (List.mem_cons_of_mem _ (List.mem_cons_of_mem _ (List.mem_cons_of_mem _ List.mem_cons_self))))))))))))))) (sub_cons (List.mem_cons_of_mem _ (List.mem_cons_of_mem _ (List.mem_cons_of_mem _ (List.mem_cons_of_mem _ (List.mem_cons_of_mem _ (List.mem_cons_of_mem _ (List.mem_cons_of_mem _ (List.mem_cons_of_mem _ (List.mem_cons_of_mem _ (List.mem_cons_of_mem _ (List.mem_cons_of_mem _ (List.mem_cons_of_mem _ (List.mem_cons_of_mem _ (List.mem_cons_of_mem _ (List.mem_cons_of_mem _ (List.mem_cons_of_mem _ List.mem_cons_self)))))))))))))))) (sub_cons (List.mem_cons_of_mem _ (List.mem_cons_of_mem _ (List.mem_cons_of_mem _ (List.mem_cons_of_mem _ (List.mem_cons_of_mem _ (List.mem_cons_of_mem _ (List.mem_cons_of_mem _ (List.mem_cons_of_mem _ (List.mem_cons_of_mem _ (List.mem_cons_of_mem _ (List.mem_cons_of_mem _ (List.mem_cons_of_mem _ (List.mem_cons_of_mem _ (List.mem_cons_of_mem _ (List.mem_cons_of_mem _ (List.mem_cons_of_mem _ (List.mem_cons_of_mem _ List.mem_cons_self))))))))))))))))) (sub_cons (List.mem_cons_of_mem _ (List.mem_cons_of_mem _ (List.mem_cons_of_mem _ (List.mem_cons_of_mem _ (List.mem_cons_of_mem _ (List.mem_cons_of_mem _ (List.mem_cons_of_mem _ (List.mem_cons_of_mem _ (List.mem_cons_of_mem _ (List.mem_cons_of_mem _ (List.mem_cons_of_mem _ (List.mem_cons_of_mem _ (List.mem_cons_of_mem _ (List.mem_cons_of_mem _ (List.mem_cons_of_mem _ (List.mem_cons_of_mem _ (List.mem_cons_of_mem _ (List.mem_cons_of_mem _ List.mem_cons_self)))))))))))))))))) (sub_cons (List.mem_cons_of_mem _ (List.mem_cons_of_mem _ (List.mem_cons_of_mem _ (List.mem_cons_of_mem _ (List.mem_cons_of_mem _ (List.mem_cons_of_mem _ (List.mem_cons_of_mem _ (List.mem_cons_of_mem _ (List.mem_cons_of_mem _ (List.mem_cons_of_mem _ (List.mem_cons_of_mem _ (List.mem_cons_of_mem _ (List.mem_cons_of_mem _ (List.mem_cons_of_mem _ (List.mem_cons_of_mem _ (List.mem_cons_of_mem _ (List.mem_cons_of_mem _ (List.mem_cons_of_mem _ (List.mem_cons_of_mem _ List.mem_cons_self))))))))))))))))))) (sub_cons (List.mem_cons_of_mem _ (List.mem_cons_of_mem _ (List.mem_cons_of_mem _ (List.mem_cons_of_mem _ (List.mem_cons_of_mem _ (List.mem_cons_of_mem _ (List.mem_cons_of_mem _ (List.mem_cons_of_mem _ (List.mem_cons_of_mem _ (List.mem_cons_of_mem _ (List.mem_cons_of_mem _ (List.mem_cons_of_mem _ (List.mem_cons_of_mem _ (List.mem_cons_of_mem _ (List.mem_cons_of_mem _ (List.mem_cons_of_mem _ (List.mem_cons_of_mem _ (List.mem_cons_of_mem _ (List.mem_cons_of_mem _ (List.mem_cons_of_mem _ List.mem_cons_self)))))))))))))))))))) (sub_cons (List.mem_cons_of_mem _ (List.mem_cons_of_mem _ (List.mem_cons_of_mem _ (List.mem_cons_of_mem _ (List.mem_cons_of_mem _ (List.mem_cons_of_mem _ (List.mem_cons_of_mem _ (List.mem_cons_of_mem _ (List.mem_cons_of_mem _ (List.mem_cons_of_mem _ (List.mem_cons_of_mem _ (List.mem_cons_of_mem _ (List.mem_cons_of_mem _ (List.mem_cons_of_mem _ (List.mem_cons_of_mem _ (List.mem_cons_of_mem _ (List.mem_cons_of_mem _ (List.mem_cons_of_mem _ (List.mem_cons_of_mem _ (List.mem_cons_of_mem _ (List.mem_cons_of_mem _ List.mem_cons_self))))))))))))))))))))) sub_nil))))))))))))))))))
  refine lv_iload_n hx hb dL_bundles_0 rfl (lv_at hl9 1 rfl) ?_
  refine lv_iconst (v := 2) hx hb dL_bundles_1 (by decide) ?_
  refine lv_icmp_ge (tgt := 143) hx hb dL_bundles_2 (by decide) (fun _ => ?_) (fun c9 => absurd (by decide) c9)
  refine lv_iload_n hx hb dL_bundles_143 rfl (lv_at hl9 2 rfl) ?_
  refine lv_iconst (v := 3) hx hb dL_bundles_144 (by decide) ?_
  refine hp_S (As := [.int u, .int 3]) (rest := []) B0 hw hS (c_L_low hl G f u 3 (by omega) (by omega)) mS_L_low qM_L_94 rfl rfl hl9.1 (Nat.le_of_ble_eq_true rfl) ⟨⟨Nat.le_of_ble_eq_true rfl, Nat.le_of_ble_eq_true rfl⟩, Nat.le_of_ble_eq_true rfl, Nat.le_of_ble_eq_true rfl⟩ dL_bundles_145 (fun E ce q9 f1 H locs hPX hw hS hce hcv hcl => ?_) (fun v f1 H locs hP hw hS => ?_)
  · exact hPX.elim
  · obtain ⟨ef9, j2, hj3, ev9⟩ := hP
    rw [ef9] at hw
    subst ev9
    refine W.eq (g2 := F0 m 148 ls [.int (nI j2)]) rfl ?_
    refine lv_istore (lv' := [(8, .int (nI j2)), (0, .ref xo), (1, .int 3), (2, .int u), (3, .int z), (4, .ref lb), (5, .ref lh), (6, .ref lr), (7, .ref lg)]) hx hb dL_bundles_148 hl9 (by decide) rfl (fun ls hl9 => ?_)
    refine lv_iload hx hb dL_bundles_150 (lv_at hl9 0 rfl) ?_
    refine lv_iconst (v := 3) hx hb dL_bundles_152 (by decide) ?_
    refine lv_aload hx hb dL_bundles_153 (lv_at hl9 8 rfl) ?_
    refine lv_iload hx hb dL_bundles_155 (lv_at hl9 0 rfl) ?_
    refine hp_iald B0 hw k_lg (vp_in_nI (show j2 < 10 by omega) (by omega)) dL_bundles_157 ?_
    refine hp_c (v := (nI (tk j2))) ((by rw [nI_clamp (by omega)]; exact if_pos (by omega))) ?_
    refine lv_imul hx hb dL_bundles_158 ?_
    refine hp_c (v := (nI (3 * tk j2))) (pk_mul 3 _) ?_
    refine lv_iadd hx hb dL_bundles_159 ?_
    refine hp_c (v := (nI (fl j2))) ((nI_add j2 (3 * tk j2)).trans (by rw [htk j2 (by omega)])) ?_
    have hfj := hflq j2 (by omega)
    refine lv_istore (lv' := [(9, .int (nI (fl j2))), (8, .int (nI j2)), (0, .ref xo), (1, .int 3), (2, .int u), (3, .int z), (4, .ref lb), (5, .ref lh), (6, .ref lr), (7, .ref lg)]) hx hb dL_bundles_160 hl9 (by decide) rfl (fun ls hl9 => ?_)
    refine lv_aload_n hx hb dL_bundles_162 rfl (lv_at hl9 2 rfl) ?_
    refine lv_iconst (v := 3) hx hb dL_bundles_163 (by decide) ?_
    refine hp_SH (As := [.ref xo, .int 3]) (rest := []) B0 hw hS (c_V_come_L hl G f xo ez eo bu nw0 na0 nq0 nr0 nw1 na1 nq1 nr1 bs bp bh bf bl bg S0 S1 gw0 ga0 gw1 ga1 n a cg x sa pk fl gv gh gl hC (Nat.lt_of_le_of_lt hl0 (by decide)) (Nat.lt_of_le_of_lt hl1 (by decide)) 3 (by decide)) mH_L_come qM_L_133 rfl rfl hl9.1 (Nat.le_of_ble_eq_true rfl) ⟨⟨Nat.le_of_ble_eq_true rfl, Nat.le_of_ble_eq_true rfl⟩, Nat.le_of_ble_eq_true rfl, Nat.le_of_ble_eq_true rfl⟩ dL_bundles_164 (fun E ce q9 f4 H locs hPX hw hS hce hcv hcl => ?_) (fun v f4 H locs hP hw hS => ?_)
    · exact hPX.elim
    · obtain ⟨ev9, hC5, k6⟩ := hP
      subst ev9
      have hC5 : CXW G f4 xo ez eo bu nw0 na0 nq0 nr0 nw1 na1 nq1 nr1 bs bp bh bf bl bg S0 S1 gw0 ga0 gw1 ga1 n a cg x sa pk fl gv gh gl := hC5
      refine W.eq (g2 := F0 m 167 ls [.int (-71)]) rfl ?_
      refine lv_bipush (v := (-71)) hx hb dL_bundles_167 (by decide) ?_
      refine lv_icmp_ne (tgt := 182) hx hb dL_bundles_169 (by decide) (fun c9 => absurd (by decide) c9) (fun _ => ?_)
      refine lv_aload_n hx hb dL_bundles_172 rfl (lv_at hl9 2 rfl) ?_
      refine lv_iconst (v := (-1)) hx hb dL_bundles_173 (by decide) ?_
      refine hp_SH (As := [.ref xo, .int (-1)]) (rest := []) B0 hw hS (c_V_drop_L hl G f4 xo ez eo bu nw0 na0 nq0 nr0 nw1 na1 nq1 nr1 bs bp bh bf bl bg S0 S1 gw0 ga0 gw1 ga1 n a cg x sa pk fl gv gh gl hC5 (Nat.lt_of_le_of_lt hl0 (by decide)) (Nat.lt_of_le_of_lt hl1 (by decide)) (-1) (by decide)) mH_L_drop qM_L_135 rfl rfl hl9.1 (Nat.le_of_ble_eq_true rfl) ⟨⟨Nat.le_of_ble_eq_true rfl, Nat.le_of_ble_eq_true rfl⟩, Nat.le_of_ble_eq_true rfl, Nat.le_of_ble_eq_true rfl⟩ dL_bundles_174 (fun E ce q9 f7 H locs hPX hw hS hce hcv hcl => ?_) (fun v f7 H locs hP hw hS => ?_)
      · exact hPX.elim
      · obtain ⟨ev9, hC8, k10⟩ := hP
        subst ev9
        have hC8 : CXW G f7 xo ez eo bu nw0 na0 nq0 nr0 nw1 na1 nq1 nr1 bs bp bh bf bl bg S0 S1 gw0 ga0 gw1 ga1 n a cg x sa pk fl gv gh gl := hC8
        refine W.eq (g2 := F0 m 177 ls [.int (-71)]) rfl ?_
        refine lv_bipush (v := (-71)) hx hb dL_bundles_177 (by decide) ?_
        refine lv_icmp_eq (tgt := 184) hx hb dL_bundles_179 (by decide) (fun _ => ?_) (fun c9 => absurd (by decide) c9)
        refine lv_iload hx hb dL_bundles_184 (lv_at hl9 0 rfl) ?_
        refine lv_aload hx hb dL_bundles_186 (lv_at hl9 9 rfl) ?_
        refine lv_bipush (v := 6) hx hb dL_bundles_188 (by decide) ?_
        have h11 : f4 lg = some (.inl (cI G, 10, .inl (g10r tk gl a n x cg))) := k6 _ _ k_lg (Nat.ne_of_beq_eq_false rfl) (hdos _ (List.mem_cons_of_mem _ (List.mem_cons_of_mem _ (List.mem_cons_of_mem _ List.mem_cons_self))))
        have h12 : f7 lg = some (.inl (cI G, 10, .inl (g10r tk gl a n x cg))) := k10 _ _ h11 (Nat.ne_of_beq_eq_false rfl) (hdos _ (List.mem_cons_of_mem _ (List.mem_cons_of_mem _ (List.mem_cons_of_mem _ List.mem_cons_self))))
        refine hp_iald B0 hw h12 (by unfold vp_in; decide) dL_bundles_190 ?_
        refine hp_c (v := (nI a)) (rfl) ?_
        refine lv_icmp_lt (tgt := 222) hx hb dL_bundles_191 (by decide) (fun c13 => ?_) (fun c13 => ?_)
        · have hpl : fl j2 < a := Nat.lt_of_not_le (fun h9 => nI_nlt h9 (by omega) c13)
          have hf60 : fl j2 < 60 := Nat.lt_of_lt_of_le hpl ha60
          refine lv_aload hx hb dL_bundles_222 (lv_at hl9 9 rfl) ?_
          refine lv_iload hx hb dL_bundles_224 (lv_at hl9 1 rfl) ?_
          refine lv_dup2_11 hx hb dL_bundles_226 rfl rfl ?_
          refine hp_iald B0 hw h12 (vp_in_nI (show j2 < 10 by omega) (by omega)) dL_bundles_227 ?_
          refine hp_c (v := (nI (tk j2))) ((by rw [nI_clamp (by omega)]; exact if_pos (by omega))) ?_
          refine lv_iconst (v := 1) hx hb dL_bundles_228 (by decide) ?_
          refine lv_iadd hx hb dL_bundles_229 ?_
          refine hp_c (v := (nI (tk j2 + 1))) (nI_1 _) ?_
          refine hp_iast B0 hw hS h12 (vp_in_nI (show j2 < 10 by omega) (by omega)) dL_bundles_230 (fun H locs f14 ef14 hw hS => ?_)
          rw [show (upd (g10r tk gl a n x cg) ((nI j2) : Int32).toNatClampNeg (nI (tk j2 + 1)) : Nat → Int32) = (g10r (va_up tk j2 (tk j2 + 1)) gl a n x cg) from (by rw [nI_clamp (by omega)]; exact g10_t (by omega))] at ef14
          have h15 : f14 lg = some (.inl (cI G, 10, .inl (g10r (va_up tk j2 (tk j2 + 1)) gl a n x cg))) := by rw [ef14, va_up_self]
          refine lv_iload_n hx hb dL_bundles_231 rfl (lv_at hl9 3 rfl) ?_
          refine lv_iconst (v := 2) hx hb dL_bundles_232 (by decide) ?_
          refine lv_icmp_ne (tgt := 253) hx hb dL_bundles_233 (by decide) (fun _ => ?_) (fun c9 => absurd c9 (by decide))
          refine lv_aload hx hb dL_bundles_253 (lv_at hl9 9 rfl) ?_
          refine lv_bipush (v := 9) hx hb dL_bundles_255 (by decide) ?_
          refine hp_iald B0 hw h15 (by unfold vp_in; decide) dL_bundles_257 ?_
          refine hp_c (v := (nI cg)) (rfl) ?_
          refine lv_istore (lv' := [(10, .int (nI cg)), (9, .int (nI (fl j2))), (8, .int (nI j2)), (0, .ref xo), (1, .int 3), (2, .int u), (3, .int z), (4, .ref lb), (5, .ref lh), (6, .ref lr), (7, .ref lg)]) hx hb dL_bundles_258 hl9 (by decide) rfl (fun ls hl9 => ?_)
          refine lv_aload hx hb dL_bundles_260 (lv_at hl9 10 rfl) ?_
          refine lv_iconst (v := 3) hx hb dL_bundles_262 (by decide) ?_
          refine lv_iload hx hb dL_bundles_263 (lv_at hl9 2 rfl) ?_
          refine lv_iadd hx hb dL_bundles_265 ?_
          refine hp_c (v := (nI (3 + j2))) (nI_add 3 j2) ?_
          refine lv_iload hx hb dL_bundles_266 (lv_at hl9 1 rfl) ?_
          refine hp_iast B0 hw hS h15 (vp_in_nI (show 3 + j2 < 10 by omega) (by omega)) dL_bundles_268 (fun H locs f16 ef16 hw hS => ?_)
          rw [show (upd (g10r (va_up tk j2 (tk j2 + 1)) gl a n x cg) ((nI (3 + j2)) : Int32).toNatClampNeg (nI (fl j2)) : Nat → Int32) = (g10r (va_up tk j2 (tk j2 + 1)) (upd gl j2 (nI (fl j2))) a n x cg) from (by rw [nI_clamp (by omega)]; exact g10_l (by omega))] at ef16
          have e17 : f16 = va_up f7 lg (some (.inl (cI G, 10, .inl (g10r (va_up tk j2 (tk j2 + 1)) (upd gl j2 (nI (fl j2))) a n x cg)))) := by rw [ef16, ef14, bx_uu]
          have h18 : f16 lg = some (.inl (cI G, 10, .inl (g10r (va_up tk j2 (tk j2 + 1)) (upd gl j2 (nI (fl j2))) a n x cg))) := by rw [ef16, va_up_self]
          refine lv_aload hx hb dL_bundles_269 (lv_at hl9 8 rfl) ?_
          refine lv_iconst (v := 0) hx hb dL_bundles_271 (by decide) ?_
          refine lv_dup2_11 hx hb dL_bundles_272 rfl rfl ?_
          have h19 : f4 lh = some (.inl (cJ G, 1, .inr (.inl hh))) := k6 _ _ k_lh (Nat.ne_of_beq_eq_false rfl) (hdos _ (List.mem_cons_of_mem _ List.mem_cons_self))
          have h20 : f7 lh = some (.inl (cJ G, 1, .inr (.inl hh))) := k10 _ _ h19 (Nat.ne_of_beq_eq_false rfl) (hdos _ (List.mem_cons_of_mem _ List.mem_cons_self))
          have h21 : f16 lh = some (.inl (cJ G, 1, .inr (.inl hh))) := by rw [e17, va_up_ne _ _ n_lh_lg]; exact h20
          refine hp_lald B0 hw h21 (by unfold vp_in; decide) dL_bundles_273 ?_
          refine hp_cl (v := (lN hn)) (hh0) ?_
          refine lv_lconst (v := lN 1) hx hb dL_bundles_274 rfl ?_
          refine lv_iload hx hb dL_bundles_275 (lv_at hl9 1 rfl) ?_
          refine lv_lshl (v := (lN (2 ^ fl j2))) hx hb dL_bundles_277 (by have h9 := wb_shl 1 (k := fl j2) (by omega); rw [Nat.one_mul] at h9; exact h9) ?_
          refine lv_lor hx hb dL_bundles_278 ?_
          refine hp_cl (v := (lN (hn ||| 2 ^ fl j2))) (wb_or (by omega) (Nat.pow_lt_pow_right (by decide) (by omega))) ?_
          refine hp_last B0 hw hS h21 (by unfold vp_in; decide) dL_bundles_279 (fun H locs f22 ef22 hw hS => ?_)
          rw [show ((vp_updL hh (0 : Int32).toNatClampNeg (lN (hn ||| 2 ^ fl j2))) : Nat → Int64) = (vp_updL hh 0 (lN (hn ||| 2 ^ fl j2))) from rfl] at ef22
          have h23 : f22 lh = some (.inl (cJ G, 1, .inr (.inl (vp_updL hh 0 (lN (hn ||| 2 ^ fl j2)))))) := by rw [ef22, va_up_self]
          refine lv_aload hx hb dL_bundles_280 (lv_at hl9 7 rfl) ?_
          refine lv_aload hx hb dL_bundles_282 (lv_at hl9 8 rfl) ?_
          refine lv_aload hx hb dL_bundles_284 (lv_at hl9 9 rfl) ?_
          refine lv_aload hx hb dL_bundles_286 (lv_at hl9 10 rfl) ?_
          have h24 : f4 lb = some (.inl (cI G, 64, .inl (nf sa))) := k6 _ _ k_lb (Nat.ne_of_beq_eq_false rfl) (hdos _ List.mem_cons_self)
          have h25 : f7 lb = some (.inl (cI G, 64, .inl (nf sa))) := k10 _ _ h24 (Nat.ne_of_beq_eq_false rfl) (hdos _ List.mem_cons_self)
          have h26 : f16 lb = some (.inl (cI G, 64, .inl (nf sa))) := by rw [e17, va_up_ne _ _ n_lb_lg]; exact h25
          have h27 : f22 lb = some (.inl (cI G, 64, .inl (nf sa))) := by rw [ef22, va_up_ne _ _ n_lb_lh]; exact h26
          have h28 : f4 lr = some (.inl (cI G, 60, .inl (nf gv))) := k6 _ _ k_lr (Nat.ne_of_beq_eq_false rfl) (hdos _ (List.mem_cons_of_mem _ (List.mem_cons_of_mem _ List.mem_cons_self)))
          have h29 : f7 lr = some (.inl (cI G, 60, .inl (nf gv))) := k10 _ _ h28 (Nat.ne_of_beq_eq_false rfl) (hdos _ (List.mem_cons_of_mem _ (List.mem_cons_of_mem _ List.mem_cons_self)))
          have h30 : f16 lr = some (.inl (cI G, 60, .inl (nf gv))) := by rw [e17, va_up_ne _ _ n_lr_lg]; exact h29
          have h31 : f22 lr = some (.inl (cI G, 60, .inl (nf gv))) := by rw [ef22, va_up_ne _ _ (Ne.symm n_lh_lr)]; exact h30
          have h32 : f22 lg = some (.inl (cI G, 10, .inl (g10r (va_up tk j2 (tk j2 + 1)) (upd gl j2 (nI (fl j2))) a n x cg))) := by rw [ef22, va_up_ne _ _ (Ne.symm n_lh_lg)]; exact h18
          refine hp_S (As := [.ref lb, .ref lh, .ref lr, .ref lg]) (rest := []) B0 hw hS (c_L_follow hl G f22 lb lh lr lg sa pk gv (upd gh (fl j2) 1) (upd gl j2 (nI (fl j2))) n a cg x (vp_updL hh 0 (lN (hn ||| 2 ^ fl j2))) (hn ||| 2 ^ fl j2) (va_up tk j2 (tk j2 + 1)) hB9 ha60 (hHB.up hf60) pk_uLs h27 h23 h31 h32) mS_L_follow qM_L_137 rfl rfl hl9.1 (Nat.le_of_ble_eq_true rfl) ⟨⟨Nat.le_of_ble_eq_true rfl, Nat.le_of_ble_eq_true rfl⟩, Nat.le_of_ble_eq_true rfl, Nat.le_of_ble_eq_true rfl⟩ dL_bundles_288 (fun E ce q9 f33 H locs hPX hw hS hce hcv hcl => ?_) (fun v f33 H locs hP hw hS => ?_)
          · exact hPX.elim
          · obtain ⟨ev9, c1, x1, gv1, hR9, hB8, h34, h35, k36⟩ := hP
            subst ev9
            refine W.eq (g2 := F0 m 291 ls []) rfl ?_
            refine lv_aload_n hx hb dL_bundles_291 rfl (lv_at hl9 3 rfl) ?_
            refine lv_iload hx hb dL_bundles_292 (lv_at hl9 2 rfl) ?_
            have h37 : f33 lb = some (.inl (cI G, 64, .inl (nf sa))) := (hEq.k k36) _ _ h27 (ninc n_lb_lr (ninc n_lb_lg nin0))
            have h38 : f33 lh = some (.inl (cJ G, 1, .inr (.inl (vp_updL hh 0 (lN (hn ||| 2 ^ fl j2)))))) := (hEq.k k36) _ _ h23 (ninc n_lh_lr (ninc n_lh_lg nin0))
            have hC39 : CXW G f33 xo ez eo bu nw0 na0 nq0 nr0 nw1 na1 nq1 nr1 bs bp bh bf bl bg S0 S1 gw0 ga0 gw1 ga1 n a cg x sa pk fl gv gh gl := CXW.eq hC8 ((show hEq [lb, lh, lr, lg] f7 f16 from (by rw [e17]; exact hEq.up (List.mem_cons_of_mem _ (List.mem_cons_of_mem _ (List.mem_cons_of_mem _ List.mem_cons_self))))).tr ((show hEq [lb, lh, lr, lg] f16 f22 from (by rw [ef22]; exact hEq.up (List.mem_cons_of_mem _ List.mem_cons_self))).tr (show hEq [lb, lh, lr, lg] f22 f33 from (hEq.mono k36 (sub_cons (List.mem_cons_of_mem _ (List.mem_cons_of_mem _ List.mem_cons_self)) (sub_cons (List.mem_cons_of_mem _ (List.mem_cons_of_mem _ (List.mem_cons_of_mem _ List.mem_cons_self))) sub_nil)))))) hdis (fun b9 hb9 => by
                simp only [List.mem_cons, List.not_mem_nil, or_false] at hb9
                rcases hb9 with hb9 | hb9 | hb9 | hb9
                · rw [hb9]; exact ⟨_, _, h25, h37, (Nat.ne_of_beq_eq_false rfl), (Nat.ne_of_beq_eq_false rfl)⟩
                · rw [hb9]; exact ⟨_, _, h20, h38, (Nat.ne_of_beq_eq_false rfl), (Nat.ne_of_beq_eq_false rfl)⟩
                · rw [hb9]; exact ⟨_, _, h29, h34, (Nat.ne_of_beq_eq_false rfl), (Nat.ne_of_beq_eq_false rfl)⟩
                · rw [hb9]; exact ⟨_, _, h12, h35, (Nat.ne_of_beq_eq_false rfl), (Nat.ne_of_beq_eq_false rfl)⟩)
            refine hp_SH (As := [.ref xo, .int (nI j2)]) (rest := []) B0 hw hS (c_V_come_ok hl G f33 xo ez eo bu nw0 na0 nq0 nr0 nw1 na1 nq1 nr1 bs bp bh bf bl bg S0 S1 gw0 ga0 gw1 ga1 n a cg x sa pk fl gv gh gl hC39 (Nat.lt_of_le_of_lt hl0 (by decide)) (Nat.lt_of_le_of_lt hl1 (by decide)) j2 (by omega) hpl) mH_L_come qM_L_133 rfl rfl hl9.1 (Nat.le_of_ble_eq_true rfl) ⟨⟨Nat.le_of_ble_eq_true rfl, Nat.le_of_ble_eq_true rfl⟩, Nat.le_of_ble_eq_true rfl, Nat.le_of_ble_eq_true rfl⟩ dL_bundles_294 (fun E ce q9 f40 H locs hPX hw hS hce hcv hcl => ?_) (fun v f40 H locs hP hw hS => ?_)
            · exact hPX.elim
            · obtain ⟨ev9, hC41, k42⟩ := hP
              subst ev9
              have hC41 : CXW G f40 xo ez eo bu nw0 na0 nq0 nr0 nw1 na1 nq1 nr1 bs bp bh bf bl bg S0 S1 gw0 ga0 gw1 ga1 n a ((bRun a sa pk (upd gh (fl j2) 1) (bnd (upd gl j2 (nI (fl j2)))) 240 cg x gv).1) ((bRun a sa pk (upd gh (fl j2) 1) (bnd (upd gl j2 (nI (fl j2)))) 240 cg x gv).2.1) sa pk (va_up fl j2 (fl j2 + 3)) ((bRun a sa pk (upd gh (fl j2) 1) (bnd (upd gl j2 (nI (fl j2)))) 240 cg x gv).2.2) (upd gh (fl j2) 1) (upd gl j2 (nI (fl j2))) := hC41
              refine W.eq (g2 := F0 m 297 ls [.int ((nI (bRun a sa pk (upd gh (fl j2) 1) (bnd (upd gl j2 (nI (fl j2)))) 240 cg x gv).1 - nI cg))]) rfl ?_
              refine lv_aload hx hb dL_bundles_297 (lv_at hl9 10 rfl) ?_
              refine lv_bipush (v := 9) hx hb dL_bundles_299 (by decide) ?_
              have h43 : f40 lg = some (.inl (cI G, 10, .inl (g10r (va_up tk j2 (tk j2 + 1)) (upd gl j2 (nI (fl j2))) a n x1 c1))) := k42 _ _ h35 (Nat.ne_of_beq_eq_false rfl) (hdos _ (List.mem_cons_of_mem _ (List.mem_cons_of_mem _ (List.mem_cons_of_mem _ List.mem_cons_self))))
              refine hp_iald B0 hw h43 (by unfold vp_in; decide) dL_bundles_301 ?_
              refine hp_c (v := (nI c1)) (rfl) ?_
              refine lv_iload hx hb dL_bundles_302 (lv_at hl9 0 rfl) ?_
              refine lv_isub hx hb dL_bundles_304 ?_
              refine lv_icmp_ne (tgt := 312) hx hb dL_bundles_305 (by decide) (fun c9 => absurd (by rw [hR9]) c9) (fun _ => ?_)
              refine lv_iconst (v := 1) hx hb dL_bundles_308 (by decide) ?_
              refine lv_goto (tgt := 313) hx hb dL_bundles_309 (by decide) ?_
              rw [hR9] at hC41
              have h44 : f40 lb = some (.inl (cI G, 64, .inl (nf sa))) := k42 _ _ h37 (Nat.ne_of_beq_eq_false rfl) (hdos _ List.mem_cons_self)
              have h45 : f40 lh = some (.inl (cJ G, 1, .inr (.inl (vp_updL hh 0 (lN (hn ||| 2 ^ fl j2)))))) := k42 _ _ h38 (Nat.ne_of_beq_eq_false rfl) (hdos _ (List.mem_cons_of_mem _ List.mem_cons_self))
              have h46 : f40 lr = some (.inl (cI G, 60, .inl (nf gv1))) := k42 _ _ h34 (Nat.ne_of_beq_eq_false rfl) (hdos _ (List.mem_cons_of_mem _ (List.mem_cons_of_mem _ List.mem_cons_self)))
              exact hp_zret (v := 1) B0 hw hS hr ⟨Nat.le_of_ble_eq_true rfl, Nat.le_of_ble_eq_true rfl⟩ (rfl) dL_bundles_313 (⟨rfl, n, a, c1, x1, sa, _, (va_up fl j2 (fl j2 + 3)), gv1, (upd gh (fl j2) 1), (upd gl j2 (nI (fl j2))), hC41, ⟨h44, ⟨_, _, h45, pk_uLs, hHB.up hf60⟩, h46, ⟨_, h43, (tk_up htk (by omega))⟩⟩, (by omega), ((show hKn [lb, lh, lr, lg, xo, ez, eo, bu, nw0, na0, nq0, nr0, nw1, na1, nq1, nr1, bs, bp, bh, bf, bl, bg] f f4 from (hKn.mono k6 sbA)).tr ((show hKn [lb, lh, lr, lg, xo, ez, eo, bu, nw0, na0, nq0, nr0, nw1, na1, nq1, nr1, bs, bp, bh, bf, bl, bg] f4 f7 from (hKn.mono k10 sbA)).tr ((show hKn [lb, lh, lr, lg, xo, ez, eo, bu, nw0, na0, nq0, nr0, nw1, na1, nq1, nr1, bs, bp, bh, bf, bl, bg] f7 f16 from (by rw [e17]; exact hKn.up (List.mem_cons_of_mem _ (List.mem_cons_of_mem _ (List.mem_cons_of_mem _ List.mem_cons_self))))).tr ((show hKn [lb, lh, lr, lg, xo, ez, eo, bu, nw0, na0, nq0, nr0, nw1, na1, nq1, nr1, bs, bp, bh, bf, bl, bg] f16 f22 from (by rw [ef22]; exact hKn.up (List.mem_cons_of_mem _ List.mem_cons_self))).tr ((show hKn [lb, lh, lr, lg, xo, ez, eo, bu, nw0, na0, nq0, nr0, nw1, na1, nq1, nr1, bs, bp, bh, bf, bl, bg] f22 f33 from (hKn.mono (hKn.eq k36) (sub_cons (List.mem_cons_of_mem _ (List.mem_cons_of_mem _ List.mem_cons_self)) (sub_cons (List.mem_cons_of_mem _ (List.mem_cons_of_mem _ (List.mem_cons_of_mem _ List.mem_cons_self))) sub_nil)))).tr (show hKn [lb, lh, lr, lg, xo, ez, eo, bu, nw0, na0, nq0, nr0, nw1, na1, nq1, nr1, bs, bp, bh, bf, bl, bg] f33 f40 from (hKn.mono k42 sbA)))))))⟩)
        · refine lv_aload_n hx hb dL_bundles_194 rfl (lv_at hl9 2 rfl) ?_
          refine lv_iload hx hb dL_bundles_195 (lv_at hl9 1 rfl) ?_
          refine hp_SH (As := [.ref xo, .int (nI j2)]) (rest := []) B0 hw hS (c_V_come_S hl G f7 xo ez eo bu nw0 na0 nq0 nr0 nw1 na1 nq1 nr1 bs bp bh bf bl bg S0 S1 gw0 ga0 gw1 ga1 n a cg x sa pk fl gv gh gl hC8 (Nat.lt_of_le_of_lt hl0 (by decide)) (Nat.lt_of_le_of_lt hl1 (by decide)) j2 (by omega) (fun h9 => c13 (nI_lt h9 (by omega)))) mH_L_come qM_L_133 rfl rfl hl9.1 (Nat.le_of_ble_eq_true rfl) ⟨⟨Nat.le_of_ble_eq_true rfl, Nat.le_of_ble_eq_true rfl⟩, Nat.le_of_ble_eq_true rfl, Nat.le_of_ble_eq_true rfl⟩ dL_bundles_197 (fun E ce q9 f47 H locs hPX hw hS hce hcv hcl => ?_) (fun v f47 H locs hP hw hS => ?_)
          · exact hPX.elim
          · obtain ⟨ev9, hC48, k49⟩ := hP
            subst ev9
            have hC48 : CXW G f47 xo ez eo bu nw0 na0 nq0 nr0 nw1 na1 nq1 nr1 bs bp bh bf bl bg S0 S1 gw0 ga0 gw1 ga1 n a cg x sa pk fl gv gh gl := hC48
            refine W.eq (g2 := F0 m 200 ls [.int (-73)]) rfl ?_
            refine lv_bipush (v := (-73)) hx hb dL_bundles_200 (by decide) ?_
            refine lv_icmp_ne (tgt := 220) hx hb dL_bundles_202 (by decide) (fun c9 => absurd (by decide) c9) (fun _ => ?_)
            refine lv_aload_n hx hb dL_bundles_205 rfl (lv_at hl9 2 rfl) ?_
            refine lv_iload hx hb dL_bundles_206 (lv_at hl9 1 rfl) ?_
            refine hp_SH (As := [.ref xo, .int (nI j2)]) (rest := []) B0 hw hS (c_V_drop_S hl G f47 xo ez eo bu nw0 na0 nq0 nr0 nw1 na1 nq1 nr1 bs bp bh bf bl bg S0 S1 gw0 ga0 gw1 ga1 n a cg x sa pk fl gv gh gl hC48 (Nat.lt_of_le_of_lt hl0 (by decide)) (Nat.lt_of_le_of_lt hl1 (by decide)) j2 (by omega) (fun h9 => c13 (nI_lt h9 (by omega)))) mH_L_drop qM_L_135 rfl rfl hl9.1 (Nat.le_of_ble_eq_true rfl) ⟨⟨Nat.le_of_ble_eq_true rfl, Nat.le_of_ble_eq_true rfl⟩, Nat.le_of_ble_eq_true rfl, Nat.le_of_ble_eq_true rfl⟩ dL_bundles_208 (fun E ce q9 f50 H locs hPX hw hS hce hcv hcl => ?_) (fun v f50 H locs hP hw hS => ?_)
            · exact hPX.elim
            · obtain ⟨ev9, hC51, k52⟩ := hP
              subst ev9
              have hC51 : CXW G f50 xo ez eo bu nw0 na0 nq0 nr0 nw1 na1 nq1 nr1 bs bp bh bf bl bg S0 S1 gw0 ga0 gw1 ga1 n a cg x sa pk fl gv gh gl := hC51
              refine W.eq (g2 := F0 m 211 ls [.int (-73)]) rfl ?_
              refine lv_bipush (v := (-73)) hx hb dL_bundles_211 (by decide) ?_
              refine lv_icmp_ne (tgt := 220) hx hb dL_bundles_213 (by decide) (fun c9 => absurd (by decide) c9) (fun _ => ?_)
              refine lv_iconst (v := 1) hx hb dL_bundles_216 (by decide) ?_
              refine lv_goto (tgt := 221) hx hb dL_bundles_217 (by decide) ?_
              have h53 : f4 lb = some (.inl (cI G, 64, .inl (nf sa))) := k6 _ _ k_lb (Nat.ne_of_beq_eq_false rfl) (hdos _ List.mem_cons_self)
              have h54 : f7 lb = some (.inl (cI G, 64, .inl (nf sa))) := k10 _ _ h53 (Nat.ne_of_beq_eq_false rfl) (hdos _ List.mem_cons_self)
              have h55 : f47 lb = some (.inl (cI G, 64, .inl (nf sa))) := k49 _ _ h54 (Nat.ne_of_beq_eq_false rfl) (hdos _ List.mem_cons_self)
              have h56 : f50 lb = some (.inl (cI G, 64, .inl (nf sa))) := k52 _ _ h55 (Nat.ne_of_beq_eq_false rfl) (hdos _ List.mem_cons_self)
              have h57 : f4 lh = some (.inl (cJ G, 1, .inr (.inl hh))) := k6 _ _ k_lh (Nat.ne_of_beq_eq_false rfl) (hdos _ (List.mem_cons_of_mem _ List.mem_cons_self))
              have h58 : f7 lh = some (.inl (cJ G, 1, .inr (.inl hh))) := k10 _ _ h57 (Nat.ne_of_beq_eq_false rfl) (hdos _ (List.mem_cons_of_mem _ List.mem_cons_self))
              have h59 : f47 lh = some (.inl (cJ G, 1, .inr (.inl hh))) := k49 _ _ h58 (Nat.ne_of_beq_eq_false rfl) (hdos _ (List.mem_cons_of_mem _ List.mem_cons_self))
              have h60 : f50 lh = some (.inl (cJ G, 1, .inr (.inl hh))) := k52 _ _ h59 (Nat.ne_of_beq_eq_false rfl) (hdos _ (List.mem_cons_of_mem _ List.mem_cons_self))
              have h61 : f4 lr = some (.inl (cI G, 60, .inl (nf gv))) := k6 _ _ k_lr (Nat.ne_of_beq_eq_false rfl) (hdos _ (List.mem_cons_of_mem _ (List.mem_cons_of_mem _ List.mem_cons_self)))
              have h62 : f7 lr = some (.inl (cI G, 60, .inl (nf gv))) := k10 _ _ h61 (Nat.ne_of_beq_eq_false rfl) (hdos _ (List.mem_cons_of_mem _ (List.mem_cons_of_mem _ List.mem_cons_self)))
              have h63 : f47 lr = some (.inl (cI G, 60, .inl (nf gv))) := k49 _ _ h62 (Nat.ne_of_beq_eq_false rfl) (hdos _ (List.mem_cons_of_mem _ (List.mem_cons_of_mem _ List.mem_cons_self)))
              have h64 : f50 lr = some (.inl (cI G, 60, .inl (nf gv))) := k52 _ _ h63 (Nat.ne_of_beq_eq_false rfl) (hdos _ (List.mem_cons_of_mem _ (List.mem_cons_of_mem _ List.mem_cons_self)))
              have h65 : f47 lg = some (.inl (cI G, 10, .inl (g10r tk gl a n x cg))) := k49 _ _ h12 (Nat.ne_of_beq_eq_false rfl) (hdos _ (List.mem_cons_of_mem _ (List.mem_cons_of_mem _ (List.mem_cons_of_mem _ List.mem_cons_self))))
              have h66 : f50 lg = some (.inl (cI G, 10, .inl (g10r tk gl a n x cg))) := k52 _ _ h65 (Nat.ne_of_beq_eq_false rfl) (hdos _ (List.mem_cons_of_mem _ (List.mem_cons_of_mem _ (List.mem_cons_of_mem _ List.mem_cons_self))))
              exact hp_zret (v := 1) B0 hw hS hr ⟨Nat.le_of_ble_eq_true rfl, Nat.le_of_ble_eq_true rfl⟩ (rfl) dL_bundles_221 (⟨rfl, n, a, cg, x, sa, _, fl, gv, gh, gl, hC51, ⟨h56, ⟨hh, hn, h60, hh0, hHB⟩, h64, ⟨_, h66, htk⟩⟩, (by omega), ((show hKn [lb, lh, lr, lg, xo, ez, eo, bu, nw0, na0, nq0, nr0, nw1, na1, nq1, nr1, bs, bp, bh, bf, bl, bg] f f4 from (hKn.mono k6 sbA)).tr ((show hKn [lb, lh, lr, lg, xo, ez, eo, bu, nw0, na0, nq0, nr0, nw1, na1, nq1, nr1, bs, bp, bh, bf, bl, bg] f4 f7 from (hKn.mono k10 sbA)).tr ((show hKn [lb, lh, lr, lg, xo, ez, eo, bu, nw0, na0, nq0, nr0, nw1, na1, nq1, nr1, bs, bp, bh, bf, bl, bg] f7 f47 from (hKn.mono k49 sbA)).tr (show hKn [lb, lh, lr, lg, xo, ez, eo, bu, nw0, na0, nq0, nr0, nw1, na1, nq1, nr1, bs, bp, bh, bf, bl, bg] f47 f50 from (hKn.mono k52 sbA)))))⟩)

