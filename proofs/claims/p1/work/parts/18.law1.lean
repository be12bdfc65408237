theorem spc_A {A B : Prop} [Decidable A] [Decidable B] (h : spc A B = 0) : A := by
  by_cases a : A
  · exact a
  · rw [spc_1 a] at h; exact absurd h (by decide)
theorem W6_in : ∀ j, j < 6 → ((fun j => if j < 6 then (-1) else (fun _ => 0) j) : Nat → Int32) j = -1 := fun j h => if_pos h
theorem lg_eq0 {x y : Int64} (h : x = y) : lg_cmp x y = 0 := by
  subst h
  unfold lg_cmp
  rw [if_neg (show ¬ x > x from Int64.lt_irrefl), if_pos rfl]
set_option maxHeartbeats 4000000 in
set_option maxRecDepth 100000 in
theorem c_L_wish {l : Launch} (hl : l.stackTraces = false) (G : hG) (f : hM) (xo ez eo bu nw0 na0 nq0 nr0 nw1 na1 nq1 nr1 bs bp bh bf bl bg out : Nat) (C : f xo = some (.inr (4, [.ref ez, .ref eo, .ref bu])) ∧ f ez = some (.inr (1, [.ref nw0, .ref na0, .ref nq0, .ref nr0, .int 1, .int 0, .int 0, .int 0, .int (-1), .int 0, .int 0])) ∧ f nw0 = some (.inl (cI G, 6, .inl (fun j => if j < 6 then (-1) else (fun _ => 0) j))) ∧ f na0 = some (.inl (cI G, 6, .inl (fun _ => 0))) ∧ f nq0 = some (.inl (cI G, 6, .inl (fun j => if j < 6 then (-1) else (fun _ => 0) j))) ∧ f nr0 = some (.inr (3, [.null, .null, .int 0])) ∧ f eo = some (.inr (1, [.ref nw1, .ref na1, .ref nq1, .ref nr1, .int 2, .int 0, .int 0, .int 0, .int (-1), .int 0, .int 0])) ∧ f nw1 = some (.inl (cI G, 6, .inl (fun j => if j < 6 then (-1) else (fun _ => 0) j))) ∧ f na1 = some (.inl (cI G, 6, .inl (fun _ => 0))) ∧ f nq1 = some (.inl (cI G, 6, .inl (fun j => if j < 6 then (-1) else (fun _ => 0) j))) ∧ f nr1 = some (.inr (3, [.null, .null, .int 0])) ∧ f bu = some (.inr (0, [.ref bs, .ref bp, .ref bh, .ref bf, .ref bl, .ref bg, .int 0, .int 0, .int 0])) ∧ f bs = some (.inl (cI G, 61, .inl (fun _ => 0))) ∧ f bp = some (.inl (cI G, 240, .inl (fun _ => 0))) ∧ f bh = some (.inl (cZ G, 240, .inl (fun _ => 0))) ∧ f bf = some (.inl (cI G, 3, .inl (upd (upd (upd (fun _ => 0) (0 : Int32).toNatClampNeg 0) (1 : Int32).toNatClampNeg 1) (2 : Int32).toNatClampNeg 2))) ∧ f bl = some (.inl (cI G, 3, .inl (fun j => if j < 3 then (-1) else (fun _ => 0) j))) ∧ f bg = some (.inl (cI G, 60, .inl (fun _ => 0))) ∧ nw0 ≠ nq0 ∧ nw1 ≠ nq1 ∧ bs ≠ bp) (no : out ∉ [nw0, nw1, na0, na1, nq0, nq1, bs, bp]) (k_out : f out = some (.inl (cJ G, 1, .inr (.inl (fun _ => 0))))) (i o x : Int32) : CT l yL_wish (.codeWith yL_wish cL_wish 6 (some .int) [(0, 12, 15, 13), (0, 12, 19, 15)]) 8 127 3 18 G [.ref xo, .int i, .int o, .int x, .ref out] f (fun v f1 => v = some (.int (spc (sE i ∧ sO o) (sV x))) ∧ (spc (sE i ∧ sO o) (sV x) = 0 → f1 out = some (.inl (cJ G, 1, .inr (.inl (vp_updL (fun _ => 0) (0 : Int32).toNatClampNeg (((-1) : Int32).toInt64)))))) ∧ hKeep [nw0, nw1, out] f f1) (fun E f1 => False) := by
  refine hp_startH hl (own := RL) (by decide) rfl (Nat.le_of_ble_eq_true rfl) ?_
  intro p e s m args below meth c B0 hr htab hw hS ls hl9
  have hx := B0.1
  have hb := B0.2.1
  have hl9 : lv_has ls 6 [(0, .ref xo), (1, .int i), (2, .int o), (3, .int x), (4, .ref out)] := hl9
  obtain ⟨k_xo, k_ez, k_nw0, k_na0, k_nq0, k_nr0, k_eo, k_nw1, k_na1, k_nq1, k_nr1, k_bu, k_bs, k_bp, k_bh, k_bf, k_bl, k_bg, n_wq0, n_wq1, n_sp⟩ := C
  have no_nw0 : out ≠ nw0 := fun h9 => no (by rw [h9]; simp)
  have no_nw1 : out ≠ nw1 := fun h9 => no (by rw [h9]; simp)
  have no_na0 : out ≠ na0 := fun h9 => no (by rw [h9]; simp)
  have no_na1 : out ≠ na1 := fun h9 => no (by rw [h9]; simp)
  have no_nq0 : out ≠ nq0 := fun h9 => no (by rw [h9]; simp)
  have no_nq1 : out ≠ nq1 := fun h9 => no (by rw [h9]; simp)
  have no_bs : out ≠ bs := fun h9 => no (by rw [h9]; simp)
  have no_bp : out ≠ bp := fun h9 => no (by rw [h9]; simp)
  refine lv_aload hx hb dL_wish_0 (lv_at hl9 4 rfl) ?_
  refine lv_iconst (v := 0) hx hb dL_wish_2 (by decide) ?_
  refine lv_aload_n hx hb dL_wish_3 rfl (lv_at hl9 0 rfl) ?_
  refine lv_iload_n hx hb dL_wish_4 rfl (lv_at hl9 1 rfl) ?_
  refine lv_iload_n hx hb dL_wish_5 rfl (lv_at hl9 2 rfl) ?_
  refine lv_iload_n hx hb dL_wish_6 rfl (lv_at hl9 3 rfl) ?_
  refine hp_V (ci := 4) (As := [.int i, .int o, .int x]) (rest := [.int 0, .ref out]) B0 hw hS (c_X4_wish hl G f xo ez eo bu k_xo nw0 na0 nq0 nr0 1 0 0 0 (-1) 0 0 k_ez nw1 na1 nq1 nr1 2 0 0 0 (-1) 0 0 k_eo (fun j => if j < 6 then (-1) else (fun _ => 0) j) (fun j => if j < 6 then (-1) else (fun _ => 0) j) k_nw0 k_nw1 i o x) mV_X4_wish qM_L_7 rfl k_xo rfl rfl hl9.1 (Nat.le_of_ble_eq_true rfl) ⟨⟨Nat.le_of_ble_eq_true rfl, Nat.le_of_ble_eq_true rfl⟩, Nat.le_of_ble_eq_true rfl, Nat.le_of_ble_eq_true rfl⟩ dL_wish_7 (fun E ce q9 f1 H locs hPX hw hS hce hcv hcl => ?_) (fun v f1 H locs hP hw hS => ?_)
  · obtain ⟨ef9, hE9⟩ := hPX
    rw [ef9] at hw
    rcases hE9 with ⟨eE9, hc9⟩ | ⟨eE9, hc9⟩
    · subst eE9
      refine hp_catch (name := eI) B0 [] _ _ (htab.trans rfl) (fun z hz => nomatch hz) rfl (by decide) qC_L_13 oC_eI hce hcv hcl ?_
      refine W.eq (g2 := F0 m 15 ls [.ref q9]) rfl ?_
      refine lv_astore (lv' := [(5, .ref q9), (0, .ref xo), (1, .int i), (2, .int o), (3, .int x), (4, .ref out)]) hx hb dL_wish_15 hl9 (by decide) rfl (fun ls hl9 => ?_)
      refine lv_iconst (v := 1) hx hb dL_wish_17 (by decide) ?_
      exact hp_iret (v := 1) B0 hw hS hr ⟨Nat.le_of_ble_eq_true rfl, Nat.le_of_ble_eq_true rfl⟩ dL_wish_18 (⟨by rw [hc9], fun h9 => absurd (h9.symm.trans hc9) (by decide), hKeep.rf⟩)
    · subst eE9
      refine hp_catch (name := eA) B0 [_] _ _ (htab.trans rfl) (fun z hz => Or.inr (by rcases List.mem_singleton.mp hz with rfl; exact ⟨by decide, eI, qC_L_13, List.mem_of_getElem? (i := 2) rfl⟩)) rfl (by decide) qC_L_15 oC_eA hce hcv hcl ?_
      refine W.eq (g2 := F0 m 19 ls [.ref q9]) rfl ?_
      refine lv_astore (lv' := [(5, .ref q9), (0, .ref xo), (1, .int i), (2, .int o), (3, .int x), (4, .ref out)]) hx hb dL_wish_19 hl9 (by decide) rfl (fun ls hl9 => ?_)
      refine lv_iconst (v := 2) hx hb dL_wish_21 (by decide) ?_
      exact hp_iret (v := 2) B0 hw hS hr ⟨Nat.le_of_ble_eq_true rfl, Nat.le_of_ble_eq_true rfl⟩ dL_wish_22 (⟨by rw [hc9], fun h9 => absurd (h9.symm.trans hc9) (by decide), hKeep.rf⟩)
  · obtain ⟨hz9, hv9⟩ := hP
    rcases hv9 with ⟨k9, ev9, ef9, kk9⟩ | ⟨k9, ev9, ef9, kk9⟩
    · subst ev9
      refine W.eq (g2 := F0 m 10 ls [.int ((fun j => if j < 6 then (-1) else (fun _ => 0) j) (o : Int32).toNatClampNeg), .int 0, .ref out]) rfl ?_
      refine hp_c (v := (-1)) (W6_in _ (cn_lt (vin6 (spc_A hz9).2))) ?_
      refine lv_i2l (v := ((-1) : Int32).toInt64) hx hb dL_wish_10 rfl ?_
      have h2 : f1 out = some (.inl (cJ G, 1, .inr (.inl (fun _ => 0)))) := kk9 _ _ k_out (ninc no_nw0 nin0)
      refine hp_last B0 hw hS h2 (by unfold vp_in; decide) dL_wish_11 (fun H locs f3 ef3 hw hS => ?_)
      have h4 : f3 out = some (.inl (cJ G, 1, .inr (.inl (vp_updL (fun _ => 0) (0 : Int32).toNatClampNeg (((-1) : Int32).toInt64))))) := by rw [ef3, va_up_self]
      refine lv_goto (tgt := 23) hx hb dL_wish_12 (by decide) ?_
      refine lv_iconst (v := 0) hx hb dL_wish_23 (by decide) ?_
      exact hp_iret (v := 0) B0 hw hS hr ⟨Nat.le_of_ble_eq_true rfl, Nat.le_of_ble_eq_true rfl⟩ dL_wish_24 (⟨by rw [hz9], fun _ => h4, ((show hKeep [nw0, nw1, out] f f1 from (kk9.mono (fun x9 hx9 => by simp only [List.mem_cons, List.not_mem_nil, or_false] at hx9 ⊢; omega))).tr (show hKeep [nw0, nw1, out] f1 f3 from (by rw [ef3]; exact hKeep.up (by simp))))⟩)
    · subst ev9
      refine W.eq (g2 := F0 m 10 ls [.int ((fun j => if j < 6 then (-1) else (fun _ => 0) j) (o : Int32).toNatClampNeg), .int 0, .ref out]) rfl ?_
      refine hp_c (v := (-1)) (W6_in _ (cn_lt (vin6 (spc_A hz9).2))) ?_
      refine lv_i2l (v := ((-1) : Int32).toInt64) hx hb dL_wish_10 rfl ?_
      have h5 : f1 out = some (.inl (cJ G, 1, .inr (.inl (fun _ => 0)))) := kk9 _ _ k_out (ninc no_nw1 nin0)
      refine hp_last B0 hw hS h5 (by unfold vp_in; decide) dL_wish_11 (fun H locs f6 ef6 hw hS => ?_)
      have h7 : f6 out = some (.inl (cJ G, 1, .inr (.inl (vp_updL (fun _ => 0) (0 : Int32).toNatClampNeg (((-1) : Int32).toInt64))))) := by rw [ef6, va_up_self]
      refine lv_goto (tgt := 23) hx hb dL_wish_12 (by decide) ?_
      refine lv_iconst (v := 0) hx hb dL_wish_23 (by decide) ?_
      exact hp_iret (v := 0) B0 hw hS hr ⟨Nat.le_of_ble_eq_true rfl, Nat.le_of_ble_eq_true rfl⟩ dL_wish_24 (⟨by rw [hz9], fun _ => h7, ((show hKeep [nw0, nw1, out] f f1 from (kk9.mono (fun x9 hx9 => by simp only [List.mem_cons, List.not_mem_nil, or_false] at hx9 ⊢; omega))).tr (show hKeep [nw0, nw1, out] f1 f6 from (by rw [ef6]; exact hKeep.up (by simp))))⟩)

set_option maxHeartbeats 4000000 in
set_option maxRecDepth 100000 in
theorem c_L_allow {l : Launch} (hl : l.stackTraces = false) (G : hG) (f : hM) (xo ez eo bu nw0 na0 nq0 nr0 nw1 na1 nq1 nr1 bs bp bh bf bl bg out : Nat) (C : f xo = some (.inr (4, [.ref ez, .ref eo, .ref bu])) ∧ f ez = some (.inr (1, [.ref nw0, .ref na0, .ref nq0, .ref nr0, .int 1, .int 0, .int 0, .int 0, .int (-1), .int 0, .int 0])) ∧ f nw0 = some (.inl (cI G, 6, .inl (fun j => if j < 6 then (-1) else (fun _ => 0) j))) ∧ f na0 = some (.inl (cI G, 6, .inl (fun _ => 0))) ∧ f nq0 = some (.inl (cI G, 6, .inl (fun j => if j < 6 then (-1) else (fun _ => 0) j))) ∧ f nr0 = some (.inr (3, [.null, .null, .int 0])) ∧ f eo = some (.inr (1, [.ref nw1, .ref na1, .ref nq1, .ref nr1, .int 2, .int 0, .int 0, .int 0, .int (-1), .int 0, .int 0])) ∧ f nw1 = some (.inl (cI G, 6, .inl (fun j => if j < 6 then (-1) else (fun _ => 0) j))) ∧ f na1 = some (.inl (cI G, 6, .inl (fun _ => 0))) ∧ f nq1 = some (.inl (cI G, 6, .inl (fun j => if j < 6 then (-1) else (fun _ => 0) j))) ∧ f nr1 = some (.inr (3, [.null, .null, .int 0])) ∧ f bu = some (.inr (0, [.ref bs, .ref bp, .ref bh, .ref bf, .ref bl, .ref bg, .int 0, .int 0, .int 0])) ∧ f bs = some (.inl (cI G, 61, .inl (fun _ => 0))) ∧ f bp = some (.inl (cI G, 240, .inl (fun _ => 0))) ∧ f bh = some (.inl (cZ G, 240, .inl (fun _ => 0))) ∧ f bf = some (.inl (cI G, 3, .inl (upd (upd (upd (fun _ => 0) (0 : Int32).toNatClampNeg 0) (1 : Int32).toNatClampNeg 1) (2 : Int32).toNatClampNeg 2))) ∧ f bl = some (.inl (cI G, 3, .inl (fun j => if j < 3 then (-1) else (fun _ => 0) j))) ∧ f bg = some (.inl (cI G, 60, .inl (fun _ => 0))) ∧ nw0 ≠ nq0 ∧ nw1 ≠ nq1 ∧ bs ≠ bp) (no : out ∉ [nw0, nw1, na0, na1, nq0, nq1, bs, bp]) (k_out : f out = some (.inl (cJ G, 1, .inr (.inl (fun _ => 0))))) (i o x : Int32) : CT l yL_allow (.codeWith yL_allow cL_allow 6 (some .int) [(0, 12, 15, 13), (0, 12, 19, 15)]) 8 127 3 18 G [.ref xo, .int i, .int o, .int x, .ref out] f (fun v f1 => v = some (.int (spc (sE i ∧ sO o) (sA x))) ∧ (spc (sE i ∧ sO o) (sA x) = 0 → f1 out = some (.inl (cJ G, 1, .inr (.inl (vp_updL (fun _ => 0) (0 : Int32).toNatClampNeg ((0 : Int32).toInt64)))))) ∧ hKeep [na0, na1, out] f f1) (fun E f1 => False) := by
  refine hp_startH hl (own := RL) (by decide) rfl (Nat.le_of_ble_eq_true rfl) ?_
  intro p e s m args below meth c B0 hr htab hw hS ls hl9
  have hx := B0.1
  have hb := B0.2.1
  have hl9 : lv_has ls 6 [(0, .ref xo), (1, .int i), (2, .int o), (3, .int x), (4, .ref out)] := hl9
  obtain ⟨k_xo, k_ez, k_nw0, k_na0, k_nq0, k_nr0, k_eo, k_nw1, k_na1, k_nq1, k_nr1, k_bu, k_bs, k_bp, k_bh, k_bf, k_bl, k_bg, n_wq0, n_wq1, n_sp⟩ := C
  have no_nw0 : out ≠ nw0 := fun h9 => no (by rw [h9]; simp)
  have no_nw1 : out ≠ nw1 := fun h9 => no (by rw [h9]; simp)
  have no_na0 : out ≠ na0 := fun h9 => no (by rw [h9]; simp)
  have no_na1 : out ≠ na1 := fun h9 => no (by rw [h9]; simp)
  have no_nq0 : out ≠ nq0 := fun h9 => no (by rw [h9]; simp)
  have no_nq1 : out ≠ nq1 := fun h9 => no (by rw [h9]; simp)
  have no_bs : out ≠ bs := fun h9 => no (by rw [h9]; simp)
  have no_bp : out ≠ bp := fun h9 => no (by rw [h9]; simp)
  refine lv_aload hx hb dL_allow_0 (lv_at hl9 4 rfl) ?_
  refine lv_iconst (v := 0) hx hb dL_allow_2 (by decide) ?_
  refine lv_aload_n hx hb dL_allow_3 rfl (lv_at hl9 0 rfl) ?_
  refine lv_iload_n hx hb dL_allow_4 rfl (lv_at hl9 1 rfl) ?_
  refine lv_iload_n hx hb dL_allow_5 rfl (lv_at hl9 2 rfl) ?_
  refine lv_iload_n hx hb dL_allow_6 rfl (lv_at hl9 3 rfl) ?_
  refine hp_V (ci := 4) (As := [.int i, .int o, .int x]) (rest := [.int 0, .ref out]) B0 hw hS (c_X4_allow hl G f xo ez eo bu k_xo nw0 na0 nq0 nr0 1 0 0 0 (-1) 0 0 k_ez nw1 na1 nq1 nr1 2 0 0 0 (-1) 0 0 k_eo (fun _ => 0) (fun _ => 0) k_na0 k_na1 i o x) mV_X4_allow qM_L_17 rfl k_xo rfl rfl hl9.1 (Nat.le_of_ble_eq_true rfl) ⟨⟨Nat.le_of_ble_eq_true rfl, Nat.le_of_ble_eq_true rfl⟩, Nat.le_of_ble_eq_true rfl, Nat.le_of_ble_eq_true rfl⟩ dL_allow_7 (fun E ce q9 f1 H locs hPX hw hS hce hcv hcl => ?_) (fun v f1 H locs hP hw hS => ?_)
  · obtain ⟨ef9, hE9⟩ := hPX
    rw [ef9] at hw
    rcases hE9 with ⟨eE9, hc9⟩ | ⟨eE9, hc9⟩
    · subst eE9
      refine hp_catch (name := eI) B0 [] _ _ (htab.trans rfl) (fun z hz => nomatch hz) rfl (by decide) qC_L_13 oC_eI hce hcv hcl ?_
      refine W.eq (g2 := F0 m 15 ls [.ref q9]) rfl ?_
      refine lv_astore (lv' := [(5, .ref q9), (0, .ref xo), (1, .int i), (2, .int o), (3, .int x), (4, .ref out)]) hx hb dL_allow_15 hl9 (by decide) rfl (fun ls hl9 => ?_)
      refine lv_iconst (v := 1) hx hb dL_allow_17 (by decide) ?_
      exact hp_iret (v := 1) B0 hw hS hr ⟨Nat.le_of_ble_eq_true rfl, Nat.le_of_ble_eq_true rfl⟩ dL_allow_18 (⟨by rw [hc9], fun h9 => absurd (h9.symm.trans hc9) (by decide), hKeep.rf⟩)
    · subst eE9
      refine hp_catch (name := eA) B0 [_] _ _ (htab.trans rfl) (fun z hz => Or.inr (by rcases List.mem_singleton.mp hz with rfl; exact ⟨by decide, eI, qC_L_13, List.mem_of_getElem? (i := 2) rfl⟩)) rfl (by decide) qC_L_15 oC_eA hce hcv hcl ?_
      refine W.eq (g2 := F0 m 19 ls [.ref q9]) rfl ?_
      refine lv_astore (lv' := [(5, .ref q9), (0, .ref xo), (1, .int i), (2, .int o), (3, .int x), (4, .ref out)]) hx hb dL_allow_19 hl9 (by decide) rfl (fun ls hl9 => ?_)
      refine lv_iconst (v := 2) hx hb dL_allow_21 (by decide) ?_
      exact hp_iret (v := 2) B0 hw hS hr ⟨Nat.le_of_ble_eq_true rfl, Nat.le_of_ble_eq_true rfl⟩ dL_allow_22 (⟨by rw [hc9], fun h9 => absurd (h9.symm.trans hc9) (by decide), hKeep.rf⟩)
  · obtain ⟨hz9, hv9⟩ := hP
    rcases hv9 with ⟨k9, ev9, ef9, kk9⟩ | ⟨k9, ev9, ef9, kk9⟩
    · subst ev9
      refine W.eq (g2 := F0 m 10 ls [.int ((fun _ => 0) (o : Int32).toNatClampNeg), .int 0, .ref out]) rfl ?_
      refine hp_c (v := 0) (rfl) ?_
      refine lv_i2l (v := (0 : Int32).toInt64) hx hb dL_allow_10 rfl ?_
      have h2 : f1 out = some (.inl (cJ G, 1, .inr (.inl (fun _ => 0)))) := kk9 _ _ k_out (ninc no_na0 nin0)
      refine hp_last B0 hw hS h2 (by unfold vp_in; decide) dL_allow_11 (fun H locs f3 ef3 hw hS => ?_)
      have h4 : f3 out = some (.inl (cJ G, 1, .inr (.inl (vp_updL (fun _ => 0) (0 : Int32).toNatClampNeg ((0 : Int32).toInt64))))) := by rw [ef3, va_up_self]
      refine lv_goto (tgt := 23) hx hb dL_allow_12 (by decide) ?_
      refine lv_iconst (v := 0) hx hb dL_allow_23 (by decide) ?_
      exact hp_iret (v := 0) B0 hw hS hr ⟨Nat.le_of_ble_eq_true rfl, Nat.le_of_ble_eq_true rfl⟩ dL_allow_24 (⟨by rw [hz9], fun _ => h4, ((show hKeep [na0, na1, out] f f1 from (kk9.mono (fun x9 hx9 => by simp only [List.mem_cons, List.not_mem_nil, or_false] at hx9 ⊢; omega))).tr (show hKeep [na0, na1, out] f1 f3 from (by rw [ef3]; exact hKeep.up (by simp))))⟩)
    · subst ev9
      refine W.eq (g2 := F0 m 10 ls [.int ((fun _ => 0) (o : Int32).toNatClampNeg), .int 0, .ref out]) rfl ?_
      refine hp_c (v := 0) (rfl) ?_
      refine lv_i2l (v := (0 : Int32).toInt64) hx hb dL_allow_10 rfl ?_
      have h5 : f1 out = some (.inl (cJ G, 1, .inr (.inl (fun _ => 0)))) := kk9 _ _ k_out (ninc no_na1 nin0)
      refine hp_last B0 hw hS h5 (by unfold vp_in; decide) dL_allow_11 (fun H locs f6 ef6 hw hS => ?_)
      have h7 : f6 out = some (.inl (cJ G, 1, .inr (.inl (vp_updL (fun _ => 0) (0 : Int32).toNatClampNeg ((0 : Int32).toInt64))))) := by rw [ef6, va_up_self]
      refine lv_goto (tgt := 23) hx hb dL_allow_12 (by decide) ?_
      refine lv_iconst (v := 0) hx hb dL_allow_23 (by decide) ?_
      exact hp_iret (v := 0) B0 hw hS hr ⟨Nat.le_of_ble_eq_true rfl, Nat.le_of_ble_eq_true rfl⟩ dL_allow_24 (⟨by rw [hz9], fun _ => h7, ((show hKeep [na0, na1, out] f f1 from (kk9.mono (fun x9 hx9 => by simp only [List.mem_cons, List.not_mem_nil, or_false] at hx9 ⊢; omega))).tr (show hKeep [na0, na1, out] f1 f6 from (by rw [ef6]; exact hKeep.up (by simp))))⟩)

set_option maxHeartbeats 4000000 in
set_option maxRecDepth 100000 in
theorem c_L_setMagic {l : Launch} (hl : l.stackTraces = false) (G : hG) (f : hM) (xo ez eo bu nw0 na0 nq0 nr0 nw1 na1 nq1 nr1 bs bp bh bf bl bg out : Nat) (C : f xo = some (.inr (4, [.ref ez, .ref eo, .ref bu])) ∧ f ez = some (.inr (1, [.ref nw0, .ref na0, .ref nq0, .ref nr0, .int 1, .int 0, .int 0, .int 0, .int (-1), .int 0, .int 0])) ∧ f nw0 = some (.inl (cI G, 6, .inl (fun j => if j < 6 then (-1) else (fun _ => 0) j))) ∧ f na0 = some (.inl (cI G, 6, .inl (fun _ => 0))) ∧ f nq0 = some (.inl (cI G, 6, .inl (fun j => if j < 6 then (-1) else (fun _ => 0) j))) ∧ f nr0 = some (.inr (3, [.null, .null, .int 0])) ∧ f eo = some (.inr (1, [.ref nw1, .ref na1, .ref nq1, .ref nr1, .int 2, .int 0, .int 0, .int 0, .int (-1), .int 0, .int 0])) ∧ f nw1 = some (.inl (cI G, 6, .inl (fun j => if j < 6 then (-1) else (fun _ => 0) j))) ∧ f na1 = some (.inl (cI G, 6, .inl (fun _ => 0))) ∧ f nq1 = some (.inl (cI G, 6, .inl (fun j => if j < 6 then (-1) else (fun _ => 0) j))) ∧ f nr1 = some (.inr (3, [.null, .null, .int 0])) ∧ f bu = some (.inr (0, [.ref bs, .ref bp, .ref bh, .ref bf, .ref bl, .ref bg, .int 0, .int 0, .int 0])) ∧ f bs = some (.inl (cI G, 61, .inl (fun _ => 0))) ∧ f bp = some (.inl (cI G, 240, .inl (fun _ => 0))) ∧ f bh = some (.inl (cZ G, 240, .inl (fun _ => 0))) ∧ f bf = some (.inl (cI G, 3, .inl (upd (upd (upd (fun _ => 0) (0 : Int32).toNatClampNeg 0) (1 : Int32).toNatClampNeg 1) (2 : Int32).toNatClampNeg 2))) ∧ f bl = some (.inl (cI G, 3, .inl (fun j => if j < 3 then (-1) else (fun _ => 0) j))) ∧ f bg = some (.inl (cI G, 60, .inl (fun _ => 0))) ∧ nw0 ≠ nq0 ∧ nw1 ≠ nq1 ∧ bs ≠ bp) (no : out ∉ [nw0, nw1, na0, na1, nq0, nq1, bs, bp]) (k_out : f out = some (.inl (cJ G, 1, .inr (.inl (fun _ => 0))))) (i x : Int32) : CT l yL_setMagic (.codeWith yL_setMagic cL_setMagic 5 (some .int) [(0, 10, 13, 13)]) 8 125 1 6 G [.ref xo, .int i, .int x, .ref out] f (fun v f1 => v = some (.int (spc (sE i) True)) ∧ (spc (sE i) True = 0 → f1 out = some (.inl (cJ G, 1, .inr (.inl (vp_updL (fun _ => 0) (0 : Int32).toNatClampNeg (((if i = 0 then 1 else 2) : Int32).toInt64)))))) ∧ hKeep [ez, eo, out] f f1) (fun E f1 => False) := by
  refine hp_startH hl (own := RL) (by decide) rfl (Nat.le_of_ble_eq_true rfl) ?_
  intro p e s m args below meth c B0 hr htab hw hS ls hl9
  have hx := B0.1
  have hb := B0.2.1
  have hl9 : lv_has ls 5 [(0, .ref xo), (1, .int i), (2, .int x), (3, .ref out)] := hl9
  obtain ⟨k_xo, k_ez, k_nw0, k_na0, k_nq0, k_nr0, k_eo, k_nw1, k_na1, k_nq1, k_nr1, k_bu, k_bs, k_bp, k_bh, k_bf, k_bl, k_bg, n_wq0, n_wq1, n_sp⟩ := C
  have no_nw0 : out ≠ nw0 := fun h9 => no (by rw [h9]; simp)
  have no_nw1 : out ≠ nw1 := fun h9 => no (by rw [h9]; simp)
  have no_na0 : out ≠ na0 := fun h9 => no (by rw [h9]; simp)
  have no_na1 : out ≠ na1 := fun h9 => no (by rw [h9]; simp)
  have no_nq0 : out ≠ nq0 := fun h9 => no (by rw [h9]; simp)
  have no_nq1 : out ≠ nq1 := fun h9 => no (by rw [h9]; simp)
  have no_bs : out ≠ bs := fun h9 => no (by rw [h9]; simp)
  have no_bp : out ≠ bp := fun h9 => no (by rw [h9]; simp)
  refine lv_aload_n hx hb dL_setMagic_0 rfl (lv_at hl9 3 rfl) ?_
  refine lv_iconst (v := 0) hx hb dL_setMagic_1 (by decide) ?_
  refine lv_aload_n hx hb dL_setMagic_2 rfl (lv_at hl9 0 rfl) ?_
  refine lv_iload_n hx hb dL_setMagic_3 rfl (lv_at hl9 1 rfl) ?_
  refine lv_iload_n hx hb dL_setMagic_4 rfl (lv_at hl9 2 rfl) ?_
  refine hp_V (ci := 4) (As := [.int i, .int x]) (rest := [.int 0, .ref out]) B0 hw hS (c_X4_setMagic hl G f xo ez eo bu k_xo nw0 na0 nq0 nr0 1 0 0 0 (-1) 0 0 k_ez nw1 na1 nq1 nr1 2 0 0 0 (-1) 0 0 k_eo i x) mV_X4_setMagic qM_L_20 rfl k_xo rfl rfl hl9.1 (Nat.le_of_ble_eq_true rfl) ⟨⟨Nat.le_of_ble_eq_true rfl, Nat.le_of_ble_eq_true rfl⟩, Nat.le_of_ble_eq_true rfl, Nat.le_of_ble_eq_true rfl⟩ dL_setMagic_5 (fun E ce q9 f1 H locs hPX hw hS hce hcv hcl => ?_) (fun v f1 H locs hP hw hS => ?_)
  · obtain ⟨ef9, eE9, hc9⟩ := hPX
    rw [ef9] at hw
    subst eE9
    refine hp_catch (name := eI) B0 [] _ _ (htab.trans rfl) (fun z hz => nomatch hz) rfl (by decide) qC_L_13 oC_eI hce hcv hcl ?_
    refine W.eq (g2 := F0 m 13 ls [.ref q9]) rfl ?_
    refine lv_astore (lv' := [(4, .ref q9), (0, .ref xo), (1, .int i), (2, .int x), (3, .ref out)]) hx hb dL_setMagic_13 hl9 (by decide) rfl (fun ls hl9 => ?_)
    refine lv_iconst (v := 1) hx hb dL_setMagic_15 (by decide) ?_
    exact hp_iret (v := 1) B0 hw hS hr ⟨Nat.le_of_ble_eq_true rfl, Nat.le_of_ble_eq_true rfl⟩ dL_setMagic_16 (⟨by rw [hc9], fun h9 => absurd (h9.symm.trans hc9) (by decide), hKeep.rf⟩)
  · obtain ⟨hz9, hv9⟩ := hP
    rcases hv9 with ⟨k9, ev9, ef9, kk9⟩ | ⟨k9, ev9, ef9, kk9⟩
    · subst ev9
      refine W.eq (g2 := F0 m 8 ls [.int 1, .int 0, .ref out]) rfl ?_
      refine hp_c (v := (if i = 0 then 1 else 2)) ((by rw [if_pos k9])) ?_
      refine lv_i2l (v := ((if i = 0 then 1 else 2) : Int32).toInt64) hx hb dL_setMagic_8 rfl ?_
      have n3 : out ≠ ez := hne k_out k_ez (Nat.ne_of_beq_eq_false rfl)
      have h2 : f1 out = some (.inl (cJ G, 1, .inr (.inl (fun _ => 0)))) := kk9 _ _ k_out (ninc n3 nin0)
      refine hp_last B0 hw hS h2 (by unfold vp_in; decide) dL_setMagic_9 (fun H locs f4 ef4 hw hS => ?_)
      have h5 : f4 out = some (.inl (cJ G, 1, .inr (.inl (vp_updL (fun _ => 0) (0 : Int32).toNatClampNeg (((if i = 0 then 1 else 2) : Int32).toInt64))))) := by rw [ef4, va_up_self]
      refine lv_goto (tgt := 17) hx hb dL_setMagic_10 (by decide) ?_
      refine lv_iconst (v := 0) hx hb dL_setMagic_17 (by decide) ?_
      exact hp_iret (v := 0) B0 hw hS hr ⟨Nat.le_of_ble_eq_true rfl, Nat.le_of_ble_eq_true rfl⟩ dL_setMagic_18 (⟨by rw [hz9], fun _ => h5, ((show hKeep [ez, eo, out] f f1 from (kk9.mono (fun x9 hx9 => by simp only [List.mem_cons, List.not_mem_nil, or_false] at hx9 ⊢; omega))).tr (show hKeep [ez, eo, out] f1 f4 from (by rw [ef4]; exact hKeep.up (by simp))))⟩)
    · subst ev9
      refine W.eq (g2 := F0 m 8 ls [.int 2, .int 0, .ref out]) rfl ?_
      refine hp_c (v := (if i = 0 then 1 else 2)) ((by rw [if_neg (by rw [k9]; decide)])) ?_
      refine lv_i2l (v := ((if i = 0 then 1 else 2) : Int32).toInt64) hx hb dL_setMagic_8 rfl ?_
      have n7 : out ≠ eo := hne k_out k_eo (Nat.ne_of_beq_eq_false rfl)
      have h6 : f1 out = some (.inl (cJ G, 1, .inr (.inl (fun _ => 0)))) := kk9 _ _ k_out (ninc n7 nin0)
      refine hp_last B0 hw hS h6 (by unfold vp_in; decide) dL_setMagic_9 (fun H locs f8 ef8 hw hS => ?_)
      have h9 : f8 out = some (.inl (cJ G, 1, .inr (.inl (vp_updL (fun _ => 0) (0 : Int32).toNatClampNeg (((if i = 0 then 1 else 2) : Int32).toInt64))))) := by rw [ef8, va_up_self]
      refine lv_goto (tgt := 17) hx hb dL_setMagic_10 (by decide) ?_
      refine lv_iconst (v := 0) hx hb dL_setMagic_17 (by decide) ?_
      exact hp_iret (v := 0) B0 hw hS hr ⟨Nat.le_of_ble_eq_true rfl, Nat.le_of_ble_eq_true rfl⟩ dL_setMagic_18 (⟨by rw [hz9], fun _ => h9, ((show hKeep [ez, eo, out] f f1 from (kk9.mono (fun x9 hx9 => by simp only [List.mem_cons, List.not_mem_nil, or_false] at hx9 ⊢; omega))).tr (show hKeep [ez, eo, out] f1 f8 from (by rw [ef8]; exact hKeep.up (by simp))))⟩)

set_option maxHeartbeats 4000000 in
set_option maxRecDepth 100000 in
theorem c_L_open {l : Launch} (hl : l.stackTraces = false) (G : hG) (f : hM) (xo ez eo bu nw0 na0 nq0 nr0 nw1 na1 nq1 nr1 bs bp bh bf bl bg out : Nat) (C : f xo = some (.inr (4, [.ref ez, .ref eo, .ref bu])) ∧ f ez = some (.inr (1, [.ref nw0, .ref na0, .ref nq0, .ref nr0, .int 1, .int 0, .int 0, .int 0, .int (-1), .int 0, .int 0])) ∧ f nw0 = some (.inl (cI G, 6, .inl (fun j => if j < 6 then (-1) else (fun _ => 0) j))) ∧ f na0 = some (.inl (cI G, 6, .inl (fun _ => 0))) ∧ f nq0 = some (.inl (cI G, 6, .inl (fun j => if j < 6 then (-1) else (fun _ => 0) j))) ∧ f nr0 = some (.inr (3, [.null, .null, .int 0])) ∧ f eo = some (.inr (1, [.ref nw1, .ref na1, .ref nq1, .ref nr1, .int 2, .int 0, .int 0, .int 0, .int (-1), .int 0, .int 0])) ∧ f nw1 = some (.inl (cI G, 6, .inl (fun j => if j < 6 then (-1) else (fun _ => 0) j))) ∧ f na1 = some (.inl (cI G, 6, .inl (fun _ => 0))) ∧ f nq1 = some (.inl (cI G, 6, .inl (fun j => if j < 6 then (-1) else (fun _ => 0) j))) ∧ f nr1 = some (.inr (3, [.null, .null, .int 0])) ∧ f bu = some (.inr (0, [.ref bs, .ref bp, .ref bh, .ref bf, .ref bl, .ref bg, .int 0, .int 0, .int 0])) ∧ f bs = some (.inl (cI G, 61, .inl (fun _ => 0))) ∧ f bp = some (.inl (cI G, 240, .inl (fun _ => 0))) ∧ f bh = some (.inl (cZ G, 240, .inl (fun _ => 0))) ∧ f bf = some (.inl (cI G, 3, .inl (upd (upd (upd (fun _ => 0) (0 : Int32).toNatClampNeg 0) (1 : Int32).toNatClampNeg 1) (2 : Int32).toNatClampNeg 2))) ∧ f bl = some (.inl (cI G, 3, .inl (fun j => if j < 3 then (-1) else (fun _ => 0) j))) ∧ f bg = some (.inl (cI G, 60, .inl (fun _ => 0))) ∧ nw0 ≠ nq0 ∧ nw1 ≠ nq1 ∧ bs ≠ bp) (no : out ∉ [nw0, nw1, na0, na1, nq0, nq1, bs, bp]) (k_out : f out = some (.inl (cJ G, 1, .inr (.inl (fun _ => 0))))) (i : Int32) : CT l yL_open (.codeWith yL_open cL_open 4 (some .int) [(0, 9, 12, 13), (0, 9, 15, 28)]) 8 125 3 17 G [.ref xo, .int i, .ref out] f (fun v f1 => v = some (.int (spc (sE i) True)) ∧ (spc (sE i) True = 0 → f1 out = some (.inl (cJ G, 1, .inr (.inl (vp_updL (fun _ => 0) (0 : Int32).toNatClampNeg ((0 : Int32).toInt64)))))) ∧ hKeep [ez, nq0, nr0, eo, nq1, nr1, out] f f1) (fun E f1 => False) := by
  refine hp_startH hl (own := RL) (by decide) rfl (Nat.le_of_ble_eq_true rfl) ?_
  intro p e s m args below meth c B0 hr htab hw hS ls hl9
  have hx := B0.1
  have hb := B0.2.1
  have hl9 : lv_has ls 4 [(0, .ref xo), (1, .int i), (2, .ref out)] := hl9
  obtain ⟨k_xo, k_ez, k_nw0, k_na0, k_nq0, k_nr0, k_eo, k_nw1, k_na1, k_nq1, k_nr1, k_bu, k_bs, k_bp, k_bh, k_bf, k_bl, k_bg, n_wq0, n_wq1, n_sp⟩ := C
  have no_nw0 : out ≠ nw0 := fun h9 => no (by rw [h9]; simp)
  have no_nw1 : out ≠ nw1 := fun h9 => no (by rw [h9]; simp)
  have no_na0 : out ≠ na0 := fun h9 => no (by rw [h9]; simp)
  have no_na1 : out ≠ na1 := fun h9 => no (by rw [h9]; simp)
  have no_nq0 : out ≠ nq0 := fun h9 => no (by rw [h9]; simp)
  have no_nq1 : out ≠ nq1 := fun h9 => no (by rw [h9]; simp)
  have no_bs : out ≠ bs := fun h9 => no (by rw [h9]; simp)
  have no_bp : out ≠ bp := fun h9 => no (by rw [h9]; simp)
  refine lv_aload_n hx hb dL_open_0 rfl (lv_at hl9 2 rfl) ?_
  refine lv_iconst (v := 0) hx hb dL_open_1 (by decide) ?_
  refine lv_aload_n hx hb dL_open_2 rfl (lv_at hl9 0 rfl) ?_
  refine lv_iload_n hx hb dL_open_3 rfl (lv_at hl9 1 rfl) ?_
  refine hp_V (ci := 4) (As := [.int i]) (rest := [.int 0, .ref out]) B0 hw hS (c_X4_open0 hl G f xo ez eo bu k_xo nw0 na0 nq0 nr0 1 k_ez nw1 na1 nq1 nr1 2 k_eo n_wq0 (fun j => if j < 6 then (-1) else (fun _ => 0) j) k_nw0 (fun j => if j < 6 then (-1) else (fun _ => 0) j) k_nq0 k_nr0 n_wq1 (fun j => if j < 6 then (-1) else (fun _ => 0) j) k_nw1 (fun j => if j < 6 then (-1) else (fun _ => 0) j) k_nq1 k_nr1 i) mV_X4_open qM_L_24 rfl k_xo rfl rfl hl9.1 (Nat.le_of_ble_eq_true rfl) ⟨⟨Nat.le_of_ble_eq_true rfl, Nat.le_of_ble_eq_true rfl⟩, Nat.le_of_ble_eq_true rfl, Nat.le_of_ble_eq_true rfl⟩ dL_open_4 (fun E ce q9 f1 H locs hPX hw hS hce hcv hcl => ?_) (fun v f1 H locs hP hw hS => ?_)
  · obtain ⟨ef9, eE9, hc9⟩ := hPX
    rw [ef9] at hw
    subst eE9
    refine hp_catch (name := eI) B0 [] _ _ (htab.trans rfl) (fun z hz => nomatch hz) rfl (by decide) qC_L_13 oC_eI hce hcv hcl ?_
    refine W.eq (g2 := F0 m 12 ls [.ref q9]) rfl ?_
    refine lv_astore_n (lv' := [(3, .ref q9), (0, .ref xo), (1, .int i), (2, .ref out)]) hx hb dL_open_12 rfl hl9 (by decide) rfl (fun ls hl9 => ?_)
    refine lv_iconst (v := 1) hx hb dL_open_13 (by decide) ?_
    exact hp_iret (v := 1) B0 hw hS hr ⟨Nat.le_of_ble_eq_true rfl, Nat.le_of_ble_eq_true rfl⟩ dL_open_14 (⟨by rw [hc9], fun h9 => absurd (h9.symm.trans hc9) (by decide), hKeep.rf⟩)
  · obtain ⟨hz9, ev9, kk9⟩ := hP
    subst ev9
    refine W.eq (g2 := F0 m 7 ls [.int 0, .int 0, .ref out]) rfl ?_
    refine lv_i2l (v := (0 : Int32).toInt64) hx hb dL_open_7 rfl ?_
    have n3 : out ≠ nr1 := hne k_out k_nr1 (Nat.ne_of_beq_eq_false rfl)
    have n4 : out ≠ eo := hne k_out k_eo (Nat.ne_of_beq_eq_false rfl)
    have n5 : out ≠ nr0 := hne k_out k_nr0 (Nat.ne_of_beq_eq_false rfl)
    have n6 : out ≠ ez := hne k_out k_ez (Nat.ne_of_beq_eq_false rfl)
    have h2 : f1 out = some (.inl (cJ G, 1, .inr (.inl (fun _ => 0)))) := kk9 _ _ k_out (ninc n6 (ninc no_nq0 (ninc n5 (ninc n4 (ninc no_nq1 (ninc n3 nin0))))))
    refine hp_last B0 hw hS h2 (by unfold vp_in; decide) dL_open_8 (fun H locs f7 ef7 hw hS => ?_)
    have h8 : f7 out = some (.inl (cJ G, 1, .inr (.inl (vp_updL (fun _ => 0) (0 : Int32).toNatClampNeg ((0 : Int32).toInt64))))) := by rw [ef7, va_up_self]
    refine lv_goto (tgt := 18) hx hb dL_open_9 (by decide) ?_
    refine lv_iconst (v := 0) hx hb dL_open_18 (by decide) ?_
    exact hp_iret (v := 0) B0 hw hS hr ⟨Nat.le_of_ble_eq_true rfl, Nat.le_of_ble_eq_true rfl⟩ dL_open_19 (⟨by rw [hz9], fun _ => h8, ((show hKeep [ez, nq0, nr0, eo, nq1, nr1, out] f f1 from (kk9.mono (fun x9 hx9 => by simp only [List.mem_cons, List.not_mem_nil, or_false] at hx9 ⊢; omega))).tr (show hKeep [ez, nq0, nr0, eo, nq1, nr1, out] f1 f7 from (by rw [ef7]; exact hKeep.up (by simp))))⟩)

set_option maxHeartbeats 4000000 in
set_option maxRecDepth 100000 in
theorem c_L_close {l : Launch} (hl : l.stackTraces = false) (G : hG) (f : hM) (xo ez eo bu nw0 na0 nq0 nr0 nw1 na1 nq1 nr1 bs bp bh bf bl bg out : Nat) (C : f xo = some (.inr (4, [.ref ez, .ref eo, .ref bu])) ∧ f ez = some (.inr (1, [.ref nw0, .ref na0, .ref nq0, .ref nr0, .int 1, .int 0, .int 0, .int 0, .int (-1), .int 0, .int 0])) ∧ f nw0 = some (.inl (cI G, 6, .inl (fun j => if j < 6 then (-1) else (fun _ => 0) j))) ∧ f na0 = some (.inl (cI G, 6, .inl (fun _ => 0))) ∧ f nq0 = some (.inl (cI G, 6, .inl (fun j => if j < 6 then (-1) else (fun _ => 0) j))) ∧ f nr0 = some (.inr (3, [.null, .null, .int 0])) ∧ f eo = some (.inr (1, [.ref nw1, .ref na1, .ref nq1, .ref nr1, .int 2, .int 0, .int 0, .int 0, .int (-1), .int 0, .int 0])) ∧ f nw1 = some (.inl (cI G, 6, .inl (fun j => if j < 6 then (-1) else (fun _ => 0) j))) ∧ f na1 = some (.inl (cI G, 6, .inl (fun _ => 0))) ∧ f nq1 = some (.inl (cI G, 6, .inl (fun j => if j < 6 then (-1) else (fun _ => 0) j))) ∧ f nr1 = some (.inr (3, [.null, .null, .int 0])) ∧ f bu = some (.inr (0, [.ref bs, .ref bp, .ref bh, .ref bf, .ref bl, .ref bg, .int 0, .int 0, .int 0])) ∧ f bs = some (.inl (cI G, 61, .inl (fun _ => 0))) ∧ f bp = some (.inl (cI G, 240, .inl (fun _ => 0))) ∧ f bh = some (.inl (cZ G, 240, .inl (fun _ => 0))) ∧ f bf = some (.inl (cI G, 3, .inl (upd (upd (upd (fun _ => 0) (0 : Int32).toNatClampNeg 0) (1 : Int32).toNatClampNeg 1) (2 : Int32).toNatClampNeg 2))) ∧ f bl = some (.inl (cI G, 3, .inl (fun j => if j < 3 then (-1) else (fun _ => 0) j))) ∧ f bg = some (.inl (cI G, 60, .inl (fun _ => 0))) ∧ nw0 ≠ nq0 ∧ nw1 ≠ nq1 ∧ bs ≠ bp) (no : out ∉ [nw0, nw1, na0, na1, nq0, nq1, bs, bp]) (k_out : f out = some (.inl (cJ G, 1, .inr (.inl (fun _ => 0))))) (i : Int32) : CT l yL_close (.codeWith yL_close cL_close 4 (some .int) [(0, 9, 12, 13), (0, 9, 15, 28)]) 8 125 2 12 G [.ref xo, .int i, .ref out] f (fun v f1 => v = some (.int (spc (sE i) False)) ∧ (spc (sE i) False = 0 → f1 out = some (.inl (cJ G, 1, .inr (.inl (vp_updL (fun _ => 0) (0 : Int32).toNatClampNeg 0))))) ∧ hKeep [out] f f1) (fun E f1 => False) := by
  refine hp_startH hl (own := RL) (by decide) rfl (Nat.le_of_ble_eq_true rfl) ?_
  intro p e s m args below meth c B0 hr htab hw hS ls hl9
  have hx := B0.1
  have hb := B0.2.1
  have hl9 : lv_has ls 4 [(0, .ref xo), (1, .int i), (2, .ref out)] := hl9
  obtain ⟨k_xo, k_ez, k_nw0, k_na0, k_nq0, k_nr0, k_eo, k_nw1, k_na1, k_nq1, k_nr1, k_bu, k_bs, k_bp, k_bh, k_bf, k_bl, k_bg, n_wq0, n_wq1, n_sp⟩ := C
  have no_nw0 : out ≠ nw0 := fun h9 => no (by rw [h9]; simp)
  have no_nw1 : out ≠ nw1 := fun h9 => no (by rw [h9]; simp)
  have no_na0 : out ≠ na0 := fun h9 => no (by rw [h9]; simp)
  have no_na1 : out ≠ na1 := fun h9 => no (by rw [h9]; simp)
  have no_nq0 : out ≠ nq0 := fun h9 => no (by rw [h9]; simp)
  have no_nq1 : out ≠ nq1 := fun h9 => no (by rw [h9]; simp)
  have no_bs : out ≠ bs := fun h9 => no (by rw [h9]; simp)
  have no_bp : out ≠ bp := fun h9 => no (by rw [h9]; simp)
  refine lv_aload_n hx hb dL_close_0 rfl (lv_at hl9 2 rfl) ?_
  refine lv_iconst (v := 0) hx hb dL_close_1 (by decide) ?_
  refine lv_aload_n hx hb dL_close_2 rfl (lv_at hl9 0 rfl) ?_
  refine lv_iload_n hx hb dL_close_3 rfl (lv_at hl9 1 rfl) ?_
  refine hp_V (ci := 4) (As := [.int i]) (rest := [.int 0, .ref out]) B0 hw hS (c_X4_close0 hl G f xo ez eo bu k_xo nw0 na0 nq0 nr0 1 k_ez nw1 na1 nq1 nr1 2 k_eo i) mV_X4_close qM_L_30 rfl k_xo rfl rfl hl9.1 (Nat.le_of_ble_eq_true rfl) ⟨⟨Nat.le_of_ble_eq_true rfl, Nat.le_of_ble_eq_true rfl⟩, Nat.le_of_ble_eq_true rfl, Nat.le_of_ble_eq_true rfl⟩ dL_close_4 (fun E ce q9 f1 H locs hPX hw hS hce hcv hcl => ?_) (fun v f1 H locs hP hw hS => ?_)
  · obtain ⟨ef9, hE9⟩ := hPX
    rw [ef9] at hw
    rcases hE9 with ⟨eE9, hc9⟩ | ⟨eE9, hc9⟩
    · subst eE9
      refine hp_catch (name := eI) B0 [] _ _ (htab.trans rfl) (fun z hz => nomatch hz) rfl (by decide) qC_L_13 oC_eI hce hcv hcl ?_
      refine W.eq (g2 := F0 m 12 ls [.ref q9]) rfl ?_
      refine lv_astore_n (lv' := [(3, .ref q9), (0, .ref xo), (1, .int i), (2, .ref out)]) hx hb dL_close_12 rfl hl9 (by decide) rfl (fun ls hl9 => ?_)
      refine lv_iconst (v := 1) hx hb dL_close_13 (by decide) ?_
      exact hp_iret (v := 1) B0 hw hS hr ⟨Nat.le_of_ble_eq_true rfl, Nat.le_of_ble_eq_true rfl⟩ dL_close_14 (⟨by rw [hc9], fun h9 => absurd (h9.symm.trans hc9) (by decide), hKeep.rf⟩)
    · subst eE9
      refine hp_catch (name := eS) B0 [_] _ _ (htab.trans rfl) (fun z hz => Or.inr (by rcases List.mem_singleton.mp hz with rfl; exact ⟨by decide, eI, qC_L_13, List.mem_of_getElem? (i := 4) rfl⟩)) rfl (by decide) qC_L_28 oC_eS hce hcv hcl ?_
      refine W.eq (g2 := F0 m 15 ls [.ref q9]) rfl ?_
      refine lv_astore_n (lv' := [(3, .ref q9), (0, .ref xo), (1, .int i), (2, .ref out)]) hx hb dL_close_15 rfl hl9 (by decide) rfl (fun ls hl9 => ?_)
      refine lv_iconst (v := 2) hx hb dL_close_16 (by decide) ?_
      exact hp_iret (v := 2) B0 hw hS hr ⟨Nat.le_of_ble_eq_true rfl, Nat.le_of_ble_eq_true rfl⟩ dL_close_17 (⟨by rw [hc9], fun h9 => absurd (h9.symm.trans hc9) (by decide), hKeep.rf⟩)
  · exact hP.elim

set_option maxHeartbeats 4000000 in
set_option maxRecDepth 100000 in
theorem c_L_deliver {l : Launch} (hl : l.stackTraces = false) (G : hG) (f : hM) (xo ez eo bu nw0 na0 nq0 nr0 nw1 na1 nq1 nr1 bs bp bh bf bl bg out : Nat) (C : f xo = some (.inr (4, [.ref ez, .ref eo, .ref bu])) ∧ f ez = some (.inr (1, [.ref nw0, .ref na0, .ref nq0, .ref nr0, .int 1, .int 0, .int 0, .int 0, .int (-1), .int 0, .int 0])) ∧ f nw0 = some (.inl (cI G, 6, .inl (fun j => if j < 6 then (-1) else (fun _ => 0) j))) ∧ f na0 = some (.inl (cI G, 6, .inl (fun _ => 0))) ∧ f nq0 = some (.inl (cI G, 6, .inl (fun j => if j < 6 then (-1) else (fun _ => 0) j))) ∧ f nr0 = some (.inr (3, [.null, .null, .int 0])) ∧ f eo = some (.inr (1, [.ref nw1, .ref na1, .ref nq1, .ref nr1, .int 2, .int 0, .int 0, .int 0, .int (-1), .int 0, .int 0])) ∧ f nw1 = some (.inl (cI G, 6, .inl (fun j => if j < 6 then (-1) else (fun _ => 0) j))) ∧ f na1 = some (.inl (cI G, 6, .inl (fun _ => 0))) ∧ f nq1 = some (.inl (cI G, 6, .inl (fun j => if j < 6 then (-1) else (fun _ => 0) j))) ∧ f nr1 = some (.inr (3, [.null, .null, .int 0])) ∧ f bu = some (.inr (0, [.ref bs, .ref bp, .ref bh, .ref bf, .ref bl, .ref bg, .int 0, .int 0, .int 0])) ∧ f bs = some (.inl (cI G, 61, .inl (fun _ => 0))) ∧ f bp = some (.inl (cI G, 240, .inl (fun _ => 0))) ∧ f bh = some (.inl (cZ G, 240, .inl (fun _ => 0))) ∧ f bf = some (.inl (cI G, 3, .inl (upd (upd (upd (fun _ => 0) (0 : Int32).toNatClampNeg 0) (1 : Int32).toNatClampNeg 1) (2 : Int32).toNatClampNeg 2))) ∧ f bl = some (.inl (cI G, 3, .inl (fun j => if j < 3 then (-1) else (fun _ => 0) j))) ∧ f bg = some (.inl (cI G, 60, .inl (fun _ => 0))) ∧ nw0 ≠ nq0 ∧ nw1 ≠ nq1 ∧ bs ≠ bp) (no : out ∉ [nw0, nw1, na0, na1, nq0, nq1, bs, bp]) (k_out : f out = some (.inl (cJ G, 1, .inr (.inl (fun _ => 0))))) (i : Int32) : CT l yL_deliver (.codeWith yL_deliver cL_deliver 4 (some .int) [(0, 9, 12, 13), (0, 9, 15, 28)]) 8 125 2 12 G [.ref xo, .int i, .ref out] f (fun v f1 => v = some (.int (spc (sE i) False)) ∧ (spc (sE i) False = 0 → f1 out = some (.inl (cJ G, 1, .inr (.inl (vp_updL (fun _ => 0) (0 : Int32).toNatClampNeg 0))))) ∧ hKeep [out] f f1) (fun E f1 => False) := by
  refine hp_startH hl (own := RL) (by decide) rfl (Nat.le_of_ble_eq_true rfl) ?_
  intro p e s m args below meth c B0 hr htab hw hS ls hl9
  have hx := B0.1
  have hb := B0.2.1
  have hl9 : lv_has ls 4 [(0, .ref xo), (1, .int i), (2, .ref out)] := hl9
  obtain ⟨k_xo, k_ez, k_nw0, k_na0, k_nq0, k_nr0, k_eo, k_nw1, k_na1, k_nq1, k_nr1, k_bu, k_bs, k_bp, k_bh, k_bf, k_bl, k_bg, n_wq0, n_wq1, n_sp⟩ := C
  have no_nw0 : out ≠ nw0 := fun h9 => no (by rw [h9]; simp)
  have no_nw1 : out ≠ nw1 := fun h9 => no (by rw [h9]; simp)
  have no_na0 : out ≠ na0 := fun h9 => no (by rw [h9]; simp)
  have no_na1 : out ≠ na1 := fun h9 => no (by rw [h9]; simp)
  have no_nq0 : out ≠ nq0 := fun h9 => no (by rw [h9]; simp)
  have no_nq1 : out ≠ nq1 := fun h9 => no (by rw [h9]; simp)
  have no_bs : out ≠ bs := fun h9 => no (by rw [h9]; simp)
  have no_bp : out ≠ bp := fun h9 => no (by rw [h9]; simp)
  refine lv_aload_n hx hb dL_deliver_0 rfl (lv_at hl9 2 rfl) ?_
  refine lv_iconst (v := 0) hx hb dL_deliver_1 (by decide) ?_
  refine lv_aload_n hx hb dL_deliver_2 rfl (lv_at hl9 0 rfl) ?_
  refine lv_iload_n hx hb dL_deliver_3 rfl (lv_at hl9 1 rfl) ?_
  refine hp_V (ci := 4) (As := [.int i]) (rest := [.int 0, .ref out]) B0 hw hS (c_X4_deliver0 hl G f xo ez eo bu k_xo nw0 na0 nq0 nr0 1 k_ez nw1 na1 nq1 nr1 2 k_eo k_nr0 k_nr1 i) mV_X4_deliver qM_L_33 rfl k_xo rfl rfl hl9.1 (Nat.le_of_ble_eq_true rfl) ⟨⟨Nat.le_of_ble_eq_true rfl, Nat.le_of_ble_eq_true rfl⟩, Nat.le_of_ble_eq_true rfl, Nat.le_of_ble_eq_true rfl⟩ dL_deliver_4 (fun E ce q9 f1 H locs hPX hw hS hce hcv hcl => ?_) (fun v f1 H locs hP hw hS => ?_)
  · obtain ⟨ef9, hE9⟩ := hPX
    rw [ef9] at hw
    rcases hE9 with ⟨eE9, hc9⟩ | ⟨eE9, hc9⟩
    · subst eE9
      refine hp_catch (name := eI) B0 [] _ _ (htab.trans rfl) (fun z hz => nomatch hz) rfl (by decide) qC_L_13 oC_eI hce hcv hcl ?_
      refine W.eq (g2 := F0 m 12 ls [.ref q9]) rfl ?_
      refine lv_astore_n (lv' := [(3, .ref q9), (0, .ref xo), (1, .int i), (2, .ref out)]) hx hb dL_deliver_12 rfl hl9 (by decide) rfl (fun ls hl9 => ?_)
      refine lv_iconst (v := 1) hx hb dL_deliver_13 (by decide) ?_
      exact hp_iret (v := 1) B0 hw hS hr ⟨Nat.le_of_ble_eq_true rfl, Nat.le_of_ble_eq_true rfl⟩ dL_deliver_14 (⟨by rw [hc9], fun h9 => absurd (h9.symm.trans hc9) (by decide), hKeep.rf⟩)
    · subst eE9
      refine hp_catch (name := eS) B0 [_] _ _ (htab.trans rfl) (fun z hz => Or.inr (by rcases List.mem_singleton.mp hz with rfl; exact ⟨by decide, eI, qC_L_13, List.mem_of_getElem? (i := 4) rfl⟩)) rfl (by decide) qC_L_28 oC_eS hce hcv hcl ?_
      refine W.eq (g2 := F0 m 15 ls [.ref q9]) rfl ?_
      refine lv_astore_n (lv' := [(3, .ref q9), (0, .ref xo), (1, .int i), (2, .ref out)]) hx hb dL_deliver_15 rfl hl9 (by decide) rfl (fun ls hl9 => ?_)
      refine lv_iconst (v := 2) hx hb dL_deliver_16 (by decide) ?_
      exact hp_iret (v := 2) B0 hw hS hr ⟨Nat.le_of_ble_eq_true rfl, Nat.le_of_ble_eq_true rfl⟩ dL_deliver_17 (⟨by rw [hc9], fun h9 => absurd (h9.symm.trans hc9) (by decide), hKeep.rf⟩)
  · exact hP.elim

set_option maxHeartbeats 4000000 in
set_option maxRecDepth 100000 in
theorem c_L_lose {l : Launch} (hl : l.stackTraces = false) (G : hG) (f : hM) (xo ez eo bu nw0 na0 nq0 nr0 nw1 na1 nq1 nr1 bs bp bh bf bl bg out : Nat) (C : f xo = some (.inr (4, [.ref ez, .ref eo, .ref bu])) ∧ f ez = some (.inr (1, [.ref nw0, .ref na0, .ref nq0, .ref nr0, .int 1, .int 0, .int 0, .int 0, .int (-1), .int 0, .int 0])) ∧ f nw0 = some (.inl (cI G, 6, .inl (fun j => if j < 6 then (-1) else (fun _ => 0) j))) ∧ f na0 = some (.inl (cI G, 6, .inl (fun _ => 0))) ∧ f nq0 = some (.inl (cI G, 6, .inl (fun j => if j < 6 then (-1) else (fun _ => 0) j))) ∧ f nr0 = some (.inr (3, [.null, .null, .int 0])) ∧ f eo = some (.inr (1, [.ref nw1, .ref na1, .ref nq1, .ref nr1, .int 2, .int 0, .int 0, .int 0, .int (-1), .int 0, .int 0])) ∧ f nw1 = some (.inl (cI G, 6, .inl (fun j => if j < 6 then (-1) else (fun _ => 0) j))) ∧ f na1 = some (.inl (cI G, 6, .inl (fun _ => 0))) ∧ f nq1 = some (.inl (cI G, 6, .inl (fun j => if j < 6 then (-1) else (fun _ => 0) j))) ∧ f nr1 = some (.inr (3, [.null, .null, .int 0])) ∧ f bu = some (.inr (0, [.ref bs, .ref bp, .ref bh, .ref bf, .ref bl, .ref bg, .int 0, .int 0, .int 0])) ∧ f bs = some (.inl (cI G, 61, .inl (fun _ => 0))) ∧ f bp = some (.inl (cI G, 240, .inl (fun _ => 0))) ∧ f bh = some (.inl (cZ G, 240, .inl (fun _ => 0))) ∧ f bf = some (.inl (cI G, 3, .inl (upd (upd (upd (fun _ => 0) (0 : Int32).toNatClampNeg 0) (1 : Int32).toNatClampNeg 1) (2 : Int32).toNatClampNeg 2))) ∧ f bl = some (.inl (cI G, 3, .inl (fun j => if j < 3 then (-1) else (fun _ => 0) j))) ∧ f bg = some (.inl (cI G, 60, .inl (fun _ => 0))) ∧ nw0 ≠ nq0 ∧ nw1 ≠ nq1 ∧ bs ≠ bp) (no : out ∉ [nw0, nw1, na0, na1, nq0, nq1, bs, bp]) (k_out : f out = some (.inl (cJ G, 1, .inr (.inl (fun _ => 0))))) (i : Int32) : CT l yL_lose (.codeWith yL_lose cL_lose 4 (some .int) [(0, 9, 12, 13), (0, 9, 15, 28)]) 8 126 2 12 G [.ref xo, .int i, .ref out] f (fun v f1 => v = some (.int (spc (sE i) False)) ∧ (spc (sE i) False = 0 → f1 out = some (.inl (cJ G, 1, .inr (.inl (vp_updL (fun _ => 0) (0 : Int32).toNatClampNeg 0))))) ∧ hKeep [out] f f1) (fun E f1 => False) := by
  refine hp_startH hl (own := RL) (by decide) rfl (Nat.le_of_ble_eq_true rfl) ?_
  intro p e s m args below meth c B0 hr htab hw hS ls hl9
  have hx := B0.1
  have hb := B0.2.1
  have hl9 : lv_has ls 4 [(0, .ref xo), (1, .int i), (2, .ref out)] := hl9
  obtain ⟨k_xo, k_ez, k_nw0, k_na0, k_nq0, k_nr0, k_eo, k_nw1, k_na1, k_nq1, k_nr1, k_bu, k_bs, k_bp, k_bh, k_bf, k_bl, k_bg, n_wq0, n_wq1, n_sp⟩ := C
  have no_nw0 : out ≠ nw0 := fun h9 => no (by rw [h9]; simp)
  have no_nw1 : out ≠ nw1 := fun h9 => no (by rw [h9]; simp)
  have no_na0 : out ≠ na0 := fun h9 => no (by rw [h9]; simp)
  have no_na1 : out ≠ na1 := fun h9 => no (by rw [h9]; simp)
  have no_nq0 : out ≠ nq0 := fun h9 => no (by rw [h9]; simp)
  have no_nq1 : out ≠ nq1 := fun h9 => no (by rw [h9]; simp)
  have no_bs : out ≠ bs := fun h9 => no (by rw [h9]; simp)
  have no_bp : out ≠ bp := fun h9 => no (by rw [h9]; simp)
  refine lv_aload_n hx hb dL_lose_0 rfl (lv_at hl9 2 rfl) ?_
  refine lv_iconst (v := 0) hx hb dL_lose_1 (by decide) ?_
  refine lv_aload_n hx hb dL_lose_2 rfl (lv_at hl9 0 rfl) ?_
  refine lv_iload_n hx hb dL_lose_3 rfl (lv_at hl9 1 rfl) ?_
  refine hp_V (ci := 4) (As := [.int i]) (rest := [.int 0, .ref out]) B0 hw hS (c_X4_lose0 hl G f xo ez eo bu k_xo nw0 na0 nq0 nr0 1 k_ez nw1 na1 nq1 nr1 2 k_eo k_nr0 k_nr1 i) mV_X4_lose qM_L_36 rfl k_xo rfl rfl hl9.1 (Nat.le_of_ble_eq_true rfl) ⟨⟨Nat.le_of_ble_eq_true rfl, Nat.le_of_ble_eq_true rfl⟩, Nat.le_of_ble_eq_true rfl, Nat.le_of_ble_eq_true rfl⟩ dL_lose_4 (fun E ce q9 f1 H locs hPX hw hS hce hcv hcl => ?_) (fun v f1 H locs hP hw hS => ?_)
  · obtain ⟨ef9, hE9⟩ := hPX
    rw [ef9] at hw
    rcases hE9 with ⟨eE9, hc9⟩ | ⟨eE9, hc9⟩
    · subst eE9
      refine hp_catch (name := eI) B0 [] _ _ (htab.trans rfl) (fun z hz => nomatch hz) rfl (by decide) qC_L_13 oC_eI hce hcv hcl ?_
      refine W.eq (g2 := F0 m 12 ls [.ref q9]) rfl ?_
      refine lv_astore_n (lv' := [(3, .ref q9), (0, .ref xo), (1, .int i), (2, .ref out)]) hx hb dL_lose_12 rfl hl9 (by decide) rfl (fun ls hl9 => ?_)
      refine lv_iconst (v := 1) hx hb dL_lose_13 (by decide) ?_
      exact hp_iret (v := 1) B0 hw hS hr ⟨Nat.le_of_ble_eq_true rfl, Nat.le_of_ble_eq_true rfl⟩ dL_lose_14 (⟨by rw [hc9], fun h9 => absurd (h9.symm.trans hc9) (by decide), hKeep.rf⟩)
    · subst eE9
      refine hp_catch (name := eS) B0 [_] _ _ (htab.trans rfl) (fun z hz => Or.inr (by rcases List.mem_singleton.mp hz with rfl; exact ⟨by decide, eI, qC_L_13, List.mem_of_getElem? (i := 4) rfl⟩)) rfl (by decide) qC_L_28 oC_eS hce hcv hcl ?_
      refine W.eq (g2 := F0 m 15 ls [.ref q9]) rfl ?_
      refine lv_astore_n (lv' := [(3, .ref q9), (0, .ref xo), (1, .int i), (2, .ref out)]) hx hb dL_lose_15 rfl hl9 (by decide) rfl (fun ls hl9 => ?_)
      refine lv_iconst (v := 2) hx hb dL_lose_16 (by decide) ?_
      exact hp_iret (v := 2) B0 hw hS hr ⟨Nat.le_of_ble_eq_true rfl, Nat.le_of_ble_eq_true rfl⟩ dL_lose_17 (⟨by rw [hc9], fun h9 => absurd (h9.symm.trans hc9) (by decide), hKeep.rf⟩)
  · exact hP.elim

set_option maxHeartbeats 4000000 in
set_option maxRecDepth 100000 in
theorem c_L_loop {l : Launch} (hl : l.stackTraces = false) (G : hG) (f : hM) (xo ez eo bu nw0 na0 nq0 nr0 nw1 na1 nq1 nr1 bs bp bh bf bl bg out : Nat) (C : f xo = some (.inr (4, [.ref ez, .ref eo, .ref bu])) ∧ f ez = some (.inr (1, [.ref nw0, .ref na0, .ref nq0, .ref nr0, .int 1, .int 0, .int 0, .int 0, .int (-1), .int 0, .int 0])) ∧ f nw0 = some (.inl (cI G, 6, .inl (fun j => if j < 6 then (-1) else (fun _ => 0) j))) ∧ f na0 = some (.inl (cI G, 6, .inl (fun _ => 0))) ∧ f nq0 = some (.inl (cI G, 6, .inl (fun j => if j < 6 then (-1) else (fun _ => 0) j))) ∧ f nr0 = some (.inr (3, [.null, .null, .int 0])) ∧ f eo = some (.inr (1, [.ref nw1, .ref na1, .ref nq1, .ref nr1, .int 2, .int 0, .int 0, .int 0, .int (-1), .int 0, .int 0])) ∧ f nw1 = some (.inl (cI G, 6, .inl (fun j => if j < 6 then (-1) else (fun _ => 0) j))) ∧ f na1 = some (.inl (cI G, 6, .inl (fun _ => 0))) ∧ f nq1 = some (.inl (cI G, 6, .inl (fun j => if j < 6 then (-1) else (fun _ => 0) j))) ∧ f nr1 = some (.inr (3, [.null, .null, .int 0])) ∧ f bu = some (.inr (0, [.ref bs, .ref bp, .ref bh, .ref bf, .ref bl, .ref bg, .int 0, .int 0, .int 0])) ∧ f bs = some (.inl (cI G, 61, .inl (fun _ => 0))) ∧ f bp = some (.inl (cI G, 240, .inl (fun _ => 0))) ∧ f bh = some (.inl (cZ G, 240, .inl (fun _ => 0))) ∧ f bf = some (.inl (cI G, 3, .inl (upd (upd (upd (fun _ => 0) (0 : Int32).toNatClampNeg 0) (1 : Int32).toNatClampNeg 1) (2 : Int32).toNatClampNeg 2))) ∧ f bl = some (.inl (cI G, 3, .inl (fun j => if j < 3 then (-1) else (fun _ => 0) j))) ∧ f bg = some (.inl (cI G, 60, .inl (fun _ => 0))) ∧ nw0 ≠ nq0 ∧ nw1 ≠ nq1 ∧ bs ≠ bp) (no : out ∉ [nw0, nw1, na0, na1, nq0, nq1, bs, bp]) (k_out : f out = some (.inl (cJ G, 1, .inr (.inl (fun _ => 0))))) (i : Int32) : CT l yL_loop (.codeWith yL_loop cL_loop 4 (some .int) [(0, 9, 12, 13), (0, 9, 15, 28)]) 8 126 2 12 G [.ref xo, .int i, .ref out] f (fun v f1 => v = some (.int (spc (sE i) False)) ∧ (spc (sE i) False = 0 → f1 out = some (.inl (cJ G, 1, .inr (.inl (vp_updL (fun _ => 0) (0 : Int32).toNatClampNeg 0))))) ∧ hKeep [out] f f1) (fun E f1 => False) := by
  refine hp_startH hl (own := RL) (by decide) rfl (Nat.le_of_ble_eq_true rfl) ?_
  intro p e s m args below meth c B0 hr htab hw hS ls hl9
  have hx := B0.1
  have hb := B0.2.1
  have hl9 : lv_has ls 4 [(0, .ref xo), (1, .int i), (2, .ref out)] := hl9
  obtain ⟨k_xo, k_ez, k_nw0, k_na0, k_nq0, k_nr0, k_eo, k_nw1, k_na1, k_nq1, k_nr1, k_bu, k_bs, k_bp, k_bh, k_bf, k_bl, k_bg, n_wq0, n_wq1, n_sp⟩ := C
  have no_nw0 : out ≠ nw0 := fun h9 => no (by rw [h9]; simp)
  have no_nw1 : out ≠ nw1 := fun h9 => no (by rw [h9]; simp)
  have no_na0 : out ≠ na0 := fun h9 => no (by rw [h9]; simp)
  have no_na1 : out ≠ na1 := fun h9 => no (by rw [h9]; simp)
  have no_nq0 : out ≠ nq0 := fun h9 => no (by rw [h9]; simp)
  have no_nq1 : out ≠ nq1 := fun h9 => no (by rw [h9]; simp)
  have no_bs : out ≠ bs := fun h9 => no (by rw [h9]; simp)
  have no_bp : out ≠ bp := fun h9 => no (by rw [h9]; simp)
  refine lv_aload_n hx hb dL_loop_0 rfl (lv_at hl9 2 rfl) ?_
  refine lv_iconst (v := 0) hx hb dL_loop_1 (by decide) ?_
  refine lv_aload_n hx hb dL_loop_2 rfl (lv_at hl9 0 rfl) ?_
  refine lv_iload_n hx hb dL_loop_3 rfl (lv_at hl9 1 rfl) ?_
  refine hp_V (ci := 4) (As := [.int i]) (rest := [.int 0, .ref out]) B0 hw hS (c_X4_loop0 hl G f xo ez eo bu k_xo nw0 na0 nq0 nr0 1 k_ez nw1 na1 nq1 nr1 2 k_eo k_nr0 k_nr1 i) mV_X4_loop qM_L_39 rfl k_xo rfl rfl hl9.1 (Nat.le_of_ble_eq_true rfl) ⟨⟨Nat.le_of_ble_eq_true rfl, Nat.le_of_ble_eq_true rfl⟩, Nat.le_of_ble_eq_true rfl, Nat.le_of_ble_eq_true rfl⟩ dL_loop_4 (fun E ce q9 f1 H locs hPX hw hS hce hcv hcl => ?_) (fun v f1 H locs hP hw hS => ?_)
  · obtain ⟨ef9, hE9⟩ := hPX
    rw [ef9] at hw
    rcases hE9 with ⟨eE9, hc9⟩ | ⟨eE9, hc9⟩
    · subst eE9
      refine hp_catch (name := eI) B0 [] _ _ (htab.trans rfl) (fun z hz => nomatch hz) rfl (by decide) qC_L_13 oC_eI hce hcv hcl ?_
      refine W.eq (g2 := F0 m 12 ls [.ref q9]) rfl ?_
      refine lv_astore_n (lv' := [(3, .ref q9), (0, .ref xo), (1, .int i), (2, .ref out)]) hx hb dL_loop_12 rfl hl9 (by decide) rfl (fun ls hl9 => ?_)
      refine lv_iconst (v := 1) hx hb dL_loop_13 (by decide) ?_
      exact hp_iret (v := 1) B0 hw hS hr ⟨Nat.le_of_ble_eq_true rfl, Nat.le_of_ble_eq_true rfl⟩ dL_loop_14 (⟨by rw [hc9], fun h9 => absurd (h9.symm.trans hc9) (by decide), hKeep.rf⟩)
    · subst eE9
      refine hp_catch (name := eS) B0 [_] _ _ (htab.trans rfl) (fun z hz => Or.inr (by rcases List.mem_singleton.mp hz with rfl; exact ⟨by decide, eI, qC_L_13, List.mem_of_getElem? (i := 4) rfl⟩)) rfl (by decide) qC_L_28 oC_eS hce hcv hcl ?_
      refine W.eq (g2 := F0 m 15 ls [.ref q9]) rfl ?_
      refine lv_astore_n (lv' := [(3, .ref q9), (0, .ref xo), (1, .int i), (2, .ref out)]) hx hb dL_loop_15 rfl hl9 (by decide) rfl (fun ls hl9 => ?_)
      refine lv_iconst (v := 2) hx hb dL_loop_16 (by decide) ?_
      exact hp_iret (v := 2) B0 hw hS hr ⟨Nat.le_of_ble_eq_true rfl, Nat.le_of_ble_eq_true rfl⟩ dL_loop_17 (⟨by rw [hc9], fun h9 => absurd (h9.symm.trans hc9) (by decide), hKeep.rf⟩)
  · exact hP.elim

set_option maxHeartbeats 4000000 in
set_option maxRecDepth 100000 in
theorem c_L_pass {l : Launch} (hl : l.stackTraces = false) (G : hG) (f : hM) (xo ez eo bu nw0 na0 nq0 nr0 nw1 na1 nq1 nr1 bs bp bh bf bl bg out : Nat) (C : f xo = some (.inr (4, [.ref ez, .ref eo, .ref bu])) ∧ f ez = some (.inr (1, [.ref nw0, .ref na0, .ref nq0, .ref nr0, .int 1, .int 0, .int 0, .int 0, .int (-1), .int 0, .int 0])) ∧ f nw0 = some (.inl (cI G, 6, .inl (fun j => if j < 6 then (-1) else (fun _ => 0) j))) ∧ f na0 = some (.inl (cI G, 6, .inl (fun _ => 0))) ∧ f nq0 = some (.inl (cI G, 6, .inl (fun j => if j < 6 then (-1) else (fun _ => 0) j))) ∧ f nr0 = some (.inr (3, [.null, .null, .int 0])) ∧ f eo = some (.inr (1, [.ref nw1, .ref na1, .ref nq1, .ref nr1, .int 2, .int 0, .int 0, .int 0, .int (-1), .int 0, .int 0])) ∧ f nw1 = some (.inl (cI G, 6, .inl (fun j => if j < 6 then (-1) else (fun _ => 0) j))) ∧ f na1 = some (.inl (cI G, 6, .inl (fun _ => 0))) ∧ f nq1 = some (.inl (cI G, 6, .inl (fun j => if j < 6 then (-1) else (fun _ => 0) j))) ∧ f nr1 = some (.inr (3, [.null, .null, .int 0])) ∧ f bu = some (.inr (0, [.ref bs, .ref bp, .ref bh, .ref bf, .ref bl, .ref bg, .int 0, .int 0, .int 0])) ∧ f bs = some (.inl (cI G, 61, .inl (fun _ => 0))) ∧ f bp = some (.inl (cI G, 240, .inl (fun _ => 0))) ∧ f bh = some (.inl (cZ G, 240, .inl (fun _ => 0))) ∧ f bf = some (.inl (cI G, 3, .inl (upd (upd (upd (fun _ => 0) (0 : Int32).toNatClampNeg 0) (1 : Int32).toNatClampNeg 1) (2 : Int32).toNatClampNeg 2))) ∧ f bl = some (.inl (cI G, 3, .inl (fun j => if j < 3 then (-1) else (fun _ => 0) j))) ∧ f bg = some (.inl (cI G, 60, .inl (fun _ => 0))) ∧ nw0 ≠ nq0 ∧ nw1 ≠ nq1 ∧ bs ≠ bp) (no : out ∉ [nw0, nw1, na0, na1, nq0, nq1, bs, bp]) (k_out : f out = some (.inl (cJ G, 1, .inr (.inl (fun _ => 0))))) (x : Int32) : CT l yL_pass (.codeWith yL_pass cL_pass 4 (some .int) [(0, 9, 12, 15)]) 7 105 1 6 G [.ref xo, .int x, .ref out] f (fun v f1 => v = some (.int (spc (sT x) True)) ∧ (spc (sT x) True = 0 → f1 out = some (.inl (cJ G, 1, .inr (.inl (vp_updL (fun _ => 0) (0 : Int32).toNatClampNeg ((0 : Int32).toInt64)))))) ∧ hKeep [out] f f1) (fun E f1 => False) := by
  refine hp_startH hl (own := RL) (by decide) rfl (Nat.le_of_ble_eq_true rfl) ?_
  intro p e s m args below meth c B0 hr htab hw hS ls hl9
  have hx := B0.1
  have hb := B0.2.1
  have hl9 : lv_has ls 4 [(0, .ref xo), (1, .int x), (2, .ref out)] := hl9
  obtain ⟨k_xo, k_ez, k_nw0, k_na0, k_nq0, k_nr0, k_eo, k_nw1, k_na1, k_nq1, k_nr1, k_bu, k_bs, k_bp, k_bh, k_bf, k_bl, k_bg, n_wq0, n_wq1, n_sp⟩ := C
  have no_nw0 : out ≠ nw0 := fun h9 => no (by rw [h9]; simp)
  have no_nw1 : out ≠ nw1 := fun h9 => no (by rw [h9]; simp)
  have no_na0 : out ≠ na0 := fun h9 => no (by rw [h9]; simp)
  have no_na1 : out ≠ na1 := fun h9 => no (by rw [h9]; simp)
  have no_nq0 : out ≠ nq0 := fun h9 => no (by rw [h9]; simp)
  have no_nq1 : out ≠ nq1 := fun h9 => no (by rw [h9]; simp)
  have no_bs : out ≠ bs := fun h9 => no (by rw [h9]; simp)
  have no_bp : out ≠ bp := fun h9 => no (by rw [h9]; simp)
  refine lv_aload_n hx hb dL_pass_0 rfl (lv_at hl9 2 rfl) ?_
  refine lv_iconst (v := 0) hx hb dL_pass_1 (by decide) ?_
  refine lv_aload_n hx hb dL_pass_2 rfl (lv_at hl9 0 rfl) ?_
  refine lv_iload_n hx hb dL_pass_3 rfl (lv_at hl9 1 rfl) ?_
  refine hp_V (ci := 4) (As := [.int x]) (rest := [.int 0, .ref out]) B0 hw hS (c_X4_pass0 hl G f xo ez eo bu k_xo nw0 na0 nq0 nr0 1 0 0 (-1) 0 0 k_ez nw1 na1 nq1 nr1 2 0 0 (-1) 0 0 k_eo x) mV_X4_pass qM_L_42 rfl k_xo rfl rfl hl9.1 (Nat.le_of_ble_eq_true rfl) ⟨⟨Nat.le_of_ble_eq_true rfl, Nat.le_of_ble_eq_true rfl⟩, Nat.le_of_ble_eq_true rfl, Nat.le_of_ble_eq_true rfl⟩ dL_pass_4 (fun E ce q9 f1 H locs hPX hw hS hce hcv hcl => ?_) (fun v f1 H locs hP hw hS => ?_)
  · obtain ⟨ef9, eE9, hc9⟩ := hPX
    rw [ef9] at hw
    subst eE9
    refine hp_catch (name := eA) B0 [] _ _ (htab.trans rfl) (fun z hz => nomatch hz) rfl (by decide) qC_L_15 oC_eA hce hcv hcl ?_
    refine W.eq (g2 := F0 m 12 ls [.ref q9]) rfl ?_
    refine lv_astore_n (lv' := [(3, .ref q9), (0, .ref xo), (1, .int x), (2, .ref out)]) hx hb dL_pass_12 rfl hl9 (by decide) rfl (fun ls hl9 => ?_)
    refine lv_iconst (v := 1) hx hb dL_pass_13 (by decide) ?_
    exact hp_iret (v := 1) B0 hw hS hr ⟨Nat.le_of_ble_eq_true rfl, Nat.le_of_ble_eq_true rfl⟩ dL_pass_14 (⟨by rw [hc9], fun h9 => absurd (h9.symm.trans hc9) (by decide), hKeep.rf⟩)
  · obtain ⟨hz9, ev9, ef9⟩ := hP
    rw [ef9] at hw
    subst ev9
    refine W.eq (g2 := F0 m 7 ls [.int 0, .int 0, .ref out]) rfl ?_
    refine lv_i2l (v := (0 : Int32).toInt64) hx hb dL_pass_7 rfl ?_
    refine hp_last B0 hw hS k_out (by unfold vp_in; decide) dL_pass_8 (fun H locs f2 ef2 hw hS => ?_)
    have h3 : f2 out = some (.inl (cJ G, 1, .inr (.inl (vp_updL (fun _ => 0) (0 : Int32).toNatClampNeg ((0 : Int32).toInt64))))) := by rw [ef2, va_up_self]
    refine lv_goto (tgt := 15) hx hb dL_pass_9 (by decide) ?_
    refine lv_iconst (v := 0) hx hb dL_pass_15 (by decide) ?_
    exact hp_iret (v := 0) B0 hw hS hr ⟨Nat.le_of_ble_eq_true rfl, Nat.le_of_ble_eq_true rfl⟩ dL_pass_16 (⟨by rw [hz9], fun _ => h3, (show hKeep [out] f f2 from (by rw [ef2]; exact hKeep.up (by simp)))⟩)

set_option maxHeartbeats 4000000 in
set_option maxRecDepth 100000 in
theorem c_L_stateOf {l : Launch} (hl : l.stackTraces = false) (G : hG) (f : hM) (xo ez eo bu nw0 na0 nq0 nr0 nw1 na1 nq1 nr1 bs bp bh bf bl bg out : Nat) (C : f xo = some (.inr (4, [.ref ez, .ref eo, .ref bu])) ∧ f ez = some (.inr (1, [.ref nw0, .ref na0, .ref nq0, .ref nr0, .int 1, .int 0, .int 0, .int 0, .int (-1), .int 0, .int 0])) ∧ f nw0 = some (.inl (cI G, 6, .inl (fun j => if j < 6 then (-1) else (fun _ => 0) j))) ∧ f na0 = some (.inl (cI G, 6, .inl (fun _ => 0))) ∧ f nq0 = some (.inl (cI G, 6, .inl (fun j => if j < 6 then (-1) else (fun _ => 0) j))) ∧ f nr0 = some (.inr (3, [.null, .null, .int 0])) ∧ f eo = some (.inr (1, [.ref nw1, .ref na1, .ref nq1, .ref nr1, .int 2, .int 0, .int 0, .int 0, .int (-1), .int 0, .int 0])) ∧ f nw1 = some (.inl (cI G, 6, .inl (fun j => if j < 6 then (-1) else (fun _ => 0) j))) ∧ f na1 = some (.inl (cI G, 6, .inl (fun _ => 0))) ∧ f nq1 = some (.inl (cI G, 6, .inl (fun j => if j < 6 then (-1) else (fun _ => 0) j))) ∧ f nr1 = some (.inr (3, [.null, .null, .int 0])) ∧ f bu = some (.inr (0, [.ref bs, .ref bp, .ref bh, .ref bf, .ref bl, .ref bg, .int 0, .int 0, .int 0])) ∧ f bs = some (.inl (cI G, 61, .inl (fun _ => 0))) ∧ f bp = some (.inl (cI G, 240, .inl (fun _ => 0))) ∧ f bh = some (.inl (cZ G, 240, .inl (fun _ => 0))) ∧ f bf = some (.inl (cI G, 3, .inl (upd (upd (upd (fun _ => 0) (0 : Int32).toNatClampNeg 0) (1 : Int32).toNatClampNeg 1) (2 : Int32).toNatClampNeg 2))) ∧ f bl = some (.inl (cI G, 3, .inl (fun j => if j < 3 then (-1) else (fun _ => 0) j))) ∧ f bg = some (.inl (cI G, 60, .inl (fun _ => 0))) ∧ nw0 ≠ nq0 ∧ nw1 ≠ nq1 ∧ bs ≠ bp) (no : out ∉ [nw0, nw1, na0, na1, nq0, nq1, bs, bp]) (k_out : f out = some (.inl (cJ G, 1, .inr (.inl (fun _ => 0))))) (i : Int32) : CT l yL_stateOf (.codeWith yL_stateOf cL_stateOf 4 (some .int) [(0, 9, 12, 13)]) 8 124 1 6 G [.ref xo, .int i, .ref out] f (fun v f1 => v = some (.int (spc (sE i) True)) ∧ (spc (sE i) True = 0 → f1 out = some (.inl (cJ G, 1, .inr (.inl (vp_updL (fun _ => 0) (0 : Int32).toNatClampNeg ((0 : Int32).toInt64)))))) ∧ hKeep [out] f f1) (fun E f1 => False) := by
  refine hp_startH hl (own := RL) (by decide) rfl (Nat.le_of_ble_eq_true rfl) ?_
  intro p e s m args below meth c B0 hr htab hw hS ls hl9
  have hx := B0.1
  have hb := B0.2.1
  have hl9 : lv_has ls 4 [(0, .ref xo), (1, .int i), (2, .ref out)] := hl9
  obtain ⟨k_xo, k_ez, k_nw0, k_na0, k_nq0, k_nr0, k_eo, k_nw1, k_na1, k_nq1, k_nr1, k_bu, k_bs, k_bp, k_bh, k_bf, k_bl, k_bg, n_wq0, n_wq1, n_sp⟩ := C
  have no_nw0 : out ≠ nw0 := fun h9 => no (by rw [h9]; simp)
  have no_nw1 : out ≠ nw1 := fun h9 => no (by rw [h9]; simp)
  have no_na0 : out ≠ na0 := fun h9 => no (by rw [h9]; simp)
  have no_na1 : out ≠ na1 := fun h9 => no (by rw [h9]; simp)
  have no_nq0 : out ≠ nq0 := fun h9 => no (by rw [h9]; simp)
  have no_nq1 : out ≠ nq1 := fun h9 => no (by rw [h9]; simp)
  have no_bs : out ≠ bs := fun h9 => no (by rw [h9]; simp)
  have no_bp : out ≠ bp := fun h9 => no (by rw [h9]; simp)
  refine lv_aload_n hx hb dL_stateOf_0 rfl (lv_at hl9 2 rfl) ?_
  refine lv_iconst (v := 0) hx hb dL_stateOf_1 (by decide) ?_
  refine lv_aload_n hx hb dL_stateOf_2 rfl (lv_at hl9 0 rfl) ?_
  refine lv_iload_n hx hb dL_stateOf_3 rfl (lv_at hl9 1 rfl) ?_
  refine hp_V (ci := 4) (As := [.int i]) (rest := [.int 0, .ref out]) B0 hw hS (c_X4_stateOf hl G f xo ez eo bu k_xo nw0 na0 nq0 nr0 1 0 0 0 (-1) 0 0 k_ez nw1 na1 nq1 nr1 2 0 0 0 (-1) 0 0 k_eo i) mV_X4_stateOf qM_L_45 rfl k_xo rfl rfl hl9.1 (Nat.le_of_ble_eq_true rfl) ⟨⟨Nat.le_of_ble_eq_true rfl, Nat.le_of_ble_eq_true rfl⟩, Nat.le_of_ble_eq_true rfl, Nat.le_of_ble_eq_true rfl⟩ dL_stateOf_4 (fun E ce q9 f1 H locs hPX hw hS hce hcv hcl => ?_) (fun v f1 H locs hP hw hS => ?_)
  · obtain ⟨ef9, eE9, hc9⟩ := hPX
    rw [ef9] at hw
    subst eE9
    refine hp_catch (name := eI) B0 [] _ _ (htab.trans rfl) (fun z hz => nomatch hz) rfl (by decide) qC_L_13 oC_eI hce hcv hcl ?_
    refine W.eq (g2 := F0 m 12 ls [.ref q9]) rfl ?_
    refine lv_astore_n (lv' := [(3, .ref q9), (0, .ref xo), (1, .int i), (2, .ref out)]) hx hb dL_stateOf_12 rfl hl9 (by decide) rfl (fun ls hl9 => ?_)
    refine lv_iconst (v := 1) hx hb dL_stateOf_13 (by decide) ?_
    exact hp_iret (v := 1) B0 hw hS hr ⟨Nat.le_of_ble_eq_true rfl, Nat.le_of_ble_eq_true rfl⟩ dL_stateOf_14 (⟨by rw [hc9], fun h9 => absurd (h9.symm.trans hc9) (by decide), hKeep.rf⟩)
  · obtain ⟨hz9, ef9, hv9⟩ := hP
    rw [ef9] at hw
    rcases hv9 with ⟨k9, ev9⟩ | ⟨k9, ev9⟩
    · subst ev9
      refine W.eq (g2 := F0 m 7 ls [.int 0, .int 0, .ref out]) rfl ?_
      refine lv_i2l (v := (0 : Int32).toInt64) hx hb dL_stateOf_7 rfl ?_
      refine hp_last B0 hw hS k_out (by unfold vp_in; decide) dL_stateOf_8 (fun H locs f2 ef2 hw hS => ?_)
      have h3 : f2 out = some (.inl (cJ G, 1, .inr (.inl (vp_updL (fun _ => 0) (0 : Int32).toNatClampNeg ((0 : Int32).toInt64))))) := by rw [ef2, va_up_self]
      refine lv_goto (tgt := 15) hx hb dL_stateOf_9 (by decide) ?_
      refine lv_iconst (v := 0) hx hb dL_stateOf_15 (by decide) ?_
      exact hp_iret (v := 0) B0 hw hS hr ⟨Nat.le_of_ble_eq_true rfl, Nat.le_of_ble_eq_true rfl⟩ dL_stateOf_16 (⟨by rw [hz9], fun _ => h3, (show hKeep [out] f f2 from (by rw [ef2]; exact hKeep.up (by simp)))⟩)
    · subst ev9
      refine W.eq (g2 := F0 m 7 ls [.int 0, .int 0, .ref out]) rfl ?_
      refine lv_i2l (v := (0 : Int32).toInt64) hx hb dL_stateOf_7 rfl ?_
      refine hp_last B0 hw hS k_out (by unfold vp_in; decide) dL_stateOf_8 (fun H locs f4 ef4 hw hS => ?_)
      have h5 : f4 out = some (.inl (cJ G, 1, .inr (.inl (vp_updL (fun _ => 0) (0 : Int32).toNatClampNeg ((0 : Int32).toInt64))))) := by rw [ef4, va_up_self]
      refine lv_goto (tgt := 15) hx hb dL_stateOf_9 (by decide) ?_
      refine lv_iconst (v := 0) hx hb dL_stateOf_15 (by decide) ?_
      exact hp_iret (v := 0) B0 hw hS hr ⟨Nat.le_of_ble_eq_true rfl, Nat.le_of_ble_eq_true rfl⟩ dL_stateOf_16 (⟨by rw [hz9], fun _ => h5, (show hKeep [out] f f4 from (by rw [ef4]; exact hKeep.up (by simp)))⟩)

set_option maxHeartbeats 4000000 in
set_option maxRecDepth 100000 in
theorem c_L_requests {l : Launch} (hl : l.stackTraces = false) (G : hG) (f : hM) (xo ez eo bu nw0 na0 nq0 nr0 nw1 na1 nq1 nr1 bs bp bh bf bl bg out : Nat) (C : f xo = some (.inr (4, [.ref ez, .ref eo, .ref bu])) ∧ f ez = some (.inr (1, [.ref nw0, .ref na0, .ref nq0, .ref nr0, .int 1, .int 0, .int 0, .int 0, .int (-1), .int 0, .int 0])) ∧ f nw0 = some (.inl (cI G, 6, .inl (fun j => if j < 6 then (-1) else (fun _ => 0) j))) ∧ f na0 = some (.inl (cI G, 6, .inl (fun _ => 0))) ∧ f nq0 = some (.inl (cI G, 6, .inl (fun j => if j < 6 then (-1) else (fun _ => 0) j))) ∧ f nr0 = some (.inr (3, [.null, .null, .int 0])) ∧ f eo = some (.inr (1, [.ref nw1, .ref na1, .ref nq1, .ref nr1, .int 2, .int 0, .int 0, .int 0, .int (-1), .int 0, .int 0])) ∧ f nw1 = some (.inl (cI G, 6, .inl (fun j => if j < 6 then (-1) else (fun _ => 0) j))) ∧ f na1 = some (.inl (cI G, 6, .inl (fun _ => 0))) ∧ f nq1 = some (.inl (cI G, 6, .inl (fun j => if j < 6 then (-1) else (fun _ => 0) j))) ∧ f nr1 = some (.inr (3, [.null, .null, .int 0])) ∧ f bu = some (.inr (0, [.ref bs, .ref bp, .ref bh, .ref bf, .ref bl, .ref bg, .int 0, .int 0, .int 0])) ∧ f bs = some (.inl (cI G, 61, .inl (fun _ => 0))) ∧ f bp = some (.inl (cI G, 240, .inl (fun _ => 0))) ∧ f bh = some (.inl (cZ G, 240, .inl (fun _ => 0))) ∧ f bf = some (.inl (cI G, 3, .inl (upd (upd (upd (fun _ => 0) (0 : Int32).toNatClampNeg 0) (1 : Int32).toNatClampNeg 1) (2 : Int32).toNatClampNeg 2))) ∧ f bl = some (.inl (cI G, 3, .inl (fun j => if j < 3 then (-1) else (fun _ => 0) j))) ∧ f bg = some (.inl (cI G, 60, .inl (fun _ => 0))) ∧ nw0 ≠ nq0 ∧ nw1 ≠ nq1 ∧ bs ≠ bp) (no : out ∉ [nw0, nw1, na0, na1, nq0, nq1, bs, bp]) (k_out : f out = some (.inl (cJ G, 1, .inr (.inl (fun _ => 0))))) (i : Int32) : CT l yL_requests (.codeWith yL_requests cL_requests 4 (some .int) [(0, 9, 12, 13)]) 8 124 1 6 G [.ref xo, .int i, .ref out] f (fun v f1 => v = some (.int (spc (sE i) True)) ∧ (spc (sE i) True = 0 → f1 out = some (.inl (cJ G, 1, .inr (.inl (vp_updL (fun _ => 0) (0 : Int32).toNatClampNeg ((0 : Int32).toInt64)))))) ∧ hKeep [out] f f1) (fun E f1 => False) := by
  refine hp_startH hl (own := RL) (by decide) rfl (Nat.le_of_ble_eq_true rfl) ?_
  intro p e s m args below meth c B0 hr htab hw hS ls hl9
  have hx := B0.1
  have hb := B0.2.1
  have hl9 : lv_has ls 4 [(0, .ref xo), (1, .int i), (2, .ref out)] := hl9
  obtain ⟨k_xo, k_ez, k_nw0, k_na0, k_nq0, k_nr0, k_eo, k_nw1, k_na1, k_nq1, k_nr1, k_bu, k_bs, k_bp, k_bh, k_bf, k_bl, k_bg, n_wq0, n_wq1, n_sp⟩ := C
  have no_nw0 : out ≠ nw0 := fun h9 => no (by rw [h9]; simp)
  have no_nw1 : out ≠ nw1 := fun h9 => no (by rw [h9]; simp)
  have no_na0 : out ≠ na0 := fun h9 => no (by rw [h9]; simp)
  have no_na1 : out ≠ na1 := fun h9 => no (by rw [h9]; simp)
  have no_nq0 : out ≠ nq0 := fun h9 => no (by rw [h9]; simp)
  have no_nq1 : out ≠ nq1 := fun h9 => no (by rw [h9]; simp)
  have no_bs : out ≠ bs := fun h9 => no (by rw [h9]; simp)
  have no_bp : out ≠ bp := fun h9 => no (by rw [h9]; simp)
  refine lv_aload_n hx hb dL_requests_0 rfl (lv_at hl9 2 rfl) ?_
  refine lv_iconst (v := 0) hx hb dL_requests_1 (by decide) ?_
  refine lv_aload_n hx hb dL_requests_2 rfl (lv_at hl9 0 rfl) ?_
  refine lv_iload_n hx hb dL_requests_3 rfl (lv_at hl9 1 rfl) ?_
  refine hp_V (ci := 4) (As := [.int i]) (rest := [.int 0, .ref out]) B0 hw hS (c_X4_requests hl G f xo ez eo bu k_xo nw0 na0 nq0 nr0 1 0 0 0 (-1) 0 0 k_ez nw1 na1 nq1 nr1 2 0 0 0 (-1) 0 0 k_eo i) mV_X4_requests qM_L_51 rfl k_xo rfl rfl hl9.1 (Nat.le_of_ble_eq_true rfl) ⟨⟨Nat.le_of_ble_eq_true rfl, Nat.le_of_ble_eq_true rfl⟩, Nat.le_of_ble_eq_true rfl, Nat.le_of_ble_eq_true rfl⟩ dL_requests_4 (fun E ce q9 f1 H locs hPX hw hS hce hcv hcl => ?_) (fun v f1 H locs hP hw hS => ?_)
  · obtain ⟨ef9, eE9, hc9⟩ := hPX
    rw [ef9] at hw
    subst eE9
    refine hp_catch (name := eI) B0 [] _ _ (htab.trans rfl) (fun z hz => nomatch hz) rfl (by decide) qC_L_13 oC_eI hce hcv hcl ?_
    refine W.eq (g2 := F0 m 12 ls [.ref q9]) rfl ?_
    refine lv_astore_n (lv' := [(3, .ref q9), (0, .ref xo), (1, .int i), (2, .ref out)]) hx hb dL_requests_12 rfl hl9 (by decide) rfl (fun ls hl9 => ?_)
    refine lv_iconst (v := 1) hx hb dL_requests_13 (by decide) ?_
    exact hp_iret (v := 1) B0 hw hS hr ⟨Nat.le_of_ble_eq_true rfl, Nat.le_of_ble_eq_true rfl⟩ dL_requests_14 (⟨by rw [hc9], fun h9 => absurd (h9.symm.trans hc9) (by decide), hKeep.rf⟩)
  · obtain ⟨hz9, ef9, hv9⟩ := hP
    rw [ef9] at hw
    rcases hv9 with ⟨k9, ev9⟩ | ⟨k9, ev9⟩
    · subst ev9
      refine W.eq (g2 := F0 m 7 ls [.int 0, .int 0, .ref out]) rfl ?_
      refine lv_i2l (v := (0 : Int32).toInt64) hx hb dL_requests_7 rfl ?_
      refine hp_last B0 hw hS k_out (by unfold vp_in; decide) dL_requests_8 (fun H locs f2 ef2 hw hS => ?_)
      have h3 : f2 out = some (.inl (cJ G, 1, .inr (.inl (vp_updL (fun _ => 0) (0 : Int32).toNatClampNeg ((0 : Int32).toInt64))))) := by rw [ef2, va_up_self]
      refine lv_goto (tgt := 15) hx hb dL_requests_9 (by decide) ?_
      refine lv_iconst (v := 0) hx hb dL_requests_15 (by decide) ?_
      exact hp_iret (v := 0) B0 hw hS hr ⟨Nat.le_of_ble_eq_true rfl, Nat.le_of_ble_eq_true rfl⟩ dL_requests_16 (⟨by rw [hz9], fun _ => h3, (show hKeep [out] f f2 from (by rw [ef2]; exact hKeep.up (by simp)))⟩)
    · subst ev9
      refine W.eq (g2 := F0 m 7 ls [.int 0, .int 0, .ref out]) rfl ?_
      refine lv_i2l (v := (0 : Int32).toInt64) hx hb dL_requests_7 rfl ?_
      refine hp_last B0 hw hS k_out (by unfold vp_in; decide) dL_requests_8 (fun H locs f4 ef4 hw hS => ?_)
      have h5 : f4 out = some (.inl (cJ G, 1, .inr (.inl (vp_updL (fun _ => 0) (0 : Int32).toNatClampNeg ((0 : Int32).toInt64))))) := by rw [ef4, va_up_self]
      refine lv_goto (tgt := 15) hx hb dL_requests_9 (by decide) ?_
      refine lv_iconst (v := 0) hx hb dL_requests_15 (by decide) ?_
      exact hp_iret (v := 0) B0 hw hS hr ⟨Nat.le_of_ble_eq_true rfl, Nat.le_of_ble_eq_true rfl⟩ dL_requests_16 (⟨by rw [hz9], fun _ => h5, (show hKeep [out] f f4 from (by rw [ef4]; exact hKeep.up (by simp)))⟩)

set_option maxHeartbeats 4000000 in
set_option maxRecDepth 100000 in
theorem c_L_missed {l : Launch} (hl : l.stackTraces = false) (G : hG) (f : hM) (xo ez eo bu nw0 na0 nq0 nr0 nw1 na1 nq1 nr1 bs bp bh bf bl bg out : Nat) (C : f xo = some (.inr (4, [.ref ez, .ref eo, .ref bu])) ∧ f ez = some (.inr (1, [.ref nw0, .ref na0, .ref nq0, .ref nr0, .int 1, .int 0, .int 0, .int 0, .int (-1), .int 0, .int 0])) ∧ f nw0 = some (.inl (cI G, 6, .inl (fun j => if j < 6 then (-1) else (fun _ => 0) j))) ∧ f na0 = some (.inl (cI G, 6, .inl (fun _ => 0))) ∧ f nq0 = some (.inl (cI G, 6, .inl (fun j => if j < 6 then (-1) else (fun _ => 0) j))) ∧ f nr0 = some (.inr (3, [.null, .null, .int 0])) ∧ f eo = some (.inr (1, [.ref nw1, .ref na1, .ref nq1, .ref nr1, .int 2, .int 0, .int 0, .int 0, .int (-1), .int 0, .int 0])) ∧ f nw1 = some (.inl (cI G, 6, .inl (fun j => if j < 6 then (-1) else (fun _ => 0) j))) ∧ f na1 = some (.inl (cI G, 6, .inl (fun _ => 0))) ∧ f nq1 = some (.inl (cI G, 6, .inl (fun j => if j < 6 then (-1) else (fun _ => 0) j))) ∧ f nr1 = some (.inr (3, [.null, .null, .int 0])) ∧ f bu = some (.inr (0, [.ref bs, .ref bp, .ref bh, .ref bf, .ref bl, .ref bg, .int 0, .int 0, .int 0])) ∧ f bs = some (.inl (cI G, 61, .inl (fun _ => 0))) ∧ f bp = some (.inl (cI G, 240, .inl (fun _ => 0))) ∧ f bh = some (.inl (cZ G, 240, .inl (fun _ => 0))) ∧ f bf = some (.inl (cI G, 3, .inl (upd (upd (upd (fun _ => 0) (0 : Int32).toNatClampNeg 0) (1 : Int32).toNatClampNeg 1) (2 : Int32).toNatClampNeg 2))) ∧ f bl = some (.inl (cI G, 3, .inl (fun j => if j < 3 then (-1) else (fun _ => 0) j))) ∧ f bg = some (.inl (cI G, 60, .inl (fun _ => 0))) ∧ nw0 ≠ nq0 ∧ nw1 ≠ nq1 ∧ bs ≠ bp) (no : out ∉ [nw0, nw1, na0, na1, nq0, nq1, bs, bp]) (k_out : f out = some (.inl (cJ G, 1, .inr (.inl (fun _ => 0))))) (i : Int32) : CT l yL_missed (.codeWith yL_missed cL_missed 4 (some .int) [(0, 9, 12, 13)]) 8 124 1 6 G [.ref xo, .int i, .ref out] f (fun v f1 => v = some (.int (spc (sE i) True)) ∧ (spc (sE i) True = 0 → f1 out = some (.inl (cJ G, 1, .inr (.inl (vp_updL (fun _ => 0) (0 : Int32).toNatClampNeg ((0 : Int32).toInt64)))))) ∧ hKeep [out] f f1) (fun E f1 => False) := by
  refine hp_startH hl (own := RL) (by decide) rfl (Nat.le_of_ble_eq_true rfl) ?_
  intro p e s m args below meth c B0 hr htab hw hS ls hl9
  have hx := B0.1
  have hb := B0.2.1
  have hl9 : lv_has ls 4 [(0, .ref xo), (1, .int i), (2, .ref out)] := hl9
  obtain ⟨k_xo, k_ez, k_nw0, k_na0, k_nq0, k_nr0, k_eo, k_nw1, k_na1, k_nq1, k_nr1, k_bu, k_bs, k_bp, k_bh, k_bf, k_bl, k_bg, n_wq0, n_wq1, n_sp⟩ := C
  have no_nw0 : out ≠ nw0 := fun h9 => no (by rw [h9]; simp)
  have no_nw1 : out ≠ nw1 := fun h9 => no (by rw [h9]; simp)
  have no_na0 : out ≠ na0 := fun h9 => no (by rw [h9]; simp)
  have no_na1 : out ≠ na1 := fun h9 => no (by rw [h9]; simp)
  have no_nq0 : out ≠ nq0 := fun h9 => no (by rw [h9]; simp)
  have no_nq1 : out ≠ nq1 := fun h9 => no (by rw [h9]; simp)
  have no_bs : out ≠ bs := fun h9 => no (by rw [h9]; simp)
  have no_bp : out ≠ bp := fun h9 => no (by rw [h9]; simp)
  refine lv_aload_n hx hb dL_missed_0 rfl (lv_at hl9 2 rfl) ?_
  refine lv_iconst (v := 0) hx hb dL_missed_1 (by decide) ?_
  refine lv_aload_n hx hb dL_missed_2 rfl (lv_at hl9 0 rfl) ?_
  refine lv_iload_n hx hb dL_missed_3 rfl (lv_at hl9 1 rfl) ?_
  refine hp_V (ci := 4) (As := [.int i]) (rest := [.int 0, .ref out]) B0 hw hS (c_X4_missed hl G f xo ez eo bu k_xo nw0 na0 nq0 nr0 1 0 0 0 (-1) 0 0 k_ez nw1 na1 nq1 nr1 2 0 0 0 (-1) 0 0 k_eo i) mV_X4_missed qM_L_61 rfl k_xo rfl rfl hl9.1 (Nat.le_of_ble_eq_true rfl) ⟨⟨Nat.le_of_ble_eq_true rfl, Nat.le_of_ble_eq_true rfl⟩, Nat.le_of_ble_eq_true rfl, Nat.le_of_ble_eq_true rfl⟩ dL_missed_4 (fun E ce q9 f1 H locs hPX hw hS hce hcv hcl => ?_) (fun v f1 H locs hP hw hS => ?_)
  · obtain ⟨ef9, eE9, hc9⟩ := hPX
    rw [ef9] at hw
    subst eE9
    refine hp_catch (name := eI) B0 [] _ _ (htab.trans rfl) (fun z hz => nomatch hz) rfl (by decide) qC_L_13 oC_eI hce hcv hcl ?_
    refine W.eq (g2 := F0 m 12 ls [.ref q9]) rfl ?_
    refine lv_astore_n (lv' := [(3, .ref q9), (0, .ref xo), (1, .int i), (2, .ref out)]) hx hb dL_missed_12 rfl hl9 (by decide) rfl (fun ls hl9 => ?_)
    refine lv_iconst (v := 1) hx hb dL_missed_13 (by decide) ?_
    exact hp_iret (v := 1) B0 hw hS hr ⟨Nat.le_of_ble_eq_true rfl, Nat.le_of_ble_eq_true rfl⟩ dL_missed_14 (⟨by rw [hc9], fun h9 => absurd (h9.symm.trans hc9) (by decide), hKeep.rf⟩)
  · obtain ⟨hz9, ef9, hv9⟩ := hP
    rw [ef9] at hw
    rcases hv9 with ⟨k9, ev9⟩ | ⟨k9, ev9⟩
    · subst ev9
      refine W.eq (g2 := F0 m 7 ls [.int 0, .int 0, .ref out]) rfl ?_
      refine lv_i2l (v := (0 : Int32).toInt64) hx hb dL_missed_7 rfl ?_
      refine hp_last B0 hw hS k_out (by unfold vp_in; decide) dL_missed_8 (fun H locs f2 ef2 hw hS => ?_)
      have h3 : f2 out = some (.inl (cJ G, 1, .inr (.inl (vp_updL (fun _ => 0) (0 : Int32).toNatClampNeg ((0 : Int32).toInt64))))) := by rw [ef2, va_up_self]
      refine lv_goto (tgt := 15) hx hb dL_missed_9 (by decide) ?_
      refine lv_iconst (v := 0) hx hb dL_missed_15 (by decide) ?_
      exact hp_iret (v := 0) B0 hw hS hr ⟨Nat.le_of_ble_eq_true rfl, Nat.le_of_ble_eq_true rfl⟩ dL_missed_16 (⟨by rw [hz9], fun _ => h3, (show hKeep [out] f f2 from (by rw [ef2]; exact hKeep.up (by simp)))⟩)
    · subst ev9
      refine W.eq (g2 := F0 m 7 ls [.int 0, .int 0, .ref out]) rfl ?_
      refine lv_i2l (v := (0 : Int32).toInt64) hx hb dL_missed_7 rfl ?_
      refine hp_last B0 hw hS k_out (by unfold vp_in; decide) dL_missed_8 (fun H locs f4 ef4 hw hS => ?_)
      have h5 : f4 out = some (.inl (cJ G, 1, .inr (.inl (vp_updL (fun _ => 0) (0 : Int32).toNatClampNeg ((0 : Int32).toInt64))))) := by rw [ef4, va_up_self]
      refine lv_goto (tgt := 15) hx hb dL_missed_9 (by decide) ?_
      refine lv_iconst (v := 0) hx hb dL_missed_15 (by decide) ?_
      exact hp_iret (v := 0) B0 hw hS hr ⟨Nat.le_of_ble_eq_true rfl, Nat.le_of_ble_eq_true rfl⟩ dL_missed_16 (⟨by rw [hz9], fun _ => h5, (show hKeep [out] f f4 from (by rw [ef4]; exact hKeep.up (by simp)))⟩)

set_option maxHeartbeats 4000000 in
set_option maxRecDepth 100000 in
theorem c_L_isLooped {l : Launch} (hl : l.stackTraces = false) (G : hG) (f : hM) (xo ez eo bu nw0 na0 nq0 nr0 nw1 na1 nq1 nr1 bs bp bh bf bl bg out : Nat) (C : f xo = some (.inr (4, [.ref ez, .ref eo, .ref bu])) ∧ f ez = some (.inr (1, [.ref nw0, .ref na0, .ref nq0, .ref nr0, .int 1, .int 0, .int 0, .int 0, .int (-1), .int 0, .int 0])) ∧ f nw0 = some (.inl (cI G, 6, .inl (fun j => if j < 6 then (-1) else (fun _ => 0) j))) ∧ f na0 = some (.inl (cI G, 6, .inl (fun _ => 0))) ∧ f nq0 = some (.inl (cI G, 6, .inl (fun j => if j < 6 then (-1) else (fun _ => 0) j))) ∧ f nr0 = some (.inr (3, [.null, .null, .int 0])) ∧ f eo = some (.inr (1, [.ref nw1, .ref na1, .ref nq1, .ref nr1, .int 2, .int 0, .int 0, .int 0, .int (-1), .int 0, .int 0])) ∧ f nw1 = some (.inl (cI G, 6, .inl (fun j => if j < 6 then (-1) else (fun _ => 0) j))) ∧ f na1 = some (.inl (cI G, 6, .inl (fun _ => 0))) ∧ f nq1 = some (.inl (cI G, 6, .inl (fun j => if j < 6 then (-1) else (fun _ => 0) j))) ∧ f nr1 = some (.inr (3, [.null, .null, .int 0])) ∧ f bu = some (.inr (0, [.ref bs, .ref bp, .ref bh, .ref bf, .ref bl, .ref bg, .int 0, .int 0, .int 0])) ∧ f bs = some (.inl (cI G, 61, .inl (fun _ => 0))) ∧ f bp = some (.inl (cI G, 240, .inl (fun _ => 0))) ∧ f bh = some (.inl (cZ G, 240, .inl (fun _ => 0))) ∧ f bf = some (.inl (cI G, 3, .inl (upd (upd (upd (fun _ => 0) (0 : Int32).toNatClampNeg 0) (1 : Int32).toNatClampNeg 1) (2 : Int32).toNatClampNeg 2))) ∧ f bl = some (.inl (cI G, 3, .inl (fun j => if j < 3 then (-1) else (fun _ => 0) j))) ∧ f bg = some (.inl (cI G, 60, .inl (fun _ => 0))) ∧ nw0 ≠ nq0 ∧ nw1 ≠ nq1 ∧ bs ≠ bp) (no : out ∉ [nw0, nw1, na0, na1, nq0, nq1, bs, bp]) (k_out : f out = some (.inl (cJ G, 1, .inr (.inl (fun _ => 0))))) (i : Int32) : CT l yL_isLooped (.codeWith yL_isLooped cL_isLooped 4 (some .int) [(0, 16, 19, 13)]) 8 124 1 6 G [.ref xo, .int i, .ref out] f (fun v f1 => v = some (.int (spc (sE i) True)) ∧ (spc (sE i) True = 0 → f1 out = some (.inl (cJ G, 1, .inr (.inl (vp_updL (fun _ => 0) (0 : Int32).toNatClampNeg 0))))) ∧ hKeep [out] f f1) (fun E f1 => False) := by
  refine hp_startH hl (own := RL) (by decide) rfl (Nat.le_of_ble_eq_true rfl) ?_
  intro p e s m args below meth c B0 hr htab hw hS ls hl9
  have hx := B0.1
  have hb := B0.2.1
  have hl9 : lv_has ls 4 [(0, .ref xo), (1, .int i), (2, .ref out)] := hl9
  obtain ⟨k_xo, k_ez, k_nw0, k_na0, k_nq0, k_nr0, k_eo, k_nw1, k_na1, k_nq1, k_nr1, k_bu, k_bs, k_bp, k_bh, k_bf, k_bl, k_bg, n_wq0, n_wq1, n_sp⟩ := C
  have no_nw0 : out ≠ nw0 := fun h9 => no (by rw [h9]; simp)
  have no_nw1 : out ≠ nw1 := fun h9 => no (by rw [h9]; simp)
  have no_na0 : out ≠ na0 := fun h9 => no (by rw [h9]; simp)
  have no_na1 : out ≠ na1 := fun h9 => no (by rw [h9]; simp)
  have no_nq0 : out ≠ nq0 := fun h9 => no (by rw [h9]; simp)
  have no_nq1 : out ≠ nq1 := fun h9 => no (by rw [h9]; simp)
  have no_bs : out ≠ bs := fun h9 => no (by rw [h9]; simp)
  have no_bp : out ≠ bp := fun h9 => no (by rw [h9]; simp)
  refine lv_aload_n hx hb dL_isLooped_0 rfl (lv_at hl9 2 rfl) ?_
  refine lv_iconst (v := 0) hx hb dL_isLooped_1 (by decide) ?_
  refine lv_aload_n hx hb dL_isLooped_2 rfl (lv_at hl9 0 rfl) ?_
  refine lv_iload_n hx hb dL_isLooped_3 rfl (lv_at hl9 1 rfl) ?_
  refine hp_V (ci := 4) (As := [.int i]) (rest := [.int 0, .ref out]) B0 hw hS (c_X4_isLooped hl G f xo ez eo bu k_xo nw0 na0 nq0 nr0 1 0 0 0 (-1) 0 0 k_ez nw1 na1 nq1 nr1 2 0 0 0 (-1) 0 0 k_eo rfl rfl i) mV_X4_isLooped qM_L_54 rfl k_xo rfl rfl hl9.1 (Nat.le_of_ble_eq_true rfl) ⟨⟨Nat.le_of_ble_eq_true rfl, Nat.le_of_ble_eq_true rfl⟩, Nat.le_of_ble_eq_true rfl, Nat.le_of_ble_eq_true rfl⟩ dL_isLooped_4 (fun E ce q9 f1 H locs hPX hw hS hce hcv hcl => ?_) (fun v f1 H locs hP hw hS => ?_)
  · obtain ⟨ef9, eE9, hc9⟩ := hPX
    rw [ef9] at hw
    subst eE9
    refine hp_catch (name := eI) B0 [] _ _ (htab.trans rfl) (fun z hz => nomatch hz) rfl (by decide) qC_L_13 oC_eI hce hcv hcl ?_
    refine W.eq (g2 := F0 m 19 ls [.ref q9]) rfl ?_
    refine lv_astore_n (lv' := [(3, .ref q9), (0, .ref xo), (1, .int i), (2, .ref out)]) hx hb dL_isLooped_19 rfl hl9 (by decide) rfl (fun ls hl9 => ?_)
    refine lv_iconst (v := 1) hx hb dL_isLooped_20 (by decide) ?_
    exact hp_iret (v := 1) B0 hw hS hr ⟨Nat.le_of_ble_eq_true rfl, Nat.le_of_ble_eq_true rfl⟩ dL_isLooped_21 (⟨by rw [hc9], fun h9 => absurd (h9.symm.trans hc9) (by decide), hKeep.rf⟩)
  · obtain ⟨hz9, ef9, hv9⟩ := hP
    rw [ef9] at hw
    rcases hv9 with ⟨k9, ev9⟩ | ⟨k9, ev9⟩
    · subst ev9
      refine W.eq (g2 := F0 m 7 ls [.int 0, .int 0, .ref out]) rfl ?_
      refine lv_if_eq (tgt := 14) hx hb dL_isLooped_7 (by decide) (fun _ => ?_) (fun c9 => absurd (by decide) c9)
      refine lv_lconst (v := 0) hx hb dL_isLooped_14 (by decide) ?_
      refine hp_last B0 hw hS k_out (by unfold vp_in; decide) dL_isLooped_15 (fun H locs f2 ef2 hw hS => ?_)
      have h3 : f2 out = some (.inl (cJ G, 1, .inr (.inl (vp_updL (fun _ => 0) (0 : Int32).toNatClampNeg 0)))) := by rw [ef2, va_up_self]
      refine lv_goto (tgt := 22) hx hb dL_isLooped_16 (by decide) ?_
      refine lv_iconst (v := 0) hx hb dL_isLooped_22 (by decide) ?_
      exact hp_iret (v := 0) B0 hw hS hr ⟨Nat.le_of_ble_eq_true rfl, Nat.le_of_ble_eq_true rfl⟩ dL_isLooped_23 (⟨by rw [hz9], fun _ => h3, (show hKeep [out] f f2 from (by rw [ef2]; exact hKeep.up (by simp)))⟩)
    · subst ev9
      refine W.eq (g2 := F0 m 7 ls [.int 0, .int 0, .ref out]) rfl ?_
      refine lv_if_eq (tgt := 14) hx hb dL_isLooped_7 (by decide) (fun _ => ?_) (fun c9 => absurd (by decide) c9)
      refine lv_lconst (v := 0) hx hb dL_isLooped_14 (by decide) ?_
      refine hp_last B0 hw hS k_out (by unfold vp_in; decide) dL_isLooped_15 (fun H locs f4 ef4 hw hS => ?_)
      have h5 : f4 out = some (.inl (cJ G, 1, .inr (.inl (vp_updL (fun _ => 0) (0 : Int32).toNatClampNeg 0)))) := by rw [ef4, va_up_self]
      refine lv_goto (tgt := 22) hx hb dL_isLooped_16 (by decide) ?_
      refine lv_iconst (v := 0) hx hb dL_isLooped_22 (by decide) ?_
      exact hp_iret (v := 0) B0 hw hS hr ⟨Nat.le_of_ble_eq_true rfl, Nat.le_of_ble_eq_true rfl⟩ dL_isLooped_23 (⟨by rw [hz9], fun _ => h5, (show hKeep [out] f f4 from (by rw [ef4]; exact hKeep.up (by simp)))⟩)

set_option maxHeartbeats 4000000 in
set_option maxRecDepth 100000 in
theorem c_L_underWay {l : Launch} (hl : l.stackTraces = false) (G : hG) (f : hM) (xo ez eo bu nw0 na0 nq0 nr0 nw1 na1 nq1 nr1 bs bp bh bf bl bg out : Nat) (C : f xo = some (.inr (4, [.ref ez, .ref eo, .ref bu])) ∧ f ez = some (.inr (1, [.ref nw0, .ref na0, .ref nq0, .ref nr0, .int 1, .int 0, .int 0, .int 0, .int (-1), .int 0, .int 0])) ∧ f nw0 = some (.inl (cI G, 6, .inl (fun j => if j < 6 then (-1) else (fun _ => 0) j))) ∧ f na0 = some (.inl (cI G, 6, .inl (fun _ => 0))) ∧ f nq0 = some (.inl (cI G, 6, .inl (fun j => if j < 6 then (-1) else (fun _ => 0) j))) ∧ f nr0 = some (.inr (3, [.null, .null, .int 0])) ∧ f eo = some (.inr (1, [.ref nw1, .ref na1, .ref nq1, .ref nr1, .int 2, .int 0, .int 0, .int 0, .int (-1), .int 0, .int 0])) ∧ f nw1 = some (.inl (cI G, 6, .inl (fun j => if j < 6 then (-1) else (fun _ => 0) j))) ∧ f na1 = some (.inl (cI G, 6, .inl (fun _ => 0))) ∧ f nq1 = some (.inl (cI G, 6, .inl (fun j => if j < 6 then (-1) else (fun _ => 0) j))) ∧ f nr1 = some (.inr (3, [.null, .null, .int 0])) ∧ f bu = some (.inr (0, [.ref bs, .ref bp, .ref bh, .ref bf, .ref bl, .ref bg, .int 0, .int 0, .int 0])) ∧ f bs = some (.inl (cI G, 61, .inl (fun _ => 0))) ∧ f bp = some (.inl (cI G, 240, .inl (fun _ => 0))) ∧ f bh = some (.inl (cZ G, 240, .inl (fun _ => 0))) ∧ f bf = some (.inl (cI G, 3, .inl (upd (upd (upd (fun _ => 0) (0 : Int32).toNatClampNeg 0) (1 : Int32).toNatClampNeg 1) (2 : Int32).toNatClampNeg 2))) ∧ f bl = some (.inl (cI G, 3, .inl (fun j => if j < 3 then (-1) else (fun _ => 0) j))) ∧ f bg = some (.inl (cI G, 60, .inl (fun _ => 0))) ∧ nw0 ≠ nq0 ∧ nw1 ≠ nq1 ∧ bs ≠ bp) (no : out ∉ [nw0, nw1, na0, na1, nq0, nq1, bs, bp]) (k_out : f out = some (.inl (cJ G, 1, .inr (.inl (fun _ => 0))))) (i : Int32) : CT l yL_underWay (.codeWith yL_underWay cL_underWay 4 (some .int) [(0, 9, 12, 13)]) 8 124 1 6 G [.ref xo, .int i, .ref out] f (fun v f1 => v = some (.int (spc (sE i) True)) ∧ (spc (sE i) True = 0 → f1 out = some (.inl (cJ G, 1, .inr (.inl (vp_updL (fun _ => 0) (0 : Int32).toNatClampNeg ((0 : Int32).toInt64)))))) ∧ hKeep [out] f f1) (fun E f1 => False) := by
  refine hp_startH hl (own := RL) (by decide) rfl (Nat.le_of_ble_eq_true rfl) ?_
  intro p e s m args below meth c B0 hr htab hw hS ls hl9
  have hx := B0.1
  have hb := B0.2.1
  have hl9 : lv_has ls 4 [(0, .ref xo), (1, .int i), (2, .ref out)] := hl9
  obtain ⟨k_xo, k_ez, k_nw0, k_na0, k_nq0, k_nr0, k_eo, k_nw1, k_na1, k_nq1, k_nr1, k_bu, k_bs, k_bp, k_bh, k_bf, k_bl, k_bg, n_wq0, n_wq1, n_sp⟩ := C
  have no_nw0 : out ≠ nw0 := fun h9 => no (by rw [h9]; simp)
  have no_nw1 : out ≠ nw1 := fun h9 => no (by rw [h9]; simp)
  have no_na0 : out ≠ na0 := fun h9 => no (by rw [h9]; simp)
  have no_na1 : out ≠ na1 := fun h9 => no (by rw [h9]; simp)
  have no_nq0 : out ≠ nq0 := fun h9 => no (by rw [h9]; simp)
  have no_nq1 : out ≠ nq1 := fun h9 => no (by rw [h9]; simp)
  have no_bs : out ≠ bs := fun h9 => no (by rw [h9]; simp)
  have no_bp : out ≠ bp := fun h9 => no (by rw [h9]; simp)
  refine lv_aload_n hx hb dL_underWay_0 rfl (lv_at hl9 2 rfl) ?_
  refine lv_iconst (v := 0) hx hb dL_underWay_1 (by decide) ?_
  refine lv_aload_n hx hb dL_underWay_2 rfl (lv_at hl9 0 rfl) ?_
  refine lv_iload_n hx hb dL_underWay_3 rfl (lv_at hl9 1 rfl) ?_
  refine hp_V (ci := 4) (As := [.int i]) (rest := [.int 0, .ref out]) B0 hw hS (c_X4_underWay hl G f xo ez eo bu k_xo nw0 na0 nq0 nr0 1 0 0 0 (-1) 0 0 k_ez nw1 na1 nq1 nr1 2 0 0 0 (-1) 0 0 k_eo .null .null 0 k_nr0 .null .null 0 k_nr1 i) mV_X4_underWay qM_L_58 rfl k_xo rfl rfl hl9.1 (Nat.le_of_ble_eq_true rfl) ⟨⟨Nat.le_of_ble_eq_true rfl, Nat.le_of_ble_eq_true rfl⟩, Nat.le_of_ble_eq_true rfl, Nat.le_of_ble_eq_true rfl⟩ dL_underWay_4 (fun E ce q9 f1 H locs hPX hw hS hce hcv hcl => ?_) (fun v f1 H locs hP hw hS => ?_)
  · obtain ⟨ef9, eE9, hc9⟩ := hPX
    rw [ef9] at hw
    subst eE9
    refine hp_catch (name := eI) B0 [] _ _ (htab.trans rfl) (fun z hz => nomatch hz) rfl (by decide) qC_L_13 oC_eI hce hcv hcl ?_
    refine W.eq (g2 := F0 m 12 ls [.ref q9]) rfl ?_
    refine lv_astore_n (lv' := [(3, .ref q9), (0, .ref xo), (1, .int i), (2, .ref out)]) hx hb dL_underWay_12 rfl hl9 (by decide) rfl (fun ls hl9 => ?_)
    refine lv_iconst (v := 1) hx hb dL_underWay_13 (by decide) ?_
    exact hp_iret (v := 1) B0 hw hS hr ⟨Nat.le_of_ble_eq_true rfl, Nat.le_of_ble_eq_true rfl⟩ dL_underWay_14 (⟨by rw [hc9], fun h9 => absurd (h9.symm.trans hc9) (by decide), hKeep.rf⟩)
  · obtain ⟨hz9, ef9, hv9⟩ := hP
    rw [ef9] at hw
    rcases hv9 with ⟨k9, ev9⟩ | ⟨k9, ev9⟩
    · subst ev9
      refine W.eq (g2 := F0 m 7 ls [.int 0, .int 0, .ref out]) rfl ?_
      refine lv_i2l (v := (0 : Int32).toInt64) hx hb dL_underWay_7 rfl ?_
      refine hp_last B0 hw hS k_out (by unfold vp_in; decide) dL_underWay_8 (fun H locs f2 ef2 hw hS => ?_)
      have h3 : f2 out = some (.inl (cJ G, 1, .inr (.inl (vp_updL (fun _ => 0) (0 : Int32).toNatClampNeg ((0 : Int32).toInt64))))) := by rw [ef2, va_up_self]
      refine lv_goto (tgt := 15) hx hb dL_underWay_9 (by decide) ?_
      refine lv_iconst (v := 0) hx hb dL_underWay_15 (by decide) ?_
      exact hp_iret (v := 0) B0 hw hS hr ⟨Nat.le_of_ble_eq_true rfl, Nat.le_of_ble_eq_true rfl⟩ dL_underWay_16 (⟨by rw [hz9], fun _ => h3, (show hKeep [out] f f2 from (by rw [ef2]; exact hKeep.up (by simp)))⟩)
    · subst ev9
      refine W.eq (g2 := F0 m 7 ls [.int 0, .int 0, .ref out]) rfl ?_
      refine lv_i2l (v := (0 : Int32).toInt64) hx hb dL_underWay_7 rfl ?_
      refine hp_last B0 hw hS k_out (by unfold vp_in; decide) dL_underWay_8 (fun H locs f4 ef4 hw hS => ?_)
      have h5 : f4 out = some (.inl (cJ G, 1, .inr (.inl (vp_updL (fun _ => 0) (0 : Int32).toNatClampNeg ((0 : Int32).toInt64))))) := by rw [ef4, va_up_self]
      refine lv_goto (tgt := 15) hx hb dL_underWay_9 (by decide) ?_
      refine lv_iconst (v := 0) hx hb dL_underWay_15 (by decide) ?_
      exact hp_iret (v := 0) B0 hw hS hr ⟨Nat.le_of_ble_eq_true rfl, Nat.le_of_ble_eq_true rfl⟩ dL_underWay_16 (⟨by rw [hz9], fun _ => h5, (show hKeep [out] f f4 from (by rw [ef4]; exact hKeep.up (by simp)))⟩)

set_option maxHeartbeats 4000000 in
set_option maxRecDepth 100000 in
theorem c_L_asked {l : Launch} (hl : l.stackTraces = false) (G : hG) (f : hM) (xo ez eo bu nw0 na0 nq0 nr0 nw1 na1 nq1 nr1 bs bp bh bf bl bg out : Nat) (C : f xo = some (.inr (4, [.ref ez, .ref eo, .ref bu])) ∧ f ez = some (.inr (1, [.ref nw0, .ref na0, .ref nq0, .ref nr0, .int 1, .int 0, .int 0, .int 0, .int (-1), .int 0, .int 0])) ∧ f nw0 = some (.inl (cI G, 6, .inl (fun j => if j < 6 then (-1) else (fun _ => 0) j))) ∧ f na0 = some (.inl (cI G, 6, .inl (fun _ => 0))) ∧ f nq0 = some (.inl (cI G, 6, .inl (fun j => if j < 6 then (-1) else (fun _ => 0) j))) ∧ f nr0 = some (.inr (3, [.null, .null, .int 0])) ∧ f eo = some (.inr (1, [.ref nw1, .ref na1, .ref nq1, .ref nr1, .int 2, .int 0, .int 0, .int 0, .int (-1), .int 0, .int 0])) ∧ f nw1 = some (.inl (cI G, 6, .inl (fun j => if j < 6 then (-1) else (fun _ => 0) j))) ∧ f na1 = some (.inl (cI G, 6, .inl (fun _ => 0))) ∧ f nq1 = some (.inl (cI G, 6, .inl (fun j => if j < 6 then (-1) else (fun _ => 0) j))) ∧ f nr1 = some (.inr (3, [.null, .null, .int 0])) ∧ f bu = some (.inr (0, [.ref bs, .ref bp, .ref bh, .ref bf, .ref bl, .ref bg, .int 0, .int 0, .int 0])) ∧ f bs = some (.inl (cI G, 61, .inl (fun _ => 0))) ∧ f bp = some (.inl (cI G, 240, .inl (fun _ => 0))) ∧ f bh = some (.inl (cZ G, 240, .inl (fun _ => 0))) ∧ f bf = some (.inl (cI G, 3, .inl (upd (upd (upd (fun _ => 0) (0 : Int32).toNatClampNeg 0) (1 : Int32).toNatClampNeg 1) (2 : Int32).toNatClampNeg 2))) ∧ f bl = some (.inl (cI G, 3, .inl (fun j => if j < 3 then (-1) else (fun _ => 0) j))) ∧ f bg = some (.inl (cI G, 60, .inl (fun _ => 0))) ∧ nw0 ≠ nq0 ∧ nw1 ≠ nq1 ∧ bs ≠ bp) (no : out ∉ [nw0, nw1, na0, na1, nq0, nq1, bs, bp]) (k_out : f out = some (.inl (cJ G, 1, .inr (.inl (fun _ => 0))))) (i o : Int32) : CT l yL_asked (.codeWith yL_asked cL_asked 5 (some .int) [(0, 10, 13, 13)]) 8 126 2 12 G [.ref xo, .int i, .int o, .ref out] f (fun v f1 => v = some (.int (spc (sE i ∧ sO o) True)) ∧ (spc (sE i ∧ sO o) True = 0 → f1 out = some (.inl (cJ G, 1, .inr (.inl (vp_updL (fun _ => 0) (0 : Int32).toNatClampNeg (((-1) : Int32).toInt64)))))) ∧ hKeep [out] f f1) (fun E f1 => False) := by
  refine hp_startH hl (own := RL) (by decide) rfl (Nat.le_of_ble_eq_true rfl) ?_
  intro p e s m args below meth c B0 hr htab hw hS ls hl9
  have hx := B0.1
  have hb := B0.2.1
  have hl9 : lv_has ls 5 [(0, .ref xo), (1, .int i), (2, .int o), (3, .ref out)] := hl9
  obtain ⟨k_xo, k_ez, k_nw0, k_na0, k_nq0, k_nr0, k_eo, k_nw1, k_na1, k_nq1, k_nr1, k_bu, k_bs, k_bp, k_bh, k_bf, k_bl, k_bg, n_wq0, n_wq1, n_sp⟩ := C
  have no_nw0 : out ≠ nw0 := fun h9 => no (by rw [h9]; simp)
  have no_nw1 : out ≠ nw1 := fun h9 => no (by rw [h9]; simp)
  have no_na0 : out ≠ na0 := fun h9 => no (by rw [h9]; simp)
  have no_na1 : out ≠ na1 := fun h9 => no (by rw [h9]; simp)
  have no_nq0 : out ≠ nq0 := fun h9 => no (by rw [h9]; simp)
  have no_nq1 : out ≠ nq1 := fun h9 => no (by rw [h9]; simp)
  have no_bs : out ≠ bs := fun h9 => no (by rw [h9]; simp)
  have no_bp : out ≠ bp := fun h9 => no (by rw [h9]; simp)
  refine lv_aload_n hx hb dL_asked_0 rfl (lv_at hl9 3 rfl) ?_
  refine lv_iconst (v := 0) hx hb dL_asked_1 (by decide) ?_
  refine lv_aload_n hx hb dL_asked_2 rfl (lv_at hl9 0 rfl) ?_
  refine lv_iload_n hx hb dL_asked_3 rfl (lv_at hl9 1 rfl) ?_
  refine lv_iload_n hx hb dL_asked_4 rfl (lv_at hl9 2 rfl) ?_
  refine hp_V (ci := 4) (As := [.int i, .int o]) (rest := [.int 0, .ref out]) B0 hw hS (c_X4_asked hl G f xo ez eo bu k_xo nw0 na0 nq0 nr0 1 0 0 0 (-1) 0 0 k_ez nw1 na1 nq1 nr1 2 0 0 0 (-1) 0 0 k_eo (fun j => if j < 6 then (-1) else (fun _ => 0) j) (fun j => if j < 6 then (-1) else (fun _ => 0) j) k_nq0 k_nq1 i o) mV_X4_asked qM_L_48 rfl k_xo rfl rfl hl9.1 (Nat.le_of_ble_eq_true rfl) ⟨⟨Nat.le_of_ble_eq_true rfl, Nat.le_of_ble_eq_true rfl⟩, Nat.le_of_ble_eq_true rfl, Nat.le_of_ble_eq_true rfl⟩ dL_asked_5 (fun E ce q9 f1 H locs hPX hw hS hce hcv hcl => ?_) (fun v f1 H locs hP hw hS => ?_)
  · obtain ⟨ef9, eE9, hc9⟩ := hPX
    rw [ef9] at hw
    subst eE9
    refine hp_catch (name := eI) B0 [] _ _ (htab.trans rfl) (fun z hz => nomatch hz) rfl (by decide) qC_L_13 oC_eI hce hcv hcl ?_
    refine W.eq (g2 := F0 m 13 ls [.ref q9]) rfl ?_
    refine lv_astore (lv' := [(4, .ref q9), (0, .ref xo), (1, .int i), (2, .int o), (3, .ref out)]) hx hb dL_asked_13 hl9 (by decide) rfl (fun ls hl9 => ?_)
    refine lv_iconst (v := 1) hx hb dL_asked_15 (by decide) ?_
    exact hp_iret (v := 1) B0 hw hS hr ⟨Nat.le_of_ble_eq_true rfl, Nat.le_of_ble_eq_true rfl⟩ dL_asked_16 (⟨by rw [hc9], fun h9 => absurd (h9.symm.trans hc9) (by decide), hKeep.rf⟩)
  · obtain ⟨hz9, ef9, hv9⟩ := hP
    rw [ef9] at hw
    rcases hv9 with ⟨k9, ev9⟩ | ⟨k9, ev9⟩
    · subst ev9
      refine W.eq (g2 := F0 m 8 ls [.int ((fun j => if j < 6 then (-1) else (fun _ => 0) j) (o : Int32).toNatClampNeg), .int 0, .ref out]) rfl ?_
      refine hp_c (v := (-1)) (W6_in _ (cn_lt (vin6 (spc_A hz9).2))) ?_
      refine lv_i2l (v := ((-1) : Int32).toInt64) hx hb dL_asked_8 rfl ?_
      refine hp_last B0 hw hS k_out (by unfold vp_in; decide) dL_asked_9 (fun H locs f2 ef2 hw hS => ?_)
      have h3 : f2 out = some (.inl (cJ G, 1, .inr (.inl (vp_updL (fun _ => 0) (0 : Int32).toNatClampNeg (((-1) : Int32).toInt64))))) := by rw [ef2, va_up_self]
      refine lv_goto (tgt := 17) hx hb dL_asked_10 (by decide) ?_
      refine lv_iconst (v := 0) hx hb dL_asked_17 (by decide) ?_
      exact hp_iret (v := 0) B0 hw hS hr ⟨Nat.le_of_ble_eq_true rfl, Nat.le_of_ble_eq_true rfl⟩ dL_asked_18 (⟨by rw [hz9], fun _ => h3, (show hKeep [out] f f2 from (by rw [ef2]; exact hKeep.up (by simp)))⟩)
    · subst ev9
      refine W.eq (g2 := F0 m 8 ls [.int ((fun j => if j < 6 then (-1) else (fun _ => 0) j) (o : Int32).toNatClampNeg), .int 0, .ref out]) rfl ?_
      refine hp_c (v := (-1)) (W6_in _ (cn_lt (vin6 (spc_A hz9).2))) ?_
      refine lv_i2l (v := ((-1) : Int32).toInt64) hx hb dL_asked_8 rfl ?_
      refine hp_last B0 hw hS k_out (by unfold vp_in; decide) dL_asked_9 (fun H locs f4 ef4 hw hS => ?_)
      have h5 : f4 out = some (.inl (cJ G, 1, .inr (.inl (vp_updL (fun _ => 0) (0 : Int32).toNatClampNeg (((-1) : Int32).toInt64))))) := by rw [ef4, va_up_self]
      refine lv_goto (tgt := 17) hx hb dL_asked_10 (by decide) ?_
      refine lv_iconst (v := 0) hx hb dL_asked_17 (by decide) ?_
      exact hp_iret (v := 0) B0 hw hS hr ⟨Nat.le_of_ble_eq_true rfl, Nat.le_of_ble_eq_true rfl⟩ dL_asked_18 (⟨by rw [hz9], fun _ => h5, (show hKeep [out] f f4 from (by rw [ef4]; exact hKeep.up (by simp)))⟩)

set_option maxHeartbeats 4000000 in
set_option maxRecDepth 100000 in
theorem c_L_send {l : Launch} (hl : l.stackTraces = false) (G : hG) (f : hM) (xo ez eo bu nw0 na0 nq0 nr0 nw1 na1 nq1 nr1 bs bp bh bf bl bg out : Nat) (C : f xo = some (.inr (4, [.ref ez, .ref eo, .ref bu])) ∧ f ez = some (.inr (1, [.ref nw0, .ref na0, .ref nq0, .ref nr0, .int 1, .int 0, .int 0, .int 0, .int (-1), .int 0, .int 0])) ∧ f nw0 = some (.inl (cI G, 6, .inl (fun j => if j < 6 then (-1) else (fun _ => 0) j))) ∧ f na0 = some (.inl (cI G, 6, .inl (fun _ => 0))) ∧ f nq0 = some (.inl (cI G, 6, .inl (fun j => if j < 6 then (-1) else (fun _ => 0) j))) ∧ f nr0 = some (.inr (3, [.null, .null, .int 0])) ∧ f eo = some (.inr (1, [.ref nw1, .ref na1, .ref nq1, .ref nr1, .int 2, .int 0, .int 0, .int 0, .int (-1), .int 0, .int 0])) ∧ f nw1 = some (.inl (cI G, 6, .inl (fun j => if j < 6 then (-1) else (fun _ => 0) j))) ∧ f na1 = some (.inl (cI G, 6, .inl (fun _ => 0))) ∧ f nq1 = some (.inl (cI G, 6, .inl (fun j => if j < 6 then (-1) else (fun _ => 0) j))) ∧ f nr1 = some (.inr (3, [.null, .null, .int 0])) ∧ f bu = some (.inr (0, [.ref bs, .ref bp, .ref bh, .ref bf, .ref bl, .ref bg, .int 0, .int 0, .int 0])) ∧ f bs = some (.inl (cI G, 61, .inl (fun _ => 0))) ∧ f bp = some (.inl (cI G, 240, .inl (fun _ => 0))) ∧ f bh = some (.inl (cZ G, 240, .inl (fun _ => 0))) ∧ f bf = some (.inl (cI G, 3, .inl (upd (upd (upd (fun _ => 0) (0 : Int32).toNatClampNeg 0) (1 : Int32).toNatClampNeg 1) (2 : Int32).toNatClampNeg 2))) ∧ f bl = some (.inl (cI G, 3, .inl (fun j => if j < 3 then (-1) else (fun _ => 0) j))) ∧ f bg = some (.inl (cI G, 60, .inl (fun _ => 0))) ∧ nw0 ≠ nq0 ∧ nw1 ≠ nq1 ∧ bs ≠ bp) (no : out ∉ [nw0, nw1, na0, na1, nq0, nq1, bs, bp]) (k_out : f out = some (.inl (cJ G, 1, .inr (.inl (fun _ => 0))))) (x : Int32) : CT l yL_send (.codeWith yL_send cL_send 4 (some .int) [(0, 9, 12, 15), (0, 9, 15, 28)]) 7 103 1 6 G [.ref xo, .int x, .ref out] f (fun v f1 => v = some (.int (spc (sP x) True)) ∧ (spc (sP x) True = 0 → f1 out = some (.inl (cJ G, 1, .inr (.inl (vp_updL (fun _ => 0) (0 : Int32).toNatClampNeg ((0 : Int32).toInt64)))))) ∧ hKeep [bu, bs, bp, out] f f1) (fun E f1 => False) := by
  refine hp_startH hl (own := RL) (by decide) rfl (Nat.le_of_ble_eq_true rfl) ?_
  intro p e s m args below meth c B0 hr htab hw hS ls hl9
  have hx := B0.1
  have hb := B0.2.1
  have hl9 : lv_has ls 4 [(0, .ref xo), (1, .int x), (2, .ref out)] := hl9
  obtain ⟨k_xo, k_ez, k_nw0, k_na0, k_nq0, k_nr0, k_eo, k_nw1, k_na1, k_nq1, k_nr1, k_bu, k_bs, k_bp, k_bh, k_bf, k_bl, k_bg, n_wq0, n_wq1, n_sp⟩ := C
  have no_nw0 : out ≠ nw0 := fun h9 => no (by rw [h9]; simp)
  have no_nw1 : out ≠ nw1 := fun h9 => no (by rw [h9]; simp)
  have no_na0 : out ≠ na0 := fun h9 => no (by rw [h9]; simp)
  have no_na1 : out ≠ na1 := fun h9 => no (by rw [h9]; simp)
  have no_nq0 : out ≠ nq0 := fun h9 => no (by rw [h9]; simp)
  have no_nq1 : out ≠ nq1 := fun h9 => no (by rw [h9]; simp)
  have no_bs : out ≠ bs := fun h9 => no (by rw [h9]; simp)
  have no_bp : out ≠ bp := fun h9 => no (by rw [h9]; simp)
  refine lv_aload_n hx hb dL_send_0 rfl (lv_at hl9 2 rfl) ?_
  refine lv_iconst (v := 0) hx hb dL_send_1 (by decide) ?_
  refine lv_aload_n hx hb dL_send_2 rfl (lv_at hl9 0 rfl) ?_
  refine lv_iload_n hx hb dL_send_3 rfl (lv_at hl9 1 rfl) ?_
  refine hp_V (ci := 4) (As := [.int x]) (rest := [.int 0, .ref out]) B0 hw hS (c_X4_send0 hl G f xo ez eo bu k_xo bs bp bh bf bl bg k_bu k_bs k_bp n_sp x) mV_X4_send qM_L_64 rfl k_xo rfl rfl hl9.1 (Nat.le_of_ble_eq_true rfl) ⟨⟨Nat.le_of_ble_eq_true rfl, Nat.le_of_ble_eq_true rfl⟩, Nat.le_of_ble_eq_true rfl, Nat.le_of_ble_eq_true rfl⟩ dL_send_4 (fun E ce q9 f1 H locs hPX hw hS hce hcv hcl => ?_) (fun v f1 H locs hP hw hS => ?_)
  · obtain ⟨ef9, eE9, hc9⟩ := hPX
    rw [ef9] at hw
    subst eE9
    refine hp_catch (name := eA) B0 [] _ _ (htab.trans rfl) (fun z hz => nomatch hz) rfl (by decide) qC_L_15 oC_eA hce hcv hcl ?_
    refine W.eq (g2 := F0 m 12 ls [.ref q9]) rfl ?_
    refine lv_astore_n (lv' := [(3, .ref q9), (0, .ref xo), (1, .int x), (2, .ref out)]) hx hb dL_send_12 rfl hl9 (by decide) rfl (fun ls hl9 => ?_)
    refine lv_iconst (v := 1) hx hb dL_send_13 (by decide) ?_
    exact hp_iret (v := 1) B0 hw hS hr ⟨Nat.le_of_ble_eq_true rfl, Nat.le_of_ble_eq_true rfl⟩ dL_send_14 (⟨by rw [hc9], fun h9 => absurd (h9.symm.trans hc9) (by decide), hKeep.rf⟩)
  · obtain ⟨hz9, ev9, kk9⟩ := hP
    subst ev9
    refine W.eq (g2 := F0 m 7 ls [.int 0, .int 0, .ref out]) rfl ?_
    refine lv_i2l (v := (0 : Int32).toInt64) hx hb dL_send_7 rfl ?_
    have n3 : out ≠ bu := hne k_out k_bu (Nat.ne_of_beq_eq_false rfl)
    have h2 : f1 out = some (.inl (cJ G, 1, .inr (.inl (fun _ => 0)))) := kk9 _ _ k_out (ninc n3 (ninc no_bs (ninc no_bp nin0)))
    refine hp_last B0 hw hS h2 (by unfold vp_in; decide) dL_send_8 (fun H locs f4 ef4 hw hS => ?_)
    have h5 : f4 out = some (.inl (cJ G, 1, .inr (.inl (vp_updL (fun _ => 0) (0 : Int32).toNatClampNeg ((0 : Int32).toInt64))))) := by rw [ef4, va_up_self]
    refine lv_goto (tgt := 18) hx hb dL_send_9 (by decide) ?_
    refine lv_iconst (v := 0) hx hb dL_send_18 (by decide) ?_
    exact hp_iret (v := 0) B0 hw hS hr ⟨Nat.le_of_ble_eq_true rfl, Nat.le_of_ble_eq_true rfl⟩ dL_send_19 (⟨by rw [hz9], fun _ => h5, ((show hKeep [bu, bs, bp, out] f f1 from (kk9.mono (fun x9 hx9 => by simp only [List.mem_cons, List.not_mem_nil, or_false] at hx9 ⊢; omega))).tr (show hKeep [bu, bs, bp, out] f1 f4 from (by rw [ef4]; exact hKeep.up (by simp))))⟩)

set_option maxHeartbeats 4000000 in
set_option maxRecDepth 100000 in
theorem c_L_come {l : Launch} (hl : l.stackTraces = false) (G : hG) (f : hM) (xo ez eo bu nw0 na0 nq0 nr0 nw1 na1 nq1 nr1 bs bp bh bf bl bg out : Nat) (C : f xo = some (.inr (4, [.ref ez, .ref eo, .ref bu])) ∧ f ez = some (.inr (1, [.ref nw0, .ref na0, .ref nq0, .ref nr0, .int 1, .int 0, .int 0, .int 0, .int (-1), .int 0, .int 0])) ∧ f nw0 = some (.inl (cI G, 6, .inl (fun j => if j < 6 then (-1) else (fun _ => 0) j))) ∧ f na0 = some (.inl (cI G, 6, .inl (fun _ => 0))) ∧ f nq0 = some (.inl (cI G, 6, .inl (fun j => if j < 6 then (-1) else (fun _ => 0) j))) ∧ f nr0 = some (.inr (3, [.null, .null, .int 0])) ∧ f eo = some (.inr (1, [.ref nw1, .ref na1, .ref nq1, .ref nr1, .int 2, .int 0, .int 0, .int 0, .int (-1), .int 0, .int 0])) ∧ f nw1 = some (.inl (cI G, 6, .inl (fun j => if j < 6 then (-1) else (fun _ => 0) j))) ∧ f na1 = some (.inl (cI G, 6, .inl (fun _ => 0))) ∧ f nq1 = some (.inl (cI G, 6, .inl (fun j => if j < 6 then (-1) else (fun _ => 0) j))) ∧ f nr1 = some (.inr (3, [.null, .null, .int 0])) ∧ f bu = some (.inr (0, [.ref bs, .ref bp, .ref bh, .ref bf, .ref bl, .ref bg, .int 0, .int 0, .int 0])) ∧ f bs = some (.inl (cI G, 61, .inl (fun _ => 0))) ∧ f bp = some (.inl (cI G, 240, .inl (fun _ => 0))) ∧ f bh = some (.inl (cZ G, 240, .inl (fun _ => 0))) ∧ f bf = some (.inl (cI G, 3, .inl (upd (upd (upd (fun _ => 0) (0 : Int32).toNatClampNeg 0) (1 : Int32).toNatClampNeg 1) (2 : Int32).toNatClampNeg 2))) ∧ f bl = some (.inl (cI G, 3, .inl (fun j => if j < 3 then (-1) else (fun _ => 0) j))) ∧ f bg = some (.inl (cI G, 60, .inl (fun _ => 0))) ∧ nw0 ≠ nq0 ∧ nw1 ≠ nq1 ∧ bs ≠ bp) (no : out ∉ [nw0, nw1, na0, na1, nq0, nq1, bs, bp]) (k_out : f out = some (.inl (cJ G, 1, .inr (.inl (fun _ => 0))))) (x : Int32) : CT l yL_come (.codeWith yL_come cL_come 4 (some .int) [(0, 9, 12, 13), (0, 9, 15, 28)]) 8 124 1 6 G [.ref xo, .int x, .ref out] f (fun v f1 => v = some (.int (spc (sL x) False)) ∧ (spc (sL x) False = 0 → f1 out = some (.inl (cJ G, 1, .inr (.inl (vp_updL (fun _ => 0) (0 : Int32).toNatClampNeg 0))))) ∧ hKeep [out] f f1) (fun E f1 => False) := by
  refine hp_startH hl (own := RL) (by decide) rfl (Nat.le_of_ble_eq_true rfl) ?_
  intro p e s m args below meth c B0 hr htab hw hS ls hl9
  have hx := B0.1
  have hb := B0.2.1
  have hl9 : lv_has ls 4 [(0, .ref xo), (1, .int x), (2, .ref out)] := hl9
  obtain ⟨k_xo, k_ez, k_nw0, k_na0, k_nq0, k_nr0, k_eo, k_nw1, k_na1, k_nq1, k_nr1, k_bu, k_bs, k_bp, k_bh, k_bf, k_bl, k_bg, n_wq0, n_wq1, n_sp⟩ := C
  have no_nw0 : out ≠ nw0 := fun h9 => no (by rw [h9]; simp)
  have no_nw1 : out ≠ nw1 := fun h9 => no (by rw [h9]; simp)
  have no_na0 : out ≠ na0 := fun h9 => no (by rw [h9]; simp)
  have no_na1 : out ≠ na1 := fun h9 => no (by rw [h9]; simp)
  have no_nq0 : out ≠ nq0 := fun h9 => no (by rw [h9]; simp)
  have no_nq1 : out ≠ nq1 := fun h9 => no (by rw [h9]; simp)
  have no_bs : out ≠ bs := fun h9 => no (by rw [h9]; simp)
  have no_bp : out ≠ bp := fun h9 => no (by rw [h9]; simp)
  refine lv_aload_n hx hb dL_come_0 rfl (lv_at hl9 2 rfl) ?_
  refine lv_iconst (v := 0) hx hb dL_come_1 (by decide) ?_
  refine lv_aload_n hx hb dL_come_2 rfl (lv_at hl9 0 rfl) ?_
  refine lv_iload_n hx hb dL_come_3 rfl (lv_at hl9 1 rfl) ?_
  refine hp_V (ci := 4) (As := [.int x]) (rest := [.int 0, .ref out]) B0 hw hS (c_X4_come0 hl G f xo ez eo bu k_xo bs bp bh bf bl bg k_bu k_bs k_bf x) mV_X4_come qM_L_67 rfl k_xo rfl rfl hl9.1 (Nat.le_of_ble_eq_true rfl) ⟨⟨Nat.le_of_ble_eq_true rfl, Nat.le_of_ble_eq_true rfl⟩, Nat.le_of_ble_eq_true rfl, Nat.le_of_ble_eq_true rfl⟩ dL_come_4 (fun E ce q9 f1 H locs hPX hw hS hce hcv hcl => ?_) (fun v f1 H locs hP hw hS => ?_)
  · obtain ⟨ef9, hE9⟩ := hPX
    rw [ef9] at hw
    rcases hE9 with ⟨eE9, hc9⟩ | ⟨eE9, hc9⟩
    · subst eE9
      refine hp_catch (name := eI) B0 [] _ _ (htab.trans rfl) (fun z hz => nomatch hz) rfl (by decide) qC_L_13 oC_eI hce hcv hcl ?_
      refine W.eq (g2 := F0 m 12 ls [.ref q9]) rfl ?_
      refine lv_astore_n (lv' := [(3, .ref q9), (0, .ref xo), (1, .int x), (2, .ref out)]) hx hb dL_come_12 rfl hl9 (by decide) rfl (fun ls hl9 => ?_)
      refine lv_iconst (v := 1) hx hb dL_come_13 (by decide) ?_
      exact hp_iret (v := 1) B0 hw hS hr ⟨Nat.le_of_ble_eq_true rfl, Nat.le_of_ble_eq_true rfl⟩ dL_come_14 (⟨by rw [hc9], fun h9 => absurd (h9.symm.trans hc9) (by decide), hKeep.rf⟩)
    · subst eE9
      refine hp_catch (name := eS) B0 [_] _ _ (htab.trans rfl) (fun z hz => Or.inr (by rcases List.mem_singleton.mp hz with rfl; exact ⟨by decide, eI, qC_L_13, List.mem_of_getElem? (i := 4) rfl⟩)) rfl (by decide) qC_L_28 oC_eS hce hcv hcl ?_
      refine W.eq (g2 := F0 m 15 ls [.ref q9]) rfl ?_
      refine lv_astore_n (lv' := [(3, .ref q9), (0, .ref xo), (1, .int x), (2, .ref out)]) hx hb dL_come_15 rfl hl9 (by decide) rfl (fun ls hl9 => ?_)
      refine lv_iconst (v := 2) hx hb dL_come_16 (by decide) ?_
      exact hp_iret (v := 2) B0 hw hS hr ⟨Nat.le_of_ble_eq_true rfl, Nat.le_of_ble_eq_true rfl⟩ dL_come_17 (⟨by rw [hc9], fun h9 => absurd (h9.symm.trans hc9) (by decide), hKeep.rf⟩)
  · exact hP.elim

set_option maxHeartbeats 4000000 in
set_option maxRecDepth 100000 in
theorem c_L_drop {l : Launch} (hl : l.stackTraces = false) (G : hG) (f : hM) (xo ez eo bu nw0 na0 nq0 nr0 nw1 na1 nq1 nr1 bs bp bh bf bl bg out : Nat) (C : f xo = some (.inr (4, [.ref ez, .ref eo, .ref bu])) ∧ f ez = some (.inr (1, [.ref nw0, .ref na0, .ref nq0, .ref nr0, .int 1, .int 0, .int 0, .int 0, .int (-1), .int 0, .int 0])) ∧ f nw0 = some (.inl (cI G, 6, .inl (fun j => if j < 6 then (-1) else (fun _ => 0) j))) ∧ f na0 = some (.inl (cI G, 6, .inl (fun _ => 0))) ∧ f nq0 = some (.inl (cI G, 6, .inl (fun j => if j < 6 then (-1) else (fun _ => 0) j))) ∧ f nr0 = some (.inr (3, [.null, .null, .int 0])) ∧ f eo = some (.inr (1, [.ref nw1, .ref na1, .ref nq1, .ref nr1, .int 2, .int 0, .int 0, .int 0, .int (-1), .int 0, .int 0])) ∧ f nw1 = some (.inl (cI G, 6, .inl (fun j => if j < 6 then (-1) else (fun _ => 0) j))) ∧ f na1 = some (.inl (cI G, 6, .inl (fun _ => 0))) ∧ f nq1 = some (.inl (cI G, 6, .inl (fun j => if j < 6 then (-1) else (fun _ => 0) j))) ∧ f nr1 = some (.inr (3, [.null, .null, .int 0])) ∧ f bu = some (.inr (0, [.ref bs, .ref bp, .ref bh, .ref bf, .ref bl, .ref bg, .int 0, .int 0, .int 0])) ∧ f bs = some (.inl (cI G, 61, .inl (fun _ => 0))) ∧ f bp = some (.inl (cI G, 240, .inl (fun _ => 0))) ∧ f bh = some (.inl (cZ G, 240, .inl (fun _ => 0))) ∧ f bf = some (.inl (cI G, 3, .inl (upd (upd (upd (fun _ => 0) (0 : Int32).toNatClampNeg 0) (1 : Int32).toNatClampNeg 1) (2 : Int32).toNatClampNeg 2))) ∧ f bl = some (.inl (cI G, 3, .inl (fun j => if j < 3 then (-1) else (fun _ => 0) j))) ∧ f bg = some (.inl (cI G, 60, .inl (fun _ => 0))) ∧ nw0 ≠ nq0 ∧ nw1 ≠ nq1 ∧ bs ≠ bp) (no : out ∉ [nw0, nw1, na0, na1, nq0, nq1, bs, bp]) (k_out : f out = some (.inl (cJ G, 1, .inr (.inl (fun _ => 0))))) (x : Int32) : CT l yL_drop (.codeWith yL_drop cL_drop 4 (some .int) [(0, 9, 12, 13), (0, 9, 15, 28)]) 8 124 1 6 G [.ref xo, .int x, .ref out] f (fun v f1 => v = some (.int (spc (sL x) False)) ∧ (spc (sL x) False = 0 → f1 out = some (.inl (cJ G, 1, .inr (.inl (vp_updL (fun _ => 0) (0 : Int32).toNatClampNeg 0))))) ∧ hKeep [out] f f1) (fun E f1 => False) := by
  refine hp_startH hl (own := RL) (by decide) rfl (Nat.le_of_ble_eq_true rfl) ?_
  intro p e s m args below meth c B0 hr htab hw hS ls hl9
  have hx := B0.1
  have hb := B0.2.1
  have hl9 : lv_has ls 4 [(0, .ref xo), (1, .int x), (2, .ref out)] := hl9
  obtain ⟨k_xo, k_ez, k_nw0, k_na0, k_nq0, k_nr0, k_eo, k_nw1, k_na1, k_nq1, k_nr1, k_bu, k_bs, k_bp, k_bh, k_bf, k_bl, k_bg, n_wq0, n_wq1, n_sp⟩ := C
  have no_nw0 : out ≠ nw0 := fun h9 => no (by rw [h9]; simp)
  have no_nw1 : out ≠ nw1 := fun h9 => no (by rw [h9]; simp)
  have no_na0 : out ≠ na0 := fun h9 => no (by rw [h9]; simp)
  have no_na1 : out ≠ na1 := fun h9 => no (by rw [h9]; simp)
  have no_nq0 : out ≠ nq0 := fun h9 => no (by rw [h9]; simp)
  have no_nq1 : out ≠ nq1 := fun h9 => no (by rw [h9]; simp)
  have no_bs : out ≠ bs := fun h9 => no (by rw [h9]; simp)
  have no_bp : out ≠ bp := fun h9 => no (by rw [h9]; simp)
  refine lv_aload_n hx hb dL_drop_0 rfl (lv_at hl9 2 rfl) ?_
  refine lv_iconst (v := 0) hx hb dL_drop_1 (by decide) ?_
  refine lv_aload_n hx hb dL_drop_2 rfl (lv_at hl9 0 rfl) ?_
  refine lv_iload_n hx hb dL_drop_3 rfl (lv_at hl9 1 rfl) ?_
  refine hp_V (ci := 4) (As := [.int x]) (rest := [.int 0, .ref out]) B0 hw hS (c_X4_drop0 hl G f xo ez eo bu k_xo bs bp bh bf bl bg k_bu k_bs k_bf x) mV_X4_drop qM_L_70 rfl k_xo rfl rfl hl9.1 (Nat.le_of_ble_eq_true rfl) ⟨⟨Nat.le_of_ble_eq_true rfl, Nat.le_of_ble_eq_true rfl⟩, Nat.le_of_ble_eq_true rfl, Nat.le_of_ble_eq_true rfl⟩ dL_drop_4 (fun E ce q9 f1 H locs hPX hw hS hce hcv hcl => ?_) (fun v f1 H locs hP hw hS => ?_)
  · obtain ⟨ef9, hE9⟩ := hPX
    rw [ef9] at hw
    rcases hE9 with ⟨eE9, hc9⟩ | ⟨eE9, hc9⟩
    · subst eE9
      refine hp_catch (name := eI) B0 [] _ _ (htab.trans rfl) (fun z hz => nomatch hz) rfl (by decide) qC_L_13 oC_eI hce hcv hcl ?_
      refine W.eq (g2 := F0 m 12 ls [.ref q9]) rfl ?_
      refine lv_astore_n (lv' := [(3, .ref q9), (0, .ref xo), (1, .int x), (2, .ref out)]) hx hb dL_drop_12 rfl hl9 (by decide) rfl (fun ls hl9 => ?_)
      refine lv_iconst (v := 1) hx hb dL_drop_13 (by decide) ?_
      exact hp_iret (v := 1) B0 hw hS hr ⟨Nat.le_of_ble_eq_true rfl, Nat.le_of_ble_eq_true rfl⟩ dL_drop_14 (⟨by rw [hc9], fun h9 => absurd (h9.symm.trans hc9) (by decide), hKeep.rf⟩)
    · subst eE9
      refine hp_catch (name := eS) B0 [_] _ _ (htab.trans rfl) (fun z hz => Or.inr (by rcases List.mem_singleton.mp hz with rfl; exact ⟨by decide, eI, qC_L_13, List.mem_of_getElem? (i := 4) rfl⟩)) rfl (by decide) qC_L_28 oC_eS hce hcv hcl ?_
      refine W.eq (g2 := F0 m 15 ls [.ref q9]) rfl ?_
      refine lv_astore_n (lv' := [(3, .ref q9), (0, .ref xo), (1, .int x), (2, .ref out)]) hx hb dL_drop_15 rfl hl9 (by decide) rfl (fun ls hl9 => ?_)
      refine lv_iconst (v := 2) hx hb dL_drop_16 (by decide) ?_
      exact hp_iret (v := 2) B0 hw hS hr ⟨Nat.le_of_ble_eq_true rfl, Nat.le_of_ble_eq_true rfl⟩ dL_drop_17 (⟨by rw [hc9], fun h9 => absurd (h9.symm.trans hc9) (by decide), hKeep.rf⟩)
  · exact hP.elim

set_option maxHeartbeats 4000000 in
set_option maxRecDepth 100000 in
theorem c_L_givenAt {l : Launch} (hl : l.stackTraces = false) (G : hG) (f : hM) (xo ez eo bu nw0 na0 nq0 nr0 nw1 na1 nq1 nr1 bs bp bh bf bl bg out : Nat) (C : f xo = some (.inr (4, [.ref ez, .ref eo, .ref bu])) ∧ f ez = some (.inr (1, [.ref nw0, .ref na0, .ref nq0, .ref nr0, .int 1, .int 0, .int 0, .int 0, .int (-1), .int 0, .int 0])) ∧ f nw0 = some (.inl (cI G, 6, .inl (fun j => if j < 6 then (-1) else (fun _ => 0) j))) ∧ f na0 = some (.inl (cI G, 6, .inl (fun _ => 0))) ∧ f nq0 = some (.inl (cI G, 6, .inl (fun j => if j < 6 then (-1) else (fun _ => 0) j))) ∧ f nr0 = some (.inr (3, [.null, .null, .int 0])) ∧ f eo = some (.inr (1, [.ref nw1, .ref na1, .ref nq1, .ref nr1, .int 2, .int 0, .int 0, .int 0, .int (-1), .int 0, .int 0])) ∧ f nw1 = some (.inl (cI G, 6, .inl (fun j => if j < 6 then (-1) else (fun _ => 0) j))) ∧ f na1 = some (.inl (cI G, 6, .inl (fun _ => 0))) ∧ f nq1 = some (.inl (cI G, 6, .inl (fun j => if j < 6 then (-1) else (fun _ => 0) j))) ∧ f nr1 = some (.inr (3, [.null, .null, .int 0])) ∧ f bu = some (.inr (0, [.ref bs, .ref bp, .ref bh, .ref bf, .ref bl, .ref bg, .int 0, .int 0, .int 0])) ∧ f bs = some (.inl (cI G, 61, .inl (fun _ => 0))) ∧ f bp = some (.inl (cI G, 240, .inl (fun _ => 0))) ∧ f bh = some (.inl (cZ G, 240, .inl (fun _ => 0))) ∧ f bf = some (.inl (cI G, 3, .inl (upd (upd (upd (fun _ => 0) (0 : Int32).toNatClampNeg 0) (1 : Int32).toNatClampNeg 1) (2 : Int32).toNatClampNeg 2))) ∧ f bl = some (.inl (cI G, 3, .inl (fun j => if j < 3 then (-1) else (fun _ => 0) j))) ∧ f bg = some (.inl (cI G, 60, .inl (fun _ => 0))) ∧ nw0 ≠ nq0 ∧ nw1 ≠ nq1 ∧ bs ≠ bp) (no : out ∉ [nw0, nw1, na0, na1, nq0, nq1, bs, bp]) (k_out : f out = some (.inl (cJ G, 1, .inr (.inl (fun _ => 0))))) (x : Int32) : CT l yL_givenAt (.codeWith yL_givenAt cL_givenAt 4 (some .int) [(0, 9, 12, 13)]) 7 103 1 6 G [.ref xo, .int x, .ref out] f (fun v f1 => v = some (.int (spc False True)) ∧ (spc False True = 0 → f1 out = some (.inl (cJ G, 1, .inr (.inl (vp_updL (fun _ => 0) (0 : Int32).toNatClampNeg 0))))) ∧ hKeep [out] f f1) (fun E f1 => False) := by
  refine hp_startH hl (own := RL) (by decide) rfl (Nat.le_of_ble_eq_true rfl) ?_
  intro p e s m args below meth c B0 hr htab hw hS ls hl9
  have hx := B0.1
  have hb := B0.2.1
  have hl9 : lv_has ls 4 [(0, .ref xo), (1, .int x), (2, .ref out)] := hl9
  obtain ⟨k_xo, k_ez, k_nw0, k_na0, k_nq0, k_nr0, k_eo, k_nw1, k_na1, k_nq1, k_nr1, k_bu, k_bs, k_bp, k_bh, k_bf, k_bl, k_bg, n_wq0, n_wq1, n_sp⟩ := C
  have no_nw0 : out ≠ nw0 := fun h9 => no (by rw [h9]; simp)
  have no_nw1 : out ≠ nw1 := fun h9 => no (by rw [h9]; simp)
  have no_na0 : out ≠ na0 := fun h9 => no (by rw [h9]; simp)
  have no_na1 : out ≠ na1 := fun h9 => no (by rw [h9]; simp)
  have no_nq0 : out ≠ nq0 := fun h9 => no (by rw [h9]; simp)
  have no_nq1 : out ≠ nq1 := fun h9 => no (by rw [h9]; simp)
  have no_bs : out ≠ bs := fun h9 => no (by rw [h9]; simp)
  have no_bp : out ≠ bp := fun h9 => no (by rw [h9]; simp)
  refine lv_aload_n hx hb dL_givenAt_0 rfl (lv_at hl9 2 rfl) ?_
  refine lv_iconst (v := 0) hx hb dL_givenAt_1 (by decide) ?_
  refine lv_aload_n hx hb dL_givenAt_2 rfl (lv_at hl9 0 rfl) ?_
  refine lv_iload_n hx hb dL_givenAt_3 rfl (lv_at hl9 1 rfl) ?_
  refine hp_V (ci := 4) (As := [.int x]) (rest := [.int 0, .ref out]) B0 hw hS (c_X4_givenAt0 hl G f xo ez eo bu k_xo bs bp bh bf bl bg k_bu x) mV_X4_givenAt qM_L_73 rfl k_xo rfl rfl hl9.1 (Nat.le_of_ble_eq_true rfl) ⟨⟨Nat.le_of_ble_eq_true rfl, Nat.le_of_ble_eq_true rfl⟩, Nat.le_of_ble_eq_true rfl, Nat.le_of_ble_eq_true rfl⟩ dL_givenAt_4 (fun E ce q9 f1 H locs hPX hw hS hce hcv hcl => ?_) (fun v f1 H locs hP hw hS => ?_)
  · obtain ⟨ef9, eE9⟩ := hPX
    rw [ef9] at hw
    subst eE9
    have hc9 : spc False True = 1 := spc_1 id
    refine hp_catch (name := eI) B0 [] _ _ (htab.trans rfl) (fun z hz => nomatch hz) rfl (by decide) qC_L_13 oC_eI hce hcv hcl ?_
    refine W.eq (g2 := F0 m 12 ls [.ref q9]) rfl ?_
    refine lv_astore_n (lv' := [(3, .ref q9), (0, .ref xo), (1, .int x), (2, .ref out)]) hx hb dL_givenAt_12 rfl hl9 (by decide) rfl (fun ls hl9 => ?_)
    refine lv_iconst (v := 1) hx hb dL_givenAt_13 (by decide) ?_
    exact hp_iret (v := 1) B0 hw hS hr ⟨Nat.le_of_ble_eq_true rfl, Nat.le_of_ble_eq_true rfl⟩ dL_givenAt_14 (⟨by rw [hc9], fun h9 => absurd (h9.symm.trans hc9) (by decide), hKeep.rf⟩)
  · exact hP.elim

