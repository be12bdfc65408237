/-- the whole of an object of the class, its links as far as they matter -/
def CW (G : hG) (f : hM) (xo ez eo bu nw0 na0 nq0 nr0 nw1 na1 nq1 nr1 bs bp bh bf bl bg : Nat) (gw0 : Nat → Int32) (ga0 : Nat → Int32) (gw1 : Nat → Int32) (ga1 : Nat → Int32) (mg0 : Int32) (mg1 : Int32) (n : Nat) (a : Nat) (cg : Nat) (x : Nat) (sa : Nat → Nat) (pk : Nat → Nat) (fl : Nat → Nat) (gv : Nat → Nat) (gh : Nat → Int32) (gl : Nat → Int32) : Prop := f xo = some (.inr (4, [.ref ez, .ref eo, .ref bu])) ∧ EF G f ez nw0 na0 nq0 nr0 mg0 ∧ EF G f eo nw1 na1 nq1 nr1 mg1 ∧ f nw0 = some (.inl (cI G, 6, .inl gw0)) ∧ f na0 = some (.inl (cI G, 6, .inl ga0)) ∧ f nw1 = some (.inl (cI G, 6, .inl gw1)) ∧ f na1 = some (.inl (cI G, 6, .inl ga1)) ∧ f bu = some (.inr (0, [.ref bs, .ref bp, .ref bh, .ref bf, .ref bl, .ref bg, .int (nI n), .int (nI cg), .int (nI x)])) ∧ f bs = some (.inl (cI G, 61, .inl (nf sa))) ∧ f bp = some (.inl (cI G, 240, .inl (nf pk))) ∧ f bh = some (.inl (cZ G, 240, .inl gh)) ∧ f bf = some (.inl (cI G, 3, .inl (nf fl))) ∧ f bl = some (.inl (cI G, 3, .inl gl)) ∧ f bg = some (.inl (cI G, 60, .inl (nf gv))) ∧ PoolX G [] f ∧ BOK n a cg x sa pk ∧ (∀ k, k < 3 → fl k < 243) ∧ ez ≠ eo ∧ nr0 ≠ nr1 ∧ nw0 ≠ na0 ∧ nw0 ≠ nq0 ∧ nw0 ≠ nw1 ∧ nw0 ≠ na1 ∧ nw0 ≠ nq1 ∧ na0 ≠ nq0 ∧ na0 ≠ nw1 ∧ na0 ≠ na1 ∧ na0 ≠ nq1 ∧ nq0 ≠ nw1 ∧ nq0 ≠ na1 ∧ nq0 ≠ nq1 ∧ nw1 ≠ na1 ∧ nw1 ≠ nq1 ∧ na1 ≠ nq1 ∧ bh ≠ bp ∧ bf ≠ bl
def updE (b : Prop) [Decidable b] (g : Nat → Int32) (o : Nat) (x : Int32) : Nat → Int32 := if b then upd g o x else g
theorem updE_1 {b : Prop} [Decidable b] (h : b) (g : Nat → Int32) (o : Nat) (x : Int32) : updE b g o x = upd g o x := if_pos h
theorem updE_0 {b : Prop} [Decidable b] (h : ¬ b) (g : Nat → Int32) (o : Nat) (x : Int32) : updE b g o x = g := if_neg h
theorem hp_cs {p : Program} {l : Launch} {e : Env} {R : Room} {s : State} {m : MethodId} {args : Array Value} {below : List Frame} {meth : Method} {c : Code} {H : Heap} {locs : List Loc} {cells slots c2 s2 : Nat} {Q : State → Prop} {F : Frame} (h1 : cells = c2) (h2 : slots = s2) (k : W p l e R s m args below meth c H locs c2 s2 Q F) : W p l e R s m args below meth c H locs cells slots Q F := by
  subst h1 h2; exact k
theorem lt3 {x : Int32} (h : vp_in x 3) : x.toNatClampNeg < 3 := Nat.not_le.mp (fun q => h (Or.inr q))
set_option maxHeartbeats 4000000 in
set_option maxRecDepth 100000 in
theorem c_X4_takeFrame {l : Launch} (hl : l.stackTraces = false) (G : hG) (f : hM) (en nw na nq nr : Nat) (mg : Int32) (hE : EF G f en nw na nq nr mg) (hPx : PoolX G [] f) : CT l yX4_takeFrame (.code yX4_takeFrame cX4_takeFrame 2 (some (.object "OptionLine$Frame"))) 6 82 1 6 G [.ref en] f (fun v f1 => (∃ (t9 : Nat) (k9 : List Value), v = some (.ref t9) ∧ f1 t9 = some (.inr (2, k9))) ∧ EF G f1 en nw na nq nr mg ∧ PoolX G [] f1 ∧ hKp [en, nq, nr] f f1) (fun E f1 => E = eS ∧ EF G f1 en nw na nq nr mg ∧ PoolX G [] f1 ∧ hKp [en, nq, nr] f f1) := by
  refine hp_start hl (own := RX4) (by decide) rfl (Nat.le_of_ble_eq_true rfl) ?_
  intro p e s m args below meth c B0 hr hnm hout hw hS ls hl9
  have hx := B0.1
  have hb := B0.2.1
  have hl9 : lv_has ls 2 [(0, .ref en)] := hl9
  obtain ⟨st, tm, sr, li, lp, mi, cn, gq, hd, tl, k_en, k_nq, k_nr, fhd, ftl, blp⟩ := hE
  refine lv_aload_n hx hb dX4_takeFrame_0 rfl (lv_at hl9 0 rfl) ?_
  refine hp_getN B0 hw 1 rfl in_X1 k_en 3 (by decide) oF_X4_106 rfl dX4_takeFrame_1 ?_
  refine hp_V (ci := 3) (As := []) (rest := []) B0 hw hS (c_X3_take hl G f nr hd tl cn k_nr fhd ftl hPx) mV_X3_takeFirst qM_X4_152 rfl k_nr rfl rfl hl9.1 (Nat.le_of_ble_eq_true rfl) ⟨⟨Nat.le_of_ble_eq_true rfl, Nat.le_of_ble_eq_true rfl⟩, Nat.le_of_ble_eq_true rfl, Nat.le_of_ble_eq_true rfl⟩ dX4_takeFrame_4 (fun E ce q9 f1 H locs hPX hw hS hce hcv hcl => ?_) (fun v f1 H locs hP hw hS => ?_)
  · exact hPX.elim
  · obtain ⟨hv9, hr9⟩ := hP
    rcases hv9 with ev9 | ⟨t9, k9, ev9, ht9⟩
    · have hP := And.intro ev9 hr9
      obtain ⟨ev8, ⟨hd2, tl3, cn4, h5, h6, h7⟩, h8, h9⟩ := hP
      subst ev8
      refine W.eq (g2 := F0 m 7 ls [.null]) rfl ?_
      refine lv_astore_nN (lv' := [(1, .null), (0, .ref en)]) hx hb dX4_takeFrame_7 rfl hl9 (by decide) rfl (fun ls hl9 => ?_)
      refine lv_aload_nN hx hb dX4_takeFrame_8 rfl (lv_at hl9 0 rfl) ?_
      refine lv_ifnonnullN hx hb dX4_takeFrame_9 ?_
  have n10 : en ≠ nr := hne k_en k_nr (Nat.ne_of_beq_eq_false rfl)
  have h11 : f1 en = some (.inr (1, [.ref nw, .ref na, .ref nq, .ref nr, .int mg, .int st, .int tm, .int sr, .int li, .int lp, .int mi])) := h9.1 _ _ k_en (Nat.ne_of_beq_eq_false rfl) (ninc n10 nin0)
  have n12 : nq ≠ nr := hne k_nq k_nr (Nat.ne_of_beq_eq_false rfl)
  have h13 : f1 nq = some (.inl (cI G, 6, .inl gq)) := h9.1 _ _ k_nq (Nat.ne_of_beq_eq_false rfl) (ninc n12 nin0)
      exact hp_throw (cls := eS) (names := tNm) B0 hw hS hout tF_eS qC_X4_59 qN_java_lang_IllegalStateException sR_X4_156 tA_eS tB_eS tG_eS hl9.1 dX4_takeFrame_12 dX4_takeFrame_15 dX4_takeFrame_16 dX4_takeFrame_18 dX4_takeFrame_21 ⟨⟨Nat.le_of_ble_eq_true rfl, Nat.le_of_ble_eq_true rfl⟩, Nat.le_of_ble_eq_true rfl, Nat.le_of_ble_eq_true rfl⟩ ⟨Nat.le_of_ble_eq_true rfl, Nat.le_of_ble_eq_true rfl⟩ (⟨rfl, ⟨_, _, _, _, _, _, _, _, _, _, h11, h13, h5, h6, h7, blp⟩, h8, (show hKp [en, nq, nr] f f1 from (h9.mono (fun x9 hx9 => by simp only [List.mem_cons, List.not_mem_nil, or_false] at hx9; rcases hx9 with hx9 <;> (rw [hx9]; simp))))⟩)
    · have hP := And.intro ev9 hr9
      obtain ⟨ev8, ⟨hd14, tl15, cn16, h17, h18, h19⟩, h20, h21⟩ := hP
      subst ev8
      refine W.eq (g2 := F0 m 7 ls [.ref t9]) rfl ?_
      refine lv_astore_n (lv' := [(1, .ref t9), (0, .ref en)]) hx hb dX4_takeFrame_7 rfl hl9 (by decide) rfl (fun ls hl9 => ?_)
      refine lv_aload_n hx hb dX4_takeFrame_8 rfl (lv_at hl9 0 rfl) ?_
      refine lv_ifnonnull (tgt := 22) hx hb dX4_takeFrame_9 (by decide) ?_
      refine lv_aload_n hx hb dX4_takeFrame_22 rfl (lv_at hl9 0 rfl) ?_
      have n22 : en ≠ nr := hne k_en k_nr (Nat.ne_of_beq_eq_false rfl)
      have h23 : f1 en = some (.inr (1, [.ref nw, .ref na, .ref nq, .ref nr, .int mg, .int st, .int tm, .int sr, .int li, .int lp, .int mi])) := h21.1 _ _ k_en (Nat.ne_of_beq_eq_false rfl) (ninc n22 nin0)
      have n24 : nq ≠ nr := hne k_nq k_nr (Nat.ne_of_beq_eq_false rfl)
      have h25 : f1 nq = some (.inl (cI G, 6, .inl gq)) := h21.1 _ _ k_nq (Nat.ne_of_beq_eq_false rfl) (ninc n24 nin0)
      exact hp_aret (v := .ref t9) B0 hw hS hr (Or.inl ⟨_, rfl⟩) (Or.inr ⟨_, rfl⟩) ⟨Nat.le_of_ble_eq_true rfl, Nat.le_of_ble_eq_true rfl⟩ dX4_takeFrame_23 (⟨⟨_, _, rfl, ht9⟩, ⟨_, _, _, _, _, _, _, _, _, _, h23, h25, h17, h18, h19, blp⟩, h20, (show hKp [en, nq, nr] f f1 from (h21.mono (fun x9 hx9 => by simp only [List.mem_cons, List.not_mem_nil, or_false] at hx9; rcases hx9 with hx9 <;> (rw [hx9]; simp))))⟩)

set_option maxHeartbeats 4000000 in
set_option maxRecDepth 100000 in
theorem c_X4_open {l : Launch} (hl : l.stackTraces = false) (G : hG) (f : hM) (xo ez eo bu nw0 na0 nq0 nr0 nw1 na1 nq1 nr1 bs bp bh bf bl bg : Nat) (gw0 : Nat → Int32) (ga0 : Nat → Int32) (gw1 : Nat → Int32) (ga1 : Nat → Int32) (mg0 : Int32) (mg1 : Int32) (n : Nat) (a : Nat) (cg : Nat) (x : Nat) (sa : Nat → Nat) (pk : Nat → Nat) (fl : Nat → Nat) (gv : Nat → Nat) (gh : Nat → Int32) (gl : Nat → Int32) (hC : CW G f xo ez eo bu nw0 na0 nq0 nr0 nw1 na1 nq1 nr1 bs bp bh bf bl bg gw0 ga0 gw1 ga1 mg0 mg1 n a cg x sa pk fl gv gh gl) (i : Int32) : CT l yX4_open (.code yX4_open cX4_open 3 (some .int)) 7 103 3 17 G [.ref xo, .int i] f (fun v f1 => (∃ r9 : Int32, v = some (.int r9)) ∧ CW G f1 xo ez eo bu nw0 na0 nq0 nr0 nw1 na1 nq1 nr1 bs bp bh bf bl bg gw0 ga0 gw1 ga1 mg0 mg1 n a cg x sa pk fl gv gh gl ∧ hKp [xo, ez, eo, bu, nw0, na0, nq0, nr0, nw1, na1, nq1, nr1, bs, bp, bh, bf, bl, bg] f f1) (fun E f1 => (E = eI ∨ E = eS) ∧ CW G f1 xo ez eo bu nw0 na0 nq0 nr0 nw1 na1 nq1 nr1 bs bp bh bf bl bg gw0 ga0 gw1 ga1 mg0 mg1 n a cg x sa pk fl gv gh gl ∧ hKp [xo, ez, eo, bu, nw0, na0, nq0, nr0, nw1, na1, nq1, nr1, bs, bp, bh, bf, bl, bg] f f1) := by
  refine hp_start hl (own := RX4) (by decide) rfl (Nat.le_of_ble_eq_true rfl) ?_
  intro p e s m args below meth c B0 hr hnm hout hw hS ls hl9
  have hx := B0.1
  have hb := B0.2.1
  have hl9 : lv_has ls 3 [(0, .ref xo), (1, .int i)] := hl9
  obtain ⟨k_xo, ⟨st0, tm0, sr0, li0, lp0, mi0, cn0, gq0, hd0, tl0, k_ez, k_nq0, k_nr0, fhd0, ftl0, blp0⟩, ⟨st1, tm1, sr1, li1, lp1, mi1, cn1, gq1, hd1, tl1, k_eo, k_nq1, k_nr1, fhd1, ftl1, blp1⟩, k_nw0, k_na0, k_nw1, k_na1, k_bu, k_bs, k_bp, k_bh, k_bf, k_bl, k_bg, hPx, hB9, hfl9, nd_ez_eo, nd_nr0_nr1, nd_nw0_na0, nd_nw0_nq0, nd_nw0_nw1, nd_nw0_na1, nd_nw0_nq1, nd_na0_nq0, nd_na0_nw1, nd_na0_na1, nd_na0_nq1, nd_nq0_nw1, nd_nq0_na1, nd_nq0_nq1, nd_nw1_na1, nd_nw1_nq1, nd_na1_nq1, nd_bh_bp, nd_bf_bl⟩ := hC
  refine lv_aload_n hx hb dX4_open_0 rfl (lv_at hl9 0 rfl) ?_
  refine lv_iload_n hx hb dX4_open_1 rfl (lv_at hl9 1 rfl) ?_
  refine hp_V (ci := 4) (As := [.int i]) (rest := []) B0 hw hS (c_X4_endAt hl G f xo ez eo bu k_xo i) mV_X4_endAt qM_X4_28 rfl k_xo rfl rfl hl9.1 (Nat.le_of_ble_eq_true rfl) ⟨⟨Nat.le_of_ble_eq_true rfl, Nat.le_of_ble_eq_true rfl⟩, Nat.le_of_ble_eq_true rfl, Nat.le_of_ble_eq_true rfl⟩ dX4_open_2 (fun E ce q9 f1 H locs hPX hw hS hce hcv hcl => ?_) (fun v f1 H locs hP hw hS => ?_)
  · obtain ⟨ef9, eE9, hE9⟩ := hPX
    rw [ef9] at hw
    subst eE9
    exact hp_out B0 hw hS hout hce hcv hcl ⟨Nat.le_of_ble_eq_true rfl, Nat.le_of_ble_eq_true rfl⟩ (⟨(Or.inl rfl), ⟨k_xo, ⟨_, _, _, _, _, _, _, _, _, _, k_ez, k_nq0, k_nr0, fhd0, ftl0, blp0⟩, ⟨_, _, _, _, _, _, _, _, _, _, k_eo, k_nq1, k_nr1, fhd1, ftl1, blp1⟩, k_nw0, k_na0, k_nw1, k_na1, k_bu, k_bs, k_bp, k_bh, k_bf, k_bl, k_bg, hPx, hB9, hfl9, nd_ez_eo, nd_nr0_nr1, nd_nw0_na0, nd_nw0_nq0, nd_nw0_nw1, nd_nw0_na1, nd_nw0_nq1, nd_na0_nq0, nd_na0_nw1, nd_na0_na1, nd_na0_nq1, nd_nq0_nw1, nd_nq0_na1, nd_nq0_nq1, nd_nw1_na1, nd_nw1_nq1, nd_na1_nq1, nd_bh_bp, nd_bf_bl⟩, hKp.rf⟩)
  · obtain ⟨ef9, hv9⟩ := hP
    rw [ef9] at hw
    rcases hv9 with ⟨k2, ev9⟩ | ⟨k2, ev9⟩
    · subst ev9
      refine W.eq (g2 := F0 m 5 ls [.ref ez]) rfl ?_
      refine lv_astore_n (lv' := [(2, .ref ez), (0, .ref xo), (1, .int i)]) hx hb dX4_open_5 rfl hl9 (by decide) rfl (fun ls hl9 => ?_)
      refine lv_aload_n hx hb dX4_open_6 rfl (lv_at hl9 0 rfl) ?_
      refine hp_getN B0 hw 1 rfl in_X1 k_ez 5 (by decide) oF_X4_55 rfl dX4_open_7 ?_
      refine lv_if_eq (tgt := 23) hx hb dX4_open_10 (by decide) (fun c3 => ?_) (fun c3 => ?_)
      · refine lv_aload_n hx hb dX4_open_23 rfl (lv_at hl9 0 rfl) ?_
        refine hp_V (ci := 1) (As := []) (rest := []) B0 hw hS (c_X1_begin hl G f ez nw0 na0 nq0 nr0 mg0 ⟨_, _, _, _, _, _, _, _, _, _, k_ez, k_nq0, k_nr0, fhd0, ftl0, blp0⟩ hPx gw0 k_nw0 nd_nw0_nq0) mV_X1_begin qM_X4_64 rfl k_ez rfl rfl hl9.1 (Nat.le_of_ble_eq_true rfl) ⟨⟨Nat.le_of_ble_eq_true rfl, Nat.le_of_ble_eq_true rfl⟩, Nat.le_of_ble_eq_true rfl, Nat.le_of_ble_eq_true rfl⟩ dX4_open_24 (fun E ce q9 f4 H locs hPX hw hS hce hcv hcl => ?_) (fun v f4 H locs hP hw hS => ?_)
        · exact hPX.elim
        · obtain ⟨⟨r5, ev9⟩, h6, p7, k8⟩ := hP
          obtain ⟨st9, tm10, sr11, li12, lp13, mi14, cn15, gq16, hd17, tl18, h19, h20, h21, h22, h23, h24⟩ := h6
          subst ev9
          refine W.eq (g2 := F0 m 27 ls [.int r5]) rfl ?_
          have n25 : eo ≠ nr0 := hne k_eo k_nr0 (Nat.ne_of_beq_eq_false rfl)
          have n26 : eo ≠ nq0 := hne k_eo k_nq0 (Nat.ne_of_beq_eq_false rfl)
          have h27 : f4 eo = some (.inr (1, [.ref nw1, .ref na1, .ref nq1, .ref nr1, .int mg1, .int st1, .int tm1, .int sr1, .int li1, .int lp1, .int mi1])) := k8.1 _ _ k_eo (Nat.ne_of_beq_eq_false rfl) (ninc (Ne.symm nd_ez_eo) (ninc n26 (ninc n25 nin0)))
          have n28 : nq1 ≠ nr0 := hne k_nq1 k_nr0 (Nat.ne_of_beq_eq_false rfl)
          have n29 : nq1 ≠ ez := hne k_nq1 k_ez (Nat.ne_of_beq_eq_false rfl)
          have h30 : f4 nq1 = some (.inl (cI G, 6, .inl gq1)) := k8.1 _ _ k_nq1 (Nat.ne_of_beq_eq_false rfl) (ninc n29 (ninc (Ne.symm nd_nq0_nq1) (ninc n28 nin0)))
          have n31 : nr1 ≠ nq0 := hne k_nr1 k_nq0 (Nat.ne_of_beq_eq_false rfl)
          have n32 : nr1 ≠ ez := hne k_nr1 k_ez (Nat.ne_of_beq_eq_false rfl)
          have h33 : f4 nr1 = some (.inr (3, [hd1, tl1, .int cn1])) := k8.1 _ _ k_nr1 (Nat.ne_of_beq_eq_false rfl) (ninc n32 (ninc n31 (ninc (Ne.symm nd_nr0_nr1) nin0)))
          have n34 : xo ≠ nr0 := hne k_xo k_nr0 (Nat.ne_of_beq_eq_false rfl)
          have n35 : xo ≠ nq0 := hne k_xo k_nq0 (Nat.ne_of_beq_eq_false rfl)
          have n36 : xo ≠ ez := hne k_xo k_ez (Nat.ne_of_beq_eq_false rfl)
          have h37 : f4 xo = some (.inr (4, [.ref ez, .ref eo, .ref bu])) := k8.1 _ _ k_xo (Nat.ne_of_beq_eq_false rfl) (ninc n36 (ninc n35 (ninc n34 nin0)))
          have n38 : nw0 ≠ nr0 := hne k_nw0 k_nr0 (Nat.ne_of_beq_eq_false rfl)
          have n39 : nw0 ≠ ez := hne k_nw0 k_ez (Nat.ne_of_beq_eq_false rfl)
          have h40 : f4 nw0 = some (.inl (cI G, 6, .inl gw0)) := k8.1 _ _ k_nw0 (Nat.ne_of_beq_eq_false rfl) (ninc n39 (ninc nd_nw0_nq0 (ninc n38 nin0)))
          have n41 : na0 ≠ nr0 := hne k_na0 k_nr0 (Nat.ne_of_beq_eq_false rfl)
          have n42 : na0 ≠ ez := hne k_na0 k_ez (Nat.ne_of_beq_eq_false rfl)
          have h43 : f4 na0 = some (.inl (cI G, 6, .inl ga0)) := k8.1 _ _ k_na0 (Nat.ne_of_beq_eq_false rfl) (ninc n42 (ninc nd_na0_nq0 (ninc n41 nin0)))
          have n44 : nw1 ≠ nr0 := hne k_nw1 k_nr0 (Nat.ne_of_beq_eq_false rfl)
          have n45 : nw1 ≠ ez := hne k_nw1 k_ez (Nat.ne_of_beq_eq_false rfl)
          have h46 : f4 nw1 = some (.inl (cI G, 6, .inl gw1)) := k8.1 _ _ k_nw1 (Nat.ne_of_beq_eq_false rfl) (ninc n45 (ninc (Ne.symm nd_nq0_nw1) (ninc n44 nin0)))
          have n47 : na1 ≠ nr0 := hne k_na1 k_nr0 (Nat.ne_of_beq_eq_false rfl)
          have n48 : na1 ≠ ez := hne k_na1 k_ez (Nat.ne_of_beq_eq_false rfl)
          have h49 : f4 na1 = some (.inl (cI G, 6, .inl ga1)) := k8.1 _ _ k_na1 (Nat.ne_of_beq_eq_false rfl) (ninc n48 (ninc (Ne.symm nd_nq0_na1) (ninc n47 nin0)))
          have n50 : bu ≠ nr0 := hne k_bu k_nr0 (Nat.ne_of_beq_eq_false rfl)
          have n51 : bu ≠ nq0 := hne k_bu k_nq0 (Nat.ne_of_beq_eq_false rfl)
          have n52 : bu ≠ ez := hne k_bu k_ez (Nat.ne_of_beq_eq_false rfl)
          have h53 : f4 bu = some (.inr (0, [.ref bs, .ref bp, .ref bh, .ref bf, .ref bl, .ref bg, .int (nI n), .int (nI cg), .int (nI x)])) := k8.1 _ _ k_bu (Nat.ne_of_beq_eq_false rfl) (ninc n52 (ninc n51 (ninc n50 nin0)))
          have n54 : bs ≠ nr0 := hne k_bs k_nr0 (Nat.ne_of_beq_eq_false rfl)
          have n55 : bs ≠ nq0 := hneL k_bs k_nq0 (Nat.ne_of_beq_eq_false rfl)
          have n56 : bs ≠ ez := hne k_bs k_ez (Nat.ne_of_beq_eq_false rfl)
          have h57 : f4 bs = some (.inl (cI G, 61, .inl (nf sa))) := k8.1 _ _ k_bs (Nat.ne_of_beq_eq_false rfl) (ninc n56 (ninc n55 (ninc n54 nin0)))
          have n58 : bp ≠ nr0 := hne k_bp k_nr0 (Nat.ne_of_beq_eq_false rfl)
          have n59 : bp ≠ nq0 := hneL k_bp k_nq0 (Nat.ne_of_beq_eq_false rfl)
          have n60 : bp ≠ ez := hne k_bp k_ez (Nat.ne_of_beq_eq_false rfl)
          have h61 : f4 bp = some (.inl (cI G, 240, .inl (nf pk))) := k8.1 _ _ k_bp (Nat.ne_of_beq_eq_false rfl) (ninc n60 (ninc n59 (ninc n58 nin0)))
          have n62 : bh ≠ nr0 := hne k_bh k_nr0 (Nat.ne_of_beq_eq_false rfl)
          have n63 : bh ≠ nq0 := hneL k_bh k_nq0 (Nat.ne_of_beq_eq_false rfl)
          have n64 : bh ≠ ez := hne k_bh k_ez (Nat.ne_of_beq_eq_false rfl)
          have h65 : f4 bh = some (.inl (cZ G, 240, .inl gh)) := k8.1 _ _ k_bh (Nat.ne_of_beq_eq_false rfl) (ninc n64 (ninc n63 (ninc n62 nin0)))
          have n66 : bf ≠ nr0 := hne k_bf k_nr0 (Nat.ne_of_beq_eq_false rfl)
          have n67 : bf ≠ nq0 := hneL k_bf k_nq0 (Nat.ne_of_beq_eq_false rfl)
          have n68 : bf ≠ ez := hne k_bf k_ez (Nat.ne_of_beq_eq_false rfl)
          have h69 : f4 bf = some (.inl (cI G, 3, .inl (nf fl))) := k8.1 _ _ k_bf (Nat.ne_of_beq_eq_false rfl) (ninc n68 (ninc n67 (ninc n66 nin0)))
          have n70 : bl ≠ nr0 := hne k_bl k_nr0 (Nat.ne_of_beq_eq_false rfl)
          have n71 : bl ≠ nq0 := hneL k_bl k_nq0 (Nat.ne_of_beq_eq_false rfl)
          have n72 : bl ≠ ez := hne k_bl k_ez (Nat.ne_of_beq_eq_false rfl)
          have h73 : f4 bl = some (.inl (cI G, 3, .inl gl)) := k8.1 _ _ k_bl (Nat.ne_of_beq_eq_false rfl) (ninc n72 (ninc n71 (ninc n70 nin0)))
          have n74 : bg ≠ nr0 := hne k_bg k_nr0 (Nat.ne_of_beq_eq_false rfl)
          have n75 : bg ≠ nq0 := hneL k_bg k_nq0 (Nat.ne_of_beq_eq_false rfl)
          have n76 : bg ≠ ez := hne k_bg k_ez (Nat.ne_of_beq_eq_false rfl)
          have h77 : f4 bg = some (.inl (cI G, 60, .inl (nf gv))) := k8.1 _ _ k_bg (Nat.ne_of_beq_eq_false rfl) (ninc n76 (ninc n75 (ninc n74 nin0)))
          exact hp_iret (v := r5) B0 hw hS hr ⟨Nat.le_of_ble_eq_true rfl, Nat.le_of_ble_eq_true rfl⟩ dX4_open_27 (⟨⟨_, rfl⟩, ⟨h37, ⟨_, _, _, _, _, _, _, _, _, _, h19, h20, h21, h22, h23, h24⟩, ⟨_, _, _, _, _, _, _, _, _, _, h27, h30, h33, (fhd1.kp (show hKp [xo, ez, eo, bu, nw0, na0, nq0, nr0, nw1, na1, nq1, nr1, bs, bp, bh, bf, bl, bg] f f4 from (k8.mono (fun x9 hx9 => by simp only [List.mem_cons, List.not_mem_nil, or_false] at hx9; rcases hx9 with hx9 | hx9 | hx9 <;> (rw [hx9]; simp))))), (ftl1.kp (show hKp [xo, ez, eo, bu, nw0, na0, nq0, nr0, nw1, na1, nq1, nr1, bs, bp, bh, bf, bl, bg] f f4 from (k8.mono (fun x9 hx9 => by simp only [List.mem_cons, List.not_mem_nil, or_false] at hx9; rcases hx9 with hx9 | hx9 | hx9 <;> (rw [hx9]; simp))))), blp1⟩, h40, h43, h46, h49, h53, h57, h61, h65, h69, h73, h77, p7, hB9, hfl9, nd_ez_eo, nd_nr0_nr1, nd_nw0_na0, nd_nw0_nq0, nd_nw0_nw1, nd_nw0_na1, nd_nw0_nq1, nd_na0_nq0, nd_na0_nw1, nd_na0_na1, nd_na0_nq1, nd_nq0_nw1, nd_nq0_na1, nd_nq0_nq1, nd_nw1_na1, nd_nw1_nq1, nd_na1_nq1, nd_bh_bp, nd_bf_bl⟩, (show hKp [xo, ez, eo, bu, nw0, na0, nq0, nr0, nw1, na1, nq1, nr1, bs, bp, bh, bf, bl, bg] f f4 from (k8.mono (fun x9 hx9 => by simp only [List.mem_cons, List.not_mem_nil, or_false] at hx9; rcases hx9 with hx9 | hx9 | hx9 <;> (rw [hx9]; simp))))⟩)
      · exact hp_throw (cls := eS) (names := tNm) B0 hw hS hout tF_eS qC_X4_59 qN_java_lang_IllegalStateException sR_X4_61 tA_eS tB_eS tG_eS hl9.1 dX4_open_13 dX4_open_16 dX4_open_17 dX4_open_19 dX4_open_22 ⟨⟨Nat.le_of_ble_eq_true rfl, Nat.le_of_ble_eq_true rfl⟩, Nat.le_of_ble_eq_true rfl, Nat.le_of_ble_eq_true rfl⟩ ⟨Nat.le_of_ble_eq_true rfl, Nat.le_of_ble_eq_true rfl⟩ (⟨(Or.inr rfl), ⟨k_xo, ⟨_, _, _, _, _, _, _, _, _, _, k_ez, k_nq0, k_nr0, fhd0, ftl0, blp0⟩, ⟨_, _, _, _, _, _, _, _, _, _, k_eo, k_nq1, k_nr1, fhd1, ftl1, blp1⟩, k_nw0, k_na0, k_nw1, k_na1, k_bu, k_bs, k_bp, k_bh, k_bf, k_bl, k_bg, hPx, hB9, hfl9, nd_ez_eo, nd_nr0_nr1, nd_nw0_na0, nd_nw0_nq0, nd_nw0_nw1, nd_nw0_na1, nd_nw0_nq1, nd_na0_nq0, nd_na0_nw1, nd_na0_na1, nd_na0_nq1, nd_nq0_nw1, nd_nq0_na1, nd_nq0_nq1, nd_nw1_na1, nd_nw1_nq1, nd_na1_nq1, nd_bh_bp, nd_bf_bl⟩, hKp.rf⟩)
    · subst ev9
      refine W.eq (g2 := F0 m 5 ls [.ref eo]) rfl ?_
      refine lv_astore_n (lv' := [(2, .ref eo), (0, .ref xo), (1, .int i)]) hx hb dX4_open_5 rfl hl9 (by decide) rfl (fun ls hl9 => ?_)
      refine lv_aload_n hx hb dX4_open_6 rfl (lv_at hl9 0 rfl) ?_
      refine hp_getN B0 hw 1 rfl in_X1 k_eo 5 (by decide) oF_X4_55 rfl dX4_open_7 ?_
      refine lv_if_eq (tgt := 23) hx hb dX4_open_10 (by decide) (fun c78 => ?_) (fun c78 => ?_)
      · refine lv_aload_n hx hb dX4_open_23 rfl (lv_at hl9 0 rfl) ?_
        refine hp_V (ci := 1) (As := []) (rest := []) B0 hw hS (c_X1_begin hl G f eo nw1 na1 nq1 nr1 mg1 ⟨_, _, _, _, _, _, _, _, _, _, k_eo, k_nq1, k_nr1, fhd1, ftl1, blp1⟩ hPx gw1 k_nw1 nd_nw1_nq1) mV_X1_begin qM_X4_64 rfl k_eo rfl rfl hl9.1 (Nat.le_of_ble_eq_true rfl) ⟨⟨Nat.le_of_ble_eq_true rfl, Nat.le_of_ble_eq_true rfl⟩, Nat.le_of_ble_eq_true rfl, Nat.le_of_ble_eq_true rfl⟩ dX4_open_24 (fun E ce q9 f79 H locs hPX hw hS hce hcv hcl => ?_) (fun v f79 H locs hP hw hS => ?_)
        · exact hPX.elim
        · obtain ⟨⟨r80, ev9⟩, h81, p82, k83⟩ := hP
          obtain ⟨st84, tm85, sr86, li87, lp88, mi89, cn90, gq91, hd92, tl93, h94, h95, h96, h97, h98, h99⟩ := h81
          subst ev9
          refine W.eq (g2 := F0 m 27 ls [.int r80]) rfl ?_
          have n100 : ez ≠ nr1 := hne k_ez k_nr1 (Nat.ne_of_beq_eq_false rfl)
          have n101 : ez ≠ nq1 := hne k_ez k_nq1 (Nat.ne_of_beq_eq_false rfl)
          have h102 : f79 ez = some (.inr (1, [.ref nw0, .ref na0, .ref nq0, .ref nr0, .int mg0, .int st0, .int tm0, .int sr0, .int li0, .int lp0, .int mi0])) := k83.1 _ _ k_ez (Nat.ne_of_beq_eq_false rfl) (ninc nd_ez_eo (ninc n101 (ninc n100 nin0)))
          have n103 : nq0 ≠ nr1 := hne k_nq0 k_nr1 (Nat.ne_of_beq_eq_false rfl)
          have n104 : nq0 ≠ eo := hne k_nq0 k_eo (Nat.ne_of_beq_eq_false rfl)
          have h105 : f79 nq0 = some (.inl (cI G, 6, .inl gq0)) := k83.1 _ _ k_nq0 (Nat.ne_of_beq_eq_false rfl) (ninc n104 (ninc nd_nq0_nq1 (ninc n103 nin0)))
          have n106 : nr0 ≠ nq1 := hne k_nr0 k_nq1 (Nat.ne_of_beq_eq_false rfl)
          have n107 : nr0 ≠ eo := hne k_nr0 k_eo (Nat.ne_of_beq_eq_false rfl)
          have h108 : f79 nr0 = some (.inr (3, [hd0, tl0, .int cn0])) := k83.1 _ _ k_nr0 (Nat.ne_of_beq_eq_false rfl) (ninc n107 (ninc n106 (ninc nd_nr0_nr1 nin0)))
          have n109 : xo ≠ nr1 := hne k_xo k_nr1 (Nat.ne_of_beq_eq_false rfl)
          have n110 : xo ≠ nq1 := hne k_xo k_nq1 (Nat.ne_of_beq_eq_false rfl)
          have n111 : xo ≠ eo := hne k_xo k_eo (Nat.ne_of_beq_eq_false rfl)
          have h112 : f79 xo = some (.inr (4, [.ref ez, .ref eo, .ref bu])) := k83.1 _ _ k_xo (Nat.ne_of_beq_eq_false rfl) (ninc n111 (ninc n110 (ninc n109 nin0)))
          have n113 : nw0 ≠ nr1 := hne k_nw0 k_nr1 (Nat.ne_of_beq_eq_false rfl)
          have n114 : nw0 ≠ eo := hne k_nw0 k_eo (Nat.ne_of_beq_eq_false rfl)
          have h115 : f79 nw0 = some (.inl (cI G, 6, .inl gw0)) := k83.1 _ _ k_nw0 (Nat.ne_of_beq_eq_false rfl) (ninc n114 (ninc nd_nw0_nq1 (ninc n113 nin0)))
          have n116 : na0 ≠ nr1 := hne k_na0 k_nr1 (Nat.ne_of_beq_eq_false rfl)
          have n117 : na0 ≠ eo := hne k_na0 k_eo (Nat.ne_of_beq_eq_false rfl)
          have h118 : f79 na0 = some (.inl (cI G, 6, .inl ga0)) := k83.1 _ _ k_na0 (Nat.ne_of_beq_eq_false rfl) (ninc n117 (ninc nd_na0_nq1 (ninc n116 nin0)))
          have n119 : nw1 ≠ nr1 := hne k_nw1 k_nr1 (Nat.ne_of_beq_eq_false rfl)
          have n120 : nw1 ≠ eo := hne k_nw1 k_eo (Nat.ne_of_beq_eq_false rfl)
          have h121 : f79 nw1 = some (.inl (cI G, 6, .inl gw1)) := k83.1 _ _ k_nw1 (Nat.ne_of_beq_eq_false rfl) (ninc n120 (ninc nd_nw1_nq1 (ninc n119 nin0)))
          have n122 : na1 ≠ nr1 := hne k_na1 k_nr1 (Nat.ne_of_beq_eq_false rfl)
          have n123 : na1 ≠ eo := hne k_na1 k_eo (Nat.ne_of_beq_eq_false rfl)
          have h124 : f79 na1 = some (.inl (cI G, 6, .inl ga1)) := k83.1 _ _ k_na1 (Nat.ne_of_beq_eq_false rfl) (ninc n123 (ninc nd_na1_nq1 (ninc n122 nin0)))
          have n125 : bu ≠ nr1 := hne k_bu k_nr1 (Nat.ne_of_beq_eq_false rfl)
          have n126 : bu ≠ nq1 := hne k_bu k_nq1 (Nat.ne_of_beq_eq_false rfl)
          have n127 : bu ≠ eo := hne k_bu k_eo (Nat.ne_of_beq_eq_false rfl)
          have h128 : f79 bu = some (.inr (0, [.ref bs, .ref bp, .ref bh, .ref bf, .ref bl, .ref bg, .int (nI n), .int (nI cg), .int (nI x)])) := k83.1 _ _ k_bu (Nat.ne_of_beq_eq_false rfl) (ninc n127 (ninc n126 (ninc n125 nin0)))
          have n129 : bs ≠ nr1 := hne k_bs k_nr1 (Nat.ne_of_beq_eq_false rfl)
          have n130 : bs ≠ nq1 := hneL k_bs k_nq1 (Nat.ne_of_beq_eq_false rfl)
          have n131 : bs ≠ eo := hne k_bs k_eo (Nat.ne_of_beq_eq_false rfl)
          have h132 : f79 bs = some (.inl (cI G, 61, .inl (nf sa))) := k83.1 _ _ k_bs (Nat.ne_of_beq_eq_false rfl) (ninc n131 (ninc n130 (ninc n129 nin0)))
          have n133 : bp ≠ nr1 := hne k_bp k_nr1 (Nat.ne_of_beq_eq_false rfl)
          have n134 : bp ≠ nq1 := hneL k_bp k_nq1 (Nat.ne_of_beq_eq_false rfl)
          have n135 : bp ≠ eo := hne k_bp k_eo (Nat.ne_of_beq_eq_false rfl)
          have h136 : f79 bp = some (.inl (cI G, 240, .inl (nf pk))) := k83.1 _ _ k_bp (Nat.ne_of_beq_eq_false rfl) (ninc n135 (ninc n134 (ninc n133 nin0)))
          have n137 : bh ≠ nr1 := hne k_bh k_nr1 (Nat.ne_of_beq_eq_false rfl)
          have n138 : bh ≠ nq1 := hneL k_bh k_nq1 (Nat.ne_of_beq_eq_false rfl)
          have n139 : bh ≠ eo := hne k_bh k_eo (Nat.ne_of_beq_eq_false rfl)
          have h140 : f79 bh = some (.inl (cZ G, 240, .inl gh)) := k83.1 _ _ k_bh (Nat.ne_of_beq_eq_false rfl) (ninc n139 (ninc n138 (ninc n137 nin0)))
          have n141 : bf ≠ nr1 := hne k_bf k_nr1 (Nat.ne_of_beq_eq_false rfl)
          have n142 : bf ≠ nq1 := hneL k_bf k_nq1 (Nat.ne_of_beq_eq_false rfl)
          have n143 : bf ≠ eo := hne k_bf k_eo (Nat.ne_of_beq_eq_false rfl)
          have h144 : f79 bf = some (.inl (cI G, 3, .inl (nf fl))) := k83.1 _ _ k_bf (Nat.ne_of_beq_eq_false rfl) (ninc n143 (ninc n142 (ninc n141 nin0)))
          have n145 : bl ≠ nr1 := hne k_bl k_nr1 (Nat.ne_of_beq_eq_false rfl)
          have n146 : bl ≠ nq1 := hneL k_bl k_nq1 (Nat.ne_of_beq_eq_false rfl)
          have n147 : bl ≠ eo := hne k_bl k_eo (Nat.ne_of_beq_eq_false rfl)
          have h148 : f79 bl = some (.inl (cI G, 3, .inl gl)) := k83.1 _ _ k_bl (Nat.ne_of_beq_eq_false rfl) (ninc n147 (ninc n146 (ninc n145 nin0)))
          have n149 : bg ≠ nr1 := hne k_bg k_nr1 (Nat.ne_of_beq_eq_false rfl)
          have n150 : bg ≠ nq1 := hneL k_bg k_nq1 (Nat.ne_of_beq_eq_false rfl)
          have n151 : bg ≠ eo := hne k_bg k_eo (Nat.ne_of_beq_eq_false rfl)
          have h152 : f79 bg = some (.inl (cI G, 60, .inl (nf gv))) := k83.1 _ _ k_bg (Nat.ne_of_beq_eq_false rfl) (ninc n151 (ninc n150 (ninc n149 nin0)))
          exact hp_iret (v := r80) B0 hw hS hr ⟨Nat.le_of_ble_eq_true rfl, Nat.le_of_ble_eq_true rfl⟩ dX4_open_27 (⟨⟨_, rfl⟩, ⟨h112, ⟨_, _, _, _, _, _, _, _, _, _, h102, h105, h108, (fhd0.kp (show hKp [xo, ez, eo, bu, nw0, na0, nq0, nr0, nw1, na1, nq1, nr1, bs, bp, bh, bf, bl, bg] f f79 from (k83.mono (fun x9 hx9 => by simp only [List.mem_cons, List.not_mem_nil, or_false] at hx9; rcases hx9 with hx9 | hx9 | hx9 <;> (rw [hx9]; simp))))), (ftl0.kp (show hKp [xo, ez, eo, bu, nw0, na0, nq0, nr0, nw1, na1, nq1, nr1, bs, bp, bh, bf, bl, bg] f f79 from (k83.mono (fun x9 hx9 => by simp only [List.mem_cons, List.not_mem_nil, or_false] at hx9; rcases hx9 with hx9 | hx9 | hx9 <;> (rw [hx9]; simp))))), blp0⟩, ⟨_, _, _, _, _, _, _, _, _, _, h94, h95, h96, h97, h98, h99⟩, h115, h118, h121, h124, h128, h132, h136, h140, h144, h148, h152, p82, hB9, hfl9, nd_ez_eo, nd_nr0_nr1, nd_nw0_na0, nd_nw0_nq0, nd_nw0_nw1, nd_nw0_na1, nd_nw0_nq1, nd_na0_nq0, nd_na0_nw1, nd_na0_na1, nd_na0_nq1, nd_nq0_nw1, nd_nq0_na1, nd_nq0_nq1, nd_nw1_na1, nd_nw1_nq1, nd_na1_nq1, nd_bh_bp, nd_bf_bl⟩, (show hKp [xo, ez, eo, bu, nw0, na0, nq0, nr0, nw1, na1, nq1, nr1, bs, bp, bh, bf, bl, bg] f f79 from (k83.mono (fun x9 hx9 => by simp only [List.mem_cons, List.not_mem_nil, or_false] at hx9; rcases hx9 with hx9 | hx9 | hx9 <;> (rw [hx9]; simp))))⟩)
      · exact hp_throw (cls := eS) (names := tNm) B0 hw hS hout tF_eS qC_X4_59 qN_java_lang_IllegalStateException sR_X4_61 tA_eS tB_eS tG_eS hl9.1 dX4_open_13 dX4_open_16 dX4_open_17 dX4_open_19 dX4_open_22 ⟨⟨Nat.le_of_ble_eq_true rfl, Nat.le_of_ble_eq_true rfl⟩, Nat.le_of_ble_eq_true rfl, Nat.le_of_ble_eq_true rfl⟩ ⟨Nat.le_of_ble_eq_true rfl, Nat.le_of_ble_eq_true rfl⟩ (⟨(Or.inr rfl), ⟨k_xo, ⟨_, _, _, _, _, _, _, _, _, _, k_ez, k_nq0, k_nr0, fhd0, ftl0, blp0⟩, ⟨_, _, _, _, _, _, _, _, _, _, k_eo, k_nq1, k_nr1, fhd1, ftl1, blp1⟩, k_nw0, k_na0, k_nw1, k_na1, k_bu, k_bs, k_bp, k_bh, k_bf, k_bl, k_bg, hPx, hB9, hfl9, nd_ez_eo, nd_nr0_nr1, nd_nw0_na0, nd_nw0_nq0, nd_nw0_nw1, nd_nw0_na1, nd_nw0_nq1, nd_na0_nq0, nd_na0_nw1, nd_na0_na1, nd_na0_nq1, nd_nq0_nw1, nd_nq0_na1, nd_nq0_nq1, nd_nw1_na1, nd_nw1_nq1, nd_na1_nq1, nd_bh_bp, nd_bf_bl⟩, hKp.rf⟩)

set_option maxHeartbeats 4000000 in
set_option maxRecDepth 100000 in
theorem c_X4_close {l : Launch} (hl : l.stackTraces = false) (G : hG) (f : hM) (xo ez eo bu nw0 na0 nq0 nr0 nw1 na1 nq1 nr1 bs bp bh bf bl bg : Nat) (gw0 : Nat → Int32) (ga0 : Nat → Int32) (gw1 : Nat → Int32) (ga1 : Nat → Int32) (mg0 : Int32) (mg1 : Int32) (n : Nat) (a : Nat) (cg : Nat) (x : Nat) (sa : Nat → Nat) (pk : Nat → Nat) (fl : Nat → Nat) (gv : Nat → Nat) (gh : Nat → Int32) (gl : Nat → Int32) (hC : CW G f xo ez eo bu nw0 na0 nq0 nr0 nw1 na1 nq1 nr1 bs bp bh bf bl bg gw0 ga0 gw1 ga1 mg0 mg1 n a cg x sa pk fl gv gh gl) (i : Int32) : CT l yX4_close (.code yX4_close cX4_close 3 (some .int)) 7 103 3 17 G [.ref xo, .int i] f (fun v f1 => (∃ r9 : Int32, v = some (.int r9)) ∧ CW G f1 xo ez eo bu nw0 na0 nq0 nr0 nw1 na1 nq1 nr1 bs bp bh bf bl bg gw0 ga0 gw1 ga1 mg0 mg1 n a cg x sa pk fl gv gh gl ∧ hKp [xo, ez, eo, bu, nw0, na0, nq0, nr0, nw1, na1, nq1, nr1, bs, bp, bh, bf, bl, bg] f f1) (fun E f1 => (E = eI ∨ E = eS) ∧ CW G f1 xo ez eo bu nw0 na0 nq0 nr0 nw1 na1 nq1 nr1 bs bp bh bf bl bg gw0 ga0 gw1 ga1 mg0 mg1 n a cg x sa pk fl gv gh gl ∧ hKp [xo, ez, eo, bu, nw0, na0, nq0, nr0, nw1, na1, nq1, nr1, bs, bp, bh, bf, bl, bg] f f1) := by
  refine hp_start hl (own := RX4) (by decide) rfl (Nat.le_of_ble_eq_true rfl) ?_
  intro p e s m args below meth c B0 hr hnm hout hw hS ls hl9
  have hx := B0.1
  have hb := B0.2.1
  have hl9 : lv_has ls 3 [(0, .ref xo), (1, .int i)] := hl9
  obtain ⟨k_xo, ⟨st0, tm0, sr0, li0, lp0, mi0, cn0, gq0, hd0, tl0, k_ez, k_nq0, k_nr0, fhd0, ftl0, blp0⟩, ⟨st1, tm1, sr1, li1, lp1, mi1, cn1, gq1, hd1, tl1, k_eo, k_nq1, k_nr1, fhd1, ftl1, blp1⟩, k_nw0, k_na0, k_nw1, k_na1, k_bu, k_bs, k_bp, k_bh, k_bf, k_bl, k_bg, hPx, hB9, hfl9, nd_ez_eo, nd_nr0_nr1, nd_nw0_na0, nd_nw0_nq0, nd_nw0_nw1, nd_nw0_na1, nd_nw0_nq1, nd_na0_nq0, nd_na0_nw1, nd_na0_na1, nd_na0_nq1, nd_nq0_nw1, nd_nq0_na1, nd_nq0_nq1, nd_nw1_na1, nd_nw1_nq1, nd_na1_nq1, nd_bh_bp, nd_bf_bl⟩ := hC
  refine lv_aload_n hx hb dX4_close_0 rfl (lv_at hl9 0 rfl) ?_
  refine lv_iload_n hx hb dX4_close_1 rfl (lv_at hl9 1 rfl) ?_
  refine hp_V (ci := 4) (As := [.int i]) (rest := []) B0 hw hS (c_X4_endAt hl G f xo ez eo bu k_xo i) mV_X4_endAt qM_X4_28 rfl k_xo rfl rfl hl9.1 (Nat.le_of_ble_eq_true rfl) ⟨⟨Nat.le_of_ble_eq_true rfl, Nat.le_of_ble_eq_true rfl⟩, Nat.le_of_ble_eq_true rfl, Nat.le_of_ble_eq_true rfl⟩ dX4_close_2 (fun E ce q9 f1 H locs hPX hw hS hce hcv hcl => ?_) (fun v f1 H locs hP hw hS => ?_)
  · obtain ⟨ef9, eE9, hE9⟩ := hPX
    rw [ef9] at hw
    subst eE9
    exact hp_out B0 hw hS hout hce hcv hcl ⟨Nat.le_of_ble_eq_true rfl, Nat.le_of_ble_eq_true rfl⟩ (⟨(Or.inl rfl), ⟨k_xo, ⟨_, _, _, _, _, _, _, _, _, _, k_ez, k_nq0, k_nr0, fhd0, ftl0, blp0⟩, ⟨_, _, _, _, _, _, _, _, _, _, k_eo, k_nq1, k_nr1, fhd1, ftl1, blp1⟩, k_nw0, k_na0, k_nw1, k_na1, k_bu, k_bs, k_bp, k_bh, k_bf, k_bl, k_bg, hPx, hB9, hfl9, nd_ez_eo, nd_nr0_nr1, nd_nw0_na0, nd_nw0_nq0, nd_nw0_nw1, nd_nw0_na1, nd_nw0_nq1, nd_na0_nq0, nd_na0_nw1, nd_na0_na1, nd_na0_nq1, nd_nq0_nw1, nd_nq0_na1, nd_nq0_nq1, nd_nw1_na1, nd_nw1_nq1, nd_na1_nq1, nd_bh_bp, nd_bf_bl⟩, hKp.rf⟩)
  · obtain ⟨ef9, hv9⟩ := hP
    rw [ef9] at hw
    rcases hv9 with ⟨k2, ev9⟩ | ⟨k2, ev9⟩
    · subst ev9
      refine W.eq (g2 := F0 m 5 ls [.ref ez]) rfl ?_
      refine lv_astore_n (lv' := [(2, .ref ez), (0, .ref xo), (1, .int i)]) hx hb dX4_close_5 rfl hl9 (by decide) rfl (fun ls hl9 => ?_)
      refine lv_aload_n hx hb dX4_close_6 rfl (lv_at hl9 0 rfl) ?_
      refine hp_getN B0 hw 1 rfl in_X1 k_ez 5 (by decide) oF_X4_55 rfl dX4_close_7 ?_
      refine lv_if_ne (tgt := 23) hx hb dX4_close_10 (by decide) (fun c3 => ?_) (fun c3 => ?_)
      · refine lv_aload_n hx hb dX4_close_23 rfl (lv_at hl9 0 rfl) ?_
        refine hp_V (ci := 1) (As := []) (rest := []) B0 hw hS (c_X1_finish hl G f ez nw0 na0 nq0 nr0 mg0 ⟨_, _, _, _, _, _, _, _, _, _, k_ez, k_nq0, k_nr0, fhd0, ftl0, blp0⟩ hPx ) mV_X1_finish qM_X4_70 rfl k_ez rfl rfl hl9.1 (Nat.le_of_ble_eq_true rfl) ⟨⟨Nat.le_of_ble_eq_true rfl, Nat.le_of_ble_eq_true rfl⟩, Nat.le_of_ble_eq_true rfl, Nat.le_of_ble_eq_true rfl⟩ dX4_close_24 (fun E ce q9 f4 H locs hPX hw hS hce hcv hcl => ?_) (fun v f4 H locs hP hw hS => ?_)
        · exact hPX.elim
        · obtain ⟨⟨r5, ev9⟩, h6, p7, k8⟩ := hP
          obtain ⟨st9, tm10, sr11, li12, lp13, mi14, cn15, gq16, hd17, tl18, h19, h20, h21, h22, h23, h24⟩ := h6
          subst ev9
          refine W.eq (g2 := F0 m 27 ls [.int r5]) rfl ?_
          have n25 : eo ≠ nr0 := hne k_eo k_nr0 (Nat.ne_of_beq_eq_false rfl)
          have n26 : eo ≠ nq0 := hne k_eo k_nq0 (Nat.ne_of_beq_eq_false rfl)
          have h27 : f4 eo = some (.inr (1, [.ref nw1, .ref na1, .ref nq1, .ref nr1, .int mg1, .int st1, .int tm1, .int sr1, .int li1, .int lp1, .int mi1])) := k8.1 _ _ k_eo (Nat.ne_of_beq_eq_false rfl) (ninc (Ne.symm nd_ez_eo) (ninc n26 (ninc n25 nin0)))
          have n28 : nq1 ≠ nr0 := hne k_nq1 k_nr0 (Nat.ne_of_beq_eq_false rfl)
          have n29 : nq1 ≠ ez := hne k_nq1 k_ez (Nat.ne_of_beq_eq_false rfl)
          have h30 : f4 nq1 = some (.inl (cI G, 6, .inl gq1)) := k8.1 _ _ k_nq1 (Nat.ne_of_beq_eq_false rfl) (ninc n29 (ninc (Ne.symm nd_nq0_nq1) (ninc n28 nin0)))
          have n31 : nr1 ≠ nq0 := hne k_nr1 k_nq0 (Nat.ne_of_beq_eq_false rfl)
          have n32 : nr1 ≠ ez := hne k_nr1 k_ez (Nat.ne_of_beq_eq_false rfl)
          have h33 : f4 nr1 = some (.inr (3, [hd1, tl1, .int cn1])) := k8.1 _ _ k_nr1 (Nat.ne_of_beq_eq_false rfl) (ninc n32 (ninc n31 (ninc (Ne.symm nd_nr0_nr1) nin0)))
          have n34 : xo ≠ nr0 := hne k_xo k_nr0 (Nat.ne_of_beq_eq_false rfl)
          have n35 : xo ≠ nq0 := hne k_xo k_nq0 (Nat.ne_of_beq_eq_false rfl)
          have n36 : xo ≠ ez := hne k_xo k_ez (Nat.ne_of_beq_eq_false rfl)
          have h37 : f4 xo = some (.inr (4, [.ref ez, .ref eo, .ref bu])) := k8.1 _ _ k_xo (Nat.ne_of_beq_eq_false rfl) (ninc n36 (ninc n35 (ninc n34 nin0)))
          have n38 : nw0 ≠ nr0 := hne k_nw0 k_nr0 (Nat.ne_of_beq_eq_false rfl)
          have n39 : nw0 ≠ ez := hne k_nw0 k_ez (Nat.ne_of_beq_eq_false rfl)
          have h40 : f4 nw0 = some (.inl (cI G, 6, .inl gw0)) := k8.1 _ _ k_nw0 (Nat.ne_of_beq_eq_false rfl) (ninc n39 (ninc nd_nw0_nq0 (ninc n38 nin0)))
          have n41 : na0 ≠ nr0 := hne k_na0 k_nr0 (Nat.ne_of_beq_eq_false rfl)
          have n42 : na0 ≠ ez := hne k_na0 k_ez (Nat.ne_of_beq_eq_false rfl)
          have h43 : f4 na0 = some (.inl (cI G, 6, .inl ga0)) := k8.1 _ _ k_na0 (Nat.ne_of_beq_eq_false rfl) (ninc n42 (ninc nd_na0_nq0 (ninc n41 nin0)))
          have n44 : nw1 ≠ nr0 := hne k_nw1 k_nr0 (Nat.ne_of_beq_eq_false rfl)
          have n45 : nw1 ≠ ez := hne k_nw1 k_ez (Nat.ne_of_beq_eq_false rfl)
          have h46 : f4 nw1 = some (.inl (cI G, 6, .inl gw1)) := k8.1 _ _ k_nw1 (Nat.ne_of_beq_eq_false rfl) (ninc n45 (ninc (Ne.symm nd_nq0_nw1) (ninc n44 nin0)))
          have n47 : na1 ≠ nr0 := hne k_na1 k_nr0 (Nat.ne_of_beq_eq_false rfl)
          have n48 : na1 ≠ ez := hne k_na1 k_ez (Nat.ne_of_beq_eq_false rfl)
          have h49 : f4 na1 = some (.inl (cI G, 6, .inl ga1)) := k8.1 _ _ k_na1 (Nat.ne_of_beq_eq_false rfl) (ninc n48 (ninc (Ne.symm nd_nq0_na1) (ninc n47 nin0)))
          have n50 : bu ≠ nr0 := hne k_bu k_nr0 (Nat.ne_of_beq_eq_false rfl)
          have n51 : bu ≠ nq0 := hne k_bu k_nq0 (Nat.ne_of_beq_eq_false rfl)
          have n52 : bu ≠ ez := hne k_bu k_ez (Nat.ne_of_beq_eq_false rfl)
          have h53 : f4 bu = some (.inr (0, [.ref bs, .ref bp, .ref bh, .ref bf, .ref bl, .ref bg, .int (nI n), .int (nI cg), .int (nI x)])) := k8.1 _ _ k_bu (Nat.ne_of_beq_eq_false rfl) (ninc n52 (ninc n51 (ninc n50 nin0)))
          have n54 : bs ≠ nr0 := hne k_bs k_nr0 (Nat.ne_of_beq_eq_false rfl)
          have n55 : bs ≠ nq0 := hneL k_bs k_nq0 (Nat.ne_of_beq_eq_false rfl)
          have n56 : bs ≠ ez := hne k_bs k_ez (Nat.ne_of_beq_eq_false rfl)
          have h57 : f4 bs = some (.inl (cI G, 61, .inl (nf sa))) := k8.1 _ _ k_bs (Nat.ne_of_beq_eq_false rfl) (ninc n56 (ninc n55 (ninc n54 nin0)))
          have n58 : bp ≠ nr0 := hne k_bp k_nr0 (Nat.ne_of_beq_eq_false rfl)
          have n59 : bp ≠ nq0 := hneL k_bp k_nq0 (Nat.ne_of_beq_eq_false rfl)
          have n60 : bp ≠ ez := hne k_bp k_ez (Nat.ne_of_beq_eq_false rfl)
          have h61 : f4 bp = some (.inl (cI G, 240, .inl (nf pk))) := k8.1 _ _ k_bp (Nat.ne_of_beq_eq_false rfl) (ninc n60 (ninc n59 (ninc n58 nin0)))
          have n62 : bh ≠ nr0 := hne k_bh k_nr0 (Nat.ne_of_beq_eq_false rfl)
          have n63 : bh ≠ nq0 := hneL k_bh k_nq0 (Nat.ne_of_beq_eq_false rfl)
          have n64 : bh ≠ ez := hne k_bh k_ez (Nat.ne_of_beq_eq_false rfl)
          have h65 : f4 bh = some (.inl (cZ G, 240, .inl gh)) := k8.1 _ _ k_bh (Nat.ne_of_beq_eq_false rfl) (ninc n64 (ninc n63 (ninc n62 nin0)))
          have n66 : bf ≠ nr0 := hne k_bf k_nr0 (Nat.ne_of_beq_eq_false rfl)
          have n67 : bf ≠ nq0 := hneL k_bf k_nq0 (Nat.ne_of_beq_eq_false rfl)
          have n68 : bf ≠ ez := hne k_bf k_ez (Nat.ne_of_beq_eq_false rfl)
          have h69 : f4 bf = some (.inl (cI G, 3, .inl (nf fl))) := k8.1 _ _ k_bf (Nat.ne_of_beq_eq_false rfl) (ninc n68 (ninc n67 (ninc n66 nin0)))
          have n70 : bl ≠ nr0 := hne k_bl k_nr0 (Nat.ne_of_beq_eq_false rfl)
          have n71 : bl ≠ nq0 := hneL k_bl k_nq0 (Nat.ne_of_beq_eq_false rfl)
          have n72 : bl ≠ ez := hne k_bl k_ez (Nat.ne_of_beq_eq_false rfl)
          have h73 : f4 bl = some (.inl (cI G, 3, .inl gl)) := k8.1 _ _ k_bl (Nat.ne_of_beq_eq_false rfl) (ninc n72 (ninc n71 (ninc n70 nin0)))
          have n74 : bg ≠ nr0 := hne k_bg k_nr0 (Nat.ne_of_beq_eq_false rfl)
          have n75 : bg ≠ nq0 := hneL k_bg k_nq0 (Nat.ne_of_beq_eq_false rfl)
          have n76 : bg ≠ ez := hne k_bg k_ez (Nat.ne_of_beq_eq_false rfl)
          have h77 : f4 bg = some (.inl (cI G, 60, .inl (nf gv))) := k8.1 _ _ k_bg (Nat.ne_of_beq_eq_false rfl) (ninc n76 (ninc n75 (ninc n74 nin0)))
          exact hp_iret (v := r5) B0 hw hS hr ⟨Nat.le_of_ble_eq_true rfl, Nat.le_of_ble_eq_true rfl⟩ dX4_close_27 (⟨⟨_, rfl⟩, ⟨h37, ⟨_, _, _, _, _, _, _, _, _, _, h19, h20, h21, h22, h23, h24⟩, ⟨_, _, _, _, _, _, _, _, _, _, h27, h30, h33, (fhd1.kp (show hKp [xo, ez, eo, bu, nw0, na0, nq0, nr0, nw1, na1, nq1, nr1, bs, bp, bh, bf, bl, bg] f f4 from (k8.mono (fun x9 hx9 => by simp only [List.mem_cons, List.not_mem_nil, or_false] at hx9; rcases hx9 with hx9 | hx9 | hx9 <;> (rw [hx9]; simp))))), (ftl1.kp (show hKp [xo, ez, eo, bu, nw0, na0, nq0, nr0, nw1, na1, nq1, nr1, bs, bp, bh, bf, bl, bg] f f4 from (k8.mono (fun x9 hx9 => by simp only [List.mem_cons, List.not_mem_nil, or_false] at hx9; rcases hx9 with hx9 | hx9 | hx9 <;> (rw [hx9]; simp))))), blp1⟩, h40, h43, h46, h49, h53, h57, h61, h65, h69, h73, h77, p7, hB9, hfl9, nd_ez_eo, nd_nr0_nr1, nd_nw0_na0, nd_nw0_nq0, nd_nw0_nw1, nd_nw0_na1, nd_nw0_nq1, nd_na0_nq0, nd_na0_nw1, nd_na0_na1, nd_na0_nq1, nd_nq0_nw1, nd_nq0_na1, nd_nq0_nq1, nd_nw1_na1, nd_nw1_nq1, nd_na1_nq1, nd_bh_bp, nd_bf_bl⟩, (show hKp [xo, ez, eo, bu, nw0, na0, nq0, nr0, nw1, na1, nq1, nr1, bs, bp, bh, bf, bl, bg] f f4 from (k8.mono (fun x9 hx9 => by simp only [List.mem_cons, List.not_mem_nil, or_false] at hx9; rcases hx9 with hx9 | hx9 | hx9 <;> (rw [hx9]; simp))))⟩)
      · exact hp_throw (cls := eS) (names := tNm) B0 hw hS hout tF_eS qC_X4_59 qN_java_lang_IllegalStateException sR_X4_68 tA_eS tB_eS tG_eS hl9.1 dX4_close_13 dX4_close_16 dX4_close_17 dX4_close_19 dX4_close_22 ⟨⟨Nat.le_of_ble_eq_true rfl, Nat.le_of_ble_eq_true rfl⟩, Nat.le_of_ble_eq_true rfl, Nat.le_of_ble_eq_true rfl⟩ ⟨Nat.le_of_ble_eq_true rfl, Nat.le_of_ble_eq_true rfl⟩ (⟨(Or.inr rfl), ⟨k_xo, ⟨_, _, _, _, _, _, _, _, _, _, k_ez, k_nq0, k_nr0, fhd0, ftl0, blp0⟩, ⟨_, _, _, _, _, _, _, _, _, _, k_eo, k_nq1, k_nr1, fhd1, ftl1, blp1⟩, k_nw0, k_na0, k_nw1, k_na1, k_bu, k_bs, k_bp, k_bh, k_bf, k_bl, k_bg, hPx, hB9, hfl9, nd_ez_eo, nd_nr0_nr1, nd_nw0_na0, nd_nw0_nq0, nd_nw0_nw1, nd_nw0_na1, nd_nw0_nq1, nd_na0_nq0, nd_na0_nw1, nd_na0_na1, nd_na0_nq1, nd_nq0_nw1, nd_nq0_na1, nd_nq0_nq1, nd_nw1_na1, nd_nw1_nq1, nd_na1_nq1, nd_bh_bp, nd_bf_bl⟩, hKp.rf⟩)
    · subst ev9
      refine W.eq (g2 := F0 m 5 ls [.ref eo]) rfl ?_
      refine lv_astore_n (lv' := [(2, .ref eo), (0, .ref xo), (1, .int i)]) hx hb dX4_close_5 rfl hl9 (by decide) rfl (fun ls hl9 => ?_)
      refine lv_aload_n hx hb dX4_close_6 rfl (lv_at hl9 0 rfl) ?_
      refine hp_getN B0 hw 1 rfl in_X1 k_eo 5 (by decide) oF_X4_55 rfl dX4_close_7 ?_
      refine lv_if_ne (tgt := 23) hx hb dX4_close_10 (by decide) (fun c78 => ?_) (fun c78 => ?_)
      · refine lv_aload_n hx hb dX4_close_23 rfl (lv_at hl9 0 rfl) ?_
        refine hp_V (ci := 1) (As := []) (rest := []) B0 hw hS (c_X1_finish hl G f eo nw1 na1 nq1 nr1 mg1 ⟨_, _, _, _, _, _, _, _, _, _, k_eo, k_nq1, k_nr1, fhd1, ftl1, blp1⟩ hPx ) mV_X1_finish qM_X4_70 rfl k_eo rfl rfl hl9.1 (Nat.le_of_ble_eq_true rfl) ⟨⟨Nat.le_of_ble_eq_true rfl, Nat.le_of_ble_eq_true rfl⟩, Nat.le_of_ble_eq_true rfl, Nat.le_of_ble_eq_true rfl⟩ dX4_close_24 (fun E ce q9 f79 H locs hPX hw hS hce hcv hcl => ?_) (fun v f79 H locs hP hw hS => ?_)
        · exact hPX.elim
        · obtain ⟨⟨r80, ev9⟩, h81, p82, k83⟩ := hP
          obtain ⟨st84, tm85, sr86, li87, lp88, mi89, cn90, gq91, hd92, tl93, h94, h95, h96, h97, h98, h99⟩ := h81
          subst ev9
          refine W.eq (g2 := F0 m 27 ls [.int r80]) rfl ?_
          have n100 : ez ≠ nr1 := hne k_ez k_nr1 (Nat.ne_of_beq_eq_false rfl)
          have n101 : ez ≠ nq1 := hne k_ez k_nq1 (Nat.ne_of_beq_eq_false rfl)
          have h102 : f79 ez = some (.inr (1, [.ref nw0, .ref na0, .ref nq0, .ref nr0, .int mg0, .int st0, .int tm0, .int sr0, .int li0, .int lp0, .int mi0])) := k83.1 _ _ k_ez (Nat.ne_of_beq_eq_false rfl) (ninc nd_ez_eo (ninc n101 (ninc n100 nin0)))
          have n103 : nq0 ≠ nr1 := hne k_nq0 k_nr1 (Nat.ne_of_beq_eq_false rfl)
          have n104 : nq0 ≠ eo := hne k_nq0 k_eo (Nat.ne_of_beq_eq_false rfl)
          have h105 : f79 nq0 = some (.inl (cI G, 6, .inl gq0)) := k83.1 _ _ k_nq0 (Nat.ne_of_beq_eq_false rfl) (ninc n104 (ninc nd_nq0_nq1 (ninc n103 nin0)))
          have n106 : nr0 ≠ nq1 := hne k_nr0 k_nq1 (Nat.ne_of_beq_eq_false rfl)
          have n107 : nr0 ≠ eo := hne k_nr0 k_eo (Nat.ne_of_beq_eq_false rfl)
          have h108 : f79 nr0 = some (.inr (3, [hd0, tl0, .int cn0])) := k83.1 _ _ k_nr0 (Nat.ne_of_beq_eq_false rfl) (ninc n107 (ninc n106 (ninc nd_nr0_nr1 nin0)))
          have n109 : xo ≠ nr1 := hne k_xo k_nr1 (Nat.ne_of_beq_eq_false rfl)
          have n110 : xo ≠ nq1 := hne k_xo k_nq1 (Nat.ne_of_beq_eq_false rfl)
          have n111 : xo ≠ eo := hne k_xo k_eo (Nat.ne_of_beq_eq_false rfl)
          have h112 : f79 xo = some (.inr (4, [.ref ez, .ref eo, .ref bu])) := k83.1 _ _ k_xo (Nat.ne_of_beq_eq_false rfl) (ninc n111 (ninc n110 (ninc n109 nin0)))
          have n113 : nw0 ≠ nr1 := hne k_nw0 k_nr1 (Nat.ne_of_beq_eq_false rfl)
          have n114 : nw0 ≠ eo := hne k_nw0 k_eo (Nat.ne_of_beq_eq_false rfl)
          have h115 : f79 nw0 = some (.inl (cI G, 6, .inl gw0)) := k83.1 _ _ k_nw0 (Nat.ne_of_beq_eq_false rfl) (ninc n114 (ninc nd_nw0_nq1 (ninc n113 nin0)))
          have n116 : na0 ≠ nr1 := hne k_na0 k_nr1 (Nat.ne_of_beq_eq_false rfl)
          have n117 : na0 ≠ eo := hne k_na0 k_eo (Nat.ne_of_beq_eq_false rfl)
          have h118 : f79 na0 = some (.inl (cI G, 6, .inl ga0)) := k83.1 _ _ k_na0 (Nat.ne_of_beq_eq_false rfl) (ninc n117 (ninc nd_na0_nq1 (ninc n116 nin0)))
          have n119 : nw1 ≠ nr1 := hne k_nw1 k_nr1 (Nat.ne_of_beq_eq_false rfl)
          have n120 : nw1 ≠ eo := hne k_nw1 k_eo (Nat.ne_of_beq_eq_false rfl)
          have h121 : f79 nw1 = some (.inl (cI G, 6, .inl gw1)) := k83.1 _ _ k_nw1 (Nat.ne_of_beq_eq_false rfl) (ninc n120 (ninc nd_nw1_nq1 (ninc n119 nin0)))
          have n122 : na1 ≠ nr1 := hne k_na1 k_nr1 (Nat.ne_of_beq_eq_false rfl)
          have n123 : na1 ≠ eo := hne k_na1 k_eo (Nat.ne_of_beq_eq_false rfl)
          have h124 : f79 na1 = some (.inl (cI G, 6, .inl ga1)) := k83.1 _ _ k_na1 (Nat.ne_of_beq_eq_false rfl) (ninc n123 (ninc nd_na1_nq1 (ninc n122 nin0)))
          have n125 : bu ≠ nr1 := hne k_bu k_nr1 (Nat.ne_of_beq_eq_false rfl)
          have n126 : bu ≠ nq1 := hne k_bu k_nq1 (Nat.ne_of_beq_eq_false rfl)
          have n127 : bu ≠ eo := hne k_bu k_eo (Nat.ne_of_beq_eq_false rfl)
          have h128 : f79 bu = some (.inr (0, [.ref bs, .ref bp, .ref bh, .ref bf, .ref bl, .ref bg, .int (nI n), .int (nI cg), .int (nI x)])) := k83.1 _ _ k_bu (Nat.ne_of_beq_eq_false rfl) (ninc n127 (ninc n126 (ninc n125 nin0)))
          have n129 : bs ≠ nr1 := hne k_bs k_nr1 (Nat.ne_of_beq_eq_false rfl)
          have n130 : bs ≠ nq1 := hneL k_bs k_nq1 (Nat.ne_of_beq_eq_false rfl)
          have n131 : bs ≠ eo := hne k_bs k_eo (Nat.ne_of_beq_eq_false rfl)
          have h132 : f79 bs = some (.inl (cI G, 61, .inl (nf sa))) := k83.1 _ _ k_bs (Nat.ne_of_beq_eq_false rfl) (ninc n131 (ninc n130 (ninc n129 nin0)))
          have n133 : bp ≠ nr1 := hne k_bp k_nr1 (Nat.ne_of_beq_eq_false rfl)
          have n134 : bp ≠ nq1 := hneL k_bp k_nq1 (Nat.ne_of_beq_eq_false rfl)
          have n135 : bp ≠ eo := hne k_bp k_eo (Nat.ne_of_beq_eq_false rfl)
          have h136 : f79 bp = some (.inl (cI G, 240, .inl (nf pk))) := k83.1 _ _ k_bp (Nat.ne_of_beq_eq_false rfl) (ninc n135 (ninc n134 (ninc n133 nin0)))
          have n137 : bh ≠ nr1 := hne k_bh k_nr1 (Nat.ne_of_beq_eq_false rfl)
          have n138 : bh ≠ nq1 := hneL k_bh k_nq1 (Nat.ne_of_beq_eq_false rfl)
          have n139 : bh ≠ eo := hne k_bh k_eo (Nat.ne_of_beq_eq_false rfl)
          have h140 : f79 bh = some (.inl (cZ G, 240, .inl gh)) := k83.1 _ _ k_bh (Nat.ne_of_beq_eq_false rfl) (ninc n139 (ninc n138 (ninc n137 nin0)))
          have n141 : bf ≠ nr1 := hne k_bf k_nr1 (Nat.ne_of_beq_eq_false rfl)
          have n142 : bf ≠ nq1 := hneL k_bf k_nq1 (Nat.ne_of_beq_eq_false rfl)
          have n143 : bf ≠ eo := hne k_bf k_eo (Nat.ne_of_beq_eq_false rfl)
          have h144 : f79 bf = some (.inl (cI G, 3, .inl (nf fl))) := k83.1 _ _ k_bf (Nat.ne_of_beq_eq_false rfl) (ninc n143 (ninc n142 (ninc n141 nin0)))
          have n145 : bl ≠ nr1 := hne k_bl k_nr1 (Nat.ne_of_beq_eq_false rfl)
          have n146 : bl ≠ nq1 := hneL k_bl k_nq1 (Nat.ne_of_beq_eq_false rfl)
          have n147 : bl ≠ eo := hne k_bl k_eo (Nat.ne_of_beq_eq_false rfl)
          have h148 : f79 bl = some (.inl (cI G, 3, .inl gl)) := k83.1 _ _ k_bl (Nat.ne_of_beq_eq_false rfl) (ninc n147 (ninc n146 (ninc n145 nin0)))
          have n149 : bg ≠ nr1 := hne k_bg k_nr1 (Nat.ne_of_beq_eq_false rfl)
          have n150 : bg ≠ nq1 := hneL k_bg k_nq1 (Nat.ne_of_beq_eq_false rfl)
          have n151 : bg ≠ eo := hne k_bg k_eo (Nat.ne_of_beq_eq_false rfl)
          have h152 : f79 bg = some (.inl (cI G, 60, .inl (nf gv))) := k83.1 _ _ k_bg (Nat.ne_of_beq_eq_false rfl) (ninc n151 (ninc n150 (ninc n149 nin0)))
          exact hp_iret (v := r80) B0 hw hS hr ⟨Nat.le_of_ble_eq_true rfl, Nat.le_of_ble_eq_true rfl⟩ dX4_close_27 (⟨⟨_, rfl⟩, ⟨h112, ⟨_, _, _, _, _, _, _, _, _, _, h102, h105, h108, (fhd0.kp (show hKp [xo, ez, eo, bu, nw0, na0, nq0, nr0, nw1, na1, nq1, nr1, bs, bp, bh, bf, bl, bg] f f79 from (k83.mono (fun x9 hx9 => by simp only [List.mem_cons, List.not_mem_nil, or_false] at hx9; rcases hx9 with hx9 | hx9 | hx9 <;> (rw [hx9]; simp))))), (ftl0.kp (show hKp [xo, ez, eo, bu, nw0, na0, nq0, nr0, nw1, na1, nq1, nr1, bs, bp, bh, bf, bl, bg] f f79 from (k83.mono (fun x9 hx9 => by simp only [List.mem_cons, List.not_mem_nil, or_false] at hx9; rcases hx9 with hx9 | hx9 | hx9 <;> (rw [hx9]; simp))))), blp0⟩, ⟨_, _, _, _, _, _, _, _, _, _, h94, h95, h96, h97, h98, h99⟩, h115, h118, h121, h124, h128, h132, h136, h140, h144, h148, h152, p82, hB9, hfl9, nd_ez_eo, nd_nr0_nr1, nd_nw0_na0, nd_nw0_nq0, nd_nw0_nw1, nd_nw0_na1, nd_nw0_nq1, nd_na0_nq0, nd_na0_nw1, nd_na0_na1, nd_na0_nq1, nd_nq0_nw1, nd_nq0_na1, nd_nq0_nq1, nd_nw1_na1, nd_nw1_nq1, nd_na1_nq1, nd_bh_bp, nd_bf_bl⟩, (show hKp [xo, ez, eo, bu, nw0, na0, nq0, nr0, nw1, na1, nq1, nr1, bs, bp, bh, bf, bl, bg] f f79 from (k83.mono (fun x9 hx9 => by simp only [List.mem_cons, List.not_mem_nil, or_false] at hx9; rcases hx9 with hx9 | hx9 | hx9 <;> (rw [hx9]; simp))))⟩)
      · exact hp_throw (cls := eS) (names := tNm) B0 hw hS hout tF_eS qC_X4_59 qN_java_lang_IllegalStateException sR_X4_68 tA_eS tB_eS tG_eS hl9.1 dX4_close_13 dX4_close_16 dX4_close_17 dX4_close_19 dX4_close_22 ⟨⟨Nat.le_of_ble_eq_true rfl, Nat.le_of_ble_eq_true rfl⟩, Nat.le_of_ble_eq_true rfl, Nat.le_of_ble_eq_true rfl⟩ ⟨Nat.le_of_ble_eq_true rfl, Nat.le_of_ble_eq_true rfl⟩ (⟨(Or.inr rfl), ⟨k_xo, ⟨_, _, _, _, _, _, _, _, _, _, k_ez, k_nq0, k_nr0, fhd0, ftl0, blp0⟩, ⟨_, _, _, _, _, _, _, _, _, _, k_eo, k_nq1, k_nr1, fhd1, ftl1, blp1⟩, k_nw0, k_na0, k_nw1, k_na1, k_bu, k_bs, k_bp, k_bh, k_bf, k_bl, k_bg, hPx, hB9, hfl9, nd_ez_eo, nd_nr0_nr1, nd_nw0_na0, nd_nw0_nq0, nd_nw0_nw1, nd_nw0_na1, nd_nw0_nq1, nd_na0_nq0, nd_na0_nw1, nd_na0_na1, nd_na0_nq1, nd_nq0_nw1, nd_nq0_na1, nd_nq0_nq1, nd_nw1_na1, nd_nw1_nq1, nd_na1_nq1, nd_bh_bp, nd_bf_bl⟩, hKp.rf⟩)

set_option maxHeartbeats 4000000 in
set_option maxRecDepth 100000 in
theorem c_X4_deliver {l : Launch} (hl : l.stackTraces = false) (G : hG) (f : hM) (xo ez eo bu nw0 na0 nq0 nr0 nw1 na1 nq1 nr1 bs bp bh bf bl bg : Nat) (gw0 : Nat → Int32) (ga0 : Nat → Int32) (gw1 : Nat → Int32) (ga1 : Nat → Int32) (mg0 : Int32) (mg1 : Int32) (n : Nat) (a : Nat) (cg : Nat) (x : Nat) (sa : Nat → Nat) (pk : Nat → Nat) (fl : Nat → Nat) (gv : Nat → Nat) (gh : Nat → Int32) (gl : Nat → Int32) (hC : CW G f xo ez eo bu nw0 na0 nq0 nr0 nw1 na1 nq1 nr1 bs bp bh bf bl bg gw0 ga0 gw1 ga1 mg0 mg1 n a cg x sa pk fl gv gh gl) (i : Int32) : CT l yX4_deliver (.code yX4_deliver cX4_deliver 3 (some .int)) 7 132 7 40 G [.ref xo, .int i] f (fun v f1 => (∃ r9 : Int32, v = some (.int r9)) ∧ CW G f1 xo ez eo bu nw0 na0 nq0 nr0 nw1 na1 nq1 nr1 bs bp bh bf bl bg gw0 ga0 gw1 ga1 mg0 mg1 n a cg x sa pk fl gv gh gl ∧ hKp [xo, ez, eo, bu, nw0, na0, nq0, nr0, nw1, na1, nq1, nr1, bs, bp, bh, bf, bl, bg] f f1) (fun E f1 => (E = eI ∨ E = eS) ∧ CW G f1 xo ez eo bu nw0 na0 nq0 nr0 nw1 na1 nq1 nr1 bs bp bh bf bl bg gw0 ga0 gw1 ga1 mg0 mg1 n a cg x sa pk fl gv gh gl ∧ hKp [xo, ez, eo, bu, nw0, na0, nq0, nr0, nw1, na1, nq1, nr1, bs, bp, bh, bf, bl, bg] f f1) := by
  refine hp_start hl (own := RX4) (by decide) rfl (Nat.le_of_ble_eq_true rfl) ?_
  intro p e s m args below meth c B0 hr hnm hout hw hS ls hl9
  have hx := B0.1
  have hb := B0.2.1
  have hl9 : lv_has ls 3 [(0, .ref xo), (1, .int i)] := hl9
  obtain ⟨k_xo, ⟨st0, tm0, sr0, li0, lp0, mi0, cn0, gq0, hd0, tl0, k_ez, k_nq0, k_nr0, fhd0, ftl0, blp0⟩, ⟨st1, tm1, sr1, li1, lp1, mi1, cn1, gq1, hd1, tl1, k_eo, k_nq1, k_nr1, fhd1, ftl1, blp1⟩, k_nw0, k_na0, k_nw1, k_na1, k_bu, k_bs, k_bp, k_bh, k_bf, k_bl, k_bg, hPx, hB9, hfl9, nd_ez_eo, nd_nr0_nr1, nd_nw0_na0, nd_nw0_nq0, nd_nw0_nw1, nd_nw0_na1, nd_nw0_nq1, nd_na0_nq0, nd_na0_nw1, nd_na0_na1, nd_na0_nq1, nd_nq0_nw1, nd_nq0_na1, nd_nq0_nq1, nd_nw1_na1, nd_nw1_nq1, nd_na1_nq1, nd_bh_bp, nd_bf_bl⟩ := hC
  refine lv_aload_n hx hb dX4_deliver_0 rfl (lv_at hl9 0 rfl) ?_
  refine lv_iload_n hx hb dX4_deliver_1 rfl (lv_at hl9 1 rfl) ?_
  refine hp_V (ci := 4) (As := [.int i]) (rest := []) B0 hw hS (c_X4_endAt hl G f xo ez eo bu k_xo i) mV_X4_endAt qM_X4_28 rfl k_xo rfl rfl hl9.1 (Nat.le_of_ble_eq_true rfl) ⟨⟨Nat.le_of_ble_eq_true rfl, Nat.le_of_ble_eq_true rfl⟩, Nat.le_of_ble_eq_true rfl, Nat.le_of_ble_eq_true rfl⟩ dX4_deliver_2 (fun E ce q9 f1 H locs hPX hw hS hce hcv hcl => ?_) (fun v f1 H locs hP hw hS => ?_)
  · obtain ⟨ef9, eE9, hE9⟩ := hPX
    rw [ef9] at hw
    subst eE9
    exact hp_out B0 hw hS hout hce hcv hcl ⟨Nat.le_of_ble_eq_true rfl, Nat.le_of_ble_eq_true rfl⟩ (⟨(Or.inl rfl), ⟨k_xo, ⟨_, _, _, _, _, _, _, _, _, _, k_ez, k_nq0, k_nr0, fhd0, ftl0, blp0⟩, ⟨_, _, _, _, _, _, _, _, _, _, k_eo, k_nq1, k_nr1, fhd1, ftl1, blp1⟩, k_nw0, k_na0, k_nw1, k_na1, k_bu, k_bs, k_bp, k_bh, k_bf, k_bl, k_bg, hPx, hB9, hfl9, nd_ez_eo, nd_nr0_nr1, nd_nw0_na0, nd_nw0_nq0, nd_nw0_nw1, nd_nw0_na1, nd_nw0_nq1, nd_na0_nq0, nd_na0_nw1, nd_na0_na1, nd_na0_nq1, nd_nq0_nw1, nd_nq0_na1, nd_nq0_nq1, nd_nw1_na1, nd_nw1_nq1, nd_na1_nq1, nd_bh_bp, nd_bf_bl⟩, hKp.rf⟩)
  · obtain ⟨ef9, hv9⟩ := hP
    rw [ef9] at hw
    rcases hv9 with ⟨k2, ev9⟩ | ⟨k2, ev9⟩
    · subst ev9
      refine W.eq (g2 := F0 m 5 ls [.ref ez]) rfl ?_
      refine hp_S (As := [.ref ez]) (rest := []) B0 hw hS (c_X4_takeFrame hl G f ez nw0 na0 nq0 nr0 mg0 ⟨_, _, _, _, _, _, _, _, _, _, k_ez, k_nq0, k_nr0, fhd0, ftl0, blp0⟩ hPx) mS_X4_takeFrame qM_X4_73 rfl rfl hl9.1 (Nat.le_of_ble_eq_true rfl) ⟨⟨Nat.le_of_ble_eq_true rfl, Nat.le_of_ble_eq_true rfl⟩, Nat.le_of_ble_eq_true rfl, Nat.le_of_ble_eq_true rfl⟩ dX4_deliver_5 (fun E ce q9 f3 H locs hPX hw hS hce hcv hcl => ?_) (fun v f3 H locs hP hw hS => ?_)
      · have hP := hPX
        obtain ⟨eE9, h4, p5, k6⟩ := hP
        obtain ⟨st7, tm8, sr9, li10, lp11, mi12, cn13, gq14, hd15, tl16, h17, h18, h19, h20, h21, h22⟩ := h4
        subst eE9
        have n23 : eo ≠ nr0 := hne k_eo k_nr0 (Nat.ne_of_beq_eq_false rfl)
        have n24 : eo ≠ nq0 := hne k_eo k_nq0 (Nat.ne_of_beq_eq_false rfl)
        have h25 : f3 eo = some (.inr (1, [.ref nw1, .ref na1, .ref nq1, .ref nr1, .int mg1, .int st1, .int tm1, .int sr1, .int li1, .int lp1, .int mi1])) := k6.1 _ _ k_eo (Nat.ne_of_beq_eq_false rfl) (ninc (Ne.symm nd_ez_eo) (ninc n24 (ninc n23 nin0)))
        have n26 : nq1 ≠ nr0 := hne k_nq1 k_nr0 (Nat.ne_of_beq_eq_false rfl)
        have n27 : nq1 ≠ ez := hne k_nq1 k_ez (Nat.ne_of_beq_eq_false rfl)
        have h28 : f3 nq1 = some (.inl (cI G, 6, .inl gq1)) := k6.1 _ _ k_nq1 (Nat.ne_of_beq_eq_false rfl) (ninc n27 (ninc (Ne.symm nd_nq0_nq1) (ninc n26 nin0)))
        have n29 : nr1 ≠ nq0 := hne k_nr1 k_nq0 (Nat.ne_of_beq_eq_false rfl)
        have n30 : nr1 ≠ ez := hne k_nr1 k_ez (Nat.ne_of_beq_eq_false rfl)
        have h31 : f3 nr1 = some (.inr (3, [hd1, tl1, .int cn1])) := k6.1 _ _ k_nr1 (Nat.ne_of_beq_eq_false rfl) (ninc n30 (ninc n29 (ninc (Ne.symm nd_nr0_nr1) nin0)))
        have n32 : xo ≠ nr0 := hne k_xo k_nr0 (Nat.ne_of_beq_eq_false rfl)
        have n33 : xo ≠ nq0 := hne k_xo k_nq0 (Nat.ne_of_beq_eq_false rfl)
        have n34 : xo ≠ ez := hne k_xo k_ez (Nat.ne_of_beq_eq_false rfl)
        have h35 : f3 xo = some (.inr (4, [.ref ez, .ref eo, .ref bu])) := k6.1 _ _ k_xo (Nat.ne_of_beq_eq_false rfl) (ninc n34 (ninc n33 (ninc n32 nin0)))
        have n36 : nw0 ≠ nr0 := hne k_nw0 k_nr0 (Nat.ne_of_beq_eq_false rfl)
        have n37 : nw0 ≠ ez := hne k_nw0 k_ez (Nat.ne_of_beq_eq_false rfl)
        have h38 : f3 nw0 = some (.inl (cI G, 6, .inl gw0)) := k6.1 _ _ k_nw0 (Nat.ne_of_beq_eq_false rfl) (ninc n37 (ninc nd_nw0_nq0 (ninc n36 nin0)))
        have n39 : na0 ≠ nr0 := hne k_na0 k_nr0 (Nat.ne_of_beq_eq_false rfl)
        have n40 : na0 ≠ ez := hne k_na0 k_ez (Nat.ne_of_beq_eq_false rfl)
        have h41 : f3 na0 = some (.inl (cI G, 6, .inl ga0)) := k6.1 _ _ k_na0 (Nat.ne_of_beq_eq_false rfl) (ninc n40 (ninc nd_na0_nq0 (ninc n39 nin0)))
        have n42 : nw1 ≠ nr0 := hne k_nw1 k_nr0 (Nat.ne_of_beq_eq_false rfl)
        have n43 : nw1 ≠ ez := hne k_nw1 k_ez (Nat.ne_of_beq_eq_false rfl)
        have h44 : f3 nw1 = some (.inl (cI G, 6, .inl gw1)) := k6.1 _ _ k_nw1 (Nat.ne_of_beq_eq_false rfl) (ninc n43 (ninc (Ne.symm nd_nq0_nw1) (ninc n42 nin0)))
        have n45 : na1 ≠ nr0 := hne k_na1 k_nr0 (Nat.ne_of_beq_eq_false rfl)
        have n46 : na1 ≠ ez := hne k_na1 k_ez (Nat.ne_of_beq_eq_false rfl)
        have h47 : f3 na1 = some (.inl (cI G, 6, .inl ga1)) := k6.1 _ _ k_na1 (Nat.ne_of_beq_eq_false rfl) (ninc n46 (ninc (Ne.symm nd_nq0_na1) (ninc n45 nin0)))
        have n48 : bu ≠ nr0 := hne k_bu k_nr0 (Nat.ne_of_beq_eq_false rfl)
        have n49 : bu ≠ nq0 := hne k_bu k_nq0 (Nat.ne_of_beq_eq_false rfl)
        have n50 : bu ≠ ez := hne k_bu k_ez (Nat.ne_of_beq_eq_false rfl)
        have h51 : f3 bu = some (.inr (0, [.ref bs, .ref bp, .ref bh, .ref bf, .ref bl, .ref bg, .int (nI n), .int (nI cg), .int (nI x)])) := k6.1 _ _ k_bu (Nat.ne_of_beq_eq_false rfl) (ninc n50 (ninc n49 (ninc n48 nin0)))
        have n52 : bs ≠ nr0 := hne k_bs k_nr0 (Nat.ne_of_beq_eq_false rfl)
        have n53 : bs ≠ nq0 := hneL k_bs k_nq0 (Nat.ne_of_beq_eq_false rfl)
        have n54 : bs ≠ ez := hne k_bs k_ez (Nat.ne_of_beq_eq_false rfl)
        have h55 : f3 bs = some (.inl (cI G, 61, .inl (nf sa))) := k6.1 _ _ k_bs (Nat.ne_of_beq_eq_false rfl) (ninc n54 (ninc n53 (ninc n52 nin0)))
        have n56 : bp ≠ nr0 := hne k_bp k_nr0 (Nat.ne_of_beq_eq_false rfl)
        have n57 : bp ≠ nq0 := hneL k_bp k_nq0 (Nat.ne_of_beq_eq_false rfl)
        have n58 : bp ≠ ez := hne k_bp k_ez (Nat.ne_of_beq_eq_false rfl)
        have h59 : f3 bp = some (.inl (cI G, 240, .inl (nf pk))) := k6.1 _ _ k_bp (Nat.ne_of_beq_eq_false rfl) (ninc n58 (ninc n57 (ninc n56 nin0)))
        have n60 : bh ≠ nr0 := hne k_bh k_nr0 (Nat.ne_of_beq_eq_false rfl)
        have n61 : bh ≠ nq0 := hneL k_bh k_nq0 (Nat.ne_of_beq_eq_false rfl)
        have n62 : bh ≠ ez := hne k_bh k_ez (Nat.ne_of_beq_eq_false rfl)
        have h63 : f3 bh = some (.inl (cZ G, 240, .inl gh)) := k6.1 _ _ k_bh (Nat.ne_of_beq_eq_false rfl) (ninc n62 (ninc n61 (ninc n60 nin0)))
        have n64 : bf ≠ nr0 := hne k_bf k_nr0 (Nat.ne_of_beq_eq_false rfl)
        have n65 : bf ≠ nq0 := hneL k_bf k_nq0 (Nat.ne_of_beq_eq_false rfl)
        have n66 : bf ≠ ez := hne k_bf k_ez (Nat.ne_of_beq_eq_false rfl)
        have h67 : f3 bf = some (.inl (cI G, 3, .inl (nf fl))) := k6.1 _ _ k_bf (Nat.ne_of_beq_eq_false rfl) (ninc n66 (ninc n65 (ninc n64 nin0)))
        have n68 : bl ≠ nr0 := hne k_bl k_nr0 (Nat.ne_of_beq_eq_false rfl)
        have n69 : bl ≠ nq0 := hneL k_bl k_nq0 (Nat.ne_of_beq_eq_false rfl)
        have n70 : bl ≠ ez := hne k_bl k_ez (Nat.ne_of_beq_eq_false rfl)
        have h71 : f3 bl = some (.inl (cI G, 3, .inl gl)) := k6.1 _ _ k_bl (Nat.ne_of_beq_eq_false rfl) (ninc n70 (ninc n69 (ninc n68 nin0)))
        have n72 : bg ≠ nr0 := hne k_bg k_nr0 (Nat.ne_of_beq_eq_false rfl)
        have n73 : bg ≠ nq0 := hneL k_bg k_nq0 (Nat.ne_of_beq_eq_false rfl)
        have n74 : bg ≠ ez := hne k_bg k_ez (Nat.ne_of_beq_eq_false rfl)
        have h75 : f3 bg = some (.inl (cI G, 60, .inl (nf gv))) := k6.1 _ _ k_bg (Nat.ne_of_beq_eq_false rfl) (ninc n74 (ninc n73 (ninc n72 nin0)))
        exact hp_out B0 hw hS hout hce hcv hcl ⟨Nat.le_of_ble_eq_true rfl, Nat.le_of_ble_eq_true rfl⟩ (⟨(Or.inr rfl), ⟨h35, ⟨_, _, _, _, _, _, _, _, _, _, h17, h18, h19, h20, h21, h22⟩, ⟨_, _, _, _, _, _, _, _, _, _, h25, h28, h31, (fhd1.kp (show hKp [xo, ez, eo, bu, nw0, na0, nq0, nr0, nw1, na1, nq1, nr1, bs, bp, bh, bf, bl, bg] f f3 from (k6.mono (fun x9 hx9 => by simp only [List.mem_cons, List.not_mem_nil, or_false] at hx9; rcases hx9 with hx9 | hx9 | hx9 <;> (rw [hx9]; simp))))), (ftl1.kp (show hKp [xo, ez, eo, bu, nw0, na0, nq0, nr0, nw1, na1, nq1, nr1, bs, bp, bh, bf, bl, bg] f f3 from (k6.mono (fun x9 hx9 => by simp only [List.mem_cons, List.not_mem_nil, or_false] at hx9; rcases hx9 with hx9 | hx9 | hx9 <;> (rw [hx9]; simp))))), blp1⟩, h38, h41, h44, h47, h51, h55, h59, h63, h67, h71, h75, p5, hB9, hfl9, nd_ez_eo, nd_nr0_nr1, nd_nw0_na0, nd_nw0_nq0, nd_nw0_nw1, nd_nw0_na1, nd_nw0_nq1, nd_na0_nq0, nd_na0_nw1, nd_na0_na1, nd_na0_nq1, nd_nq0_nw1, nd_nq0_na1, nd_nq0_nq1, nd_nw1_na1, nd_nw1_nq1, nd_na1_nq1, nd_bh_bp, nd_bf_bl⟩, (show hKp [xo, ez, eo, bu, nw0, na0, nq0, nr0, nw1, na1, nq1, nr1, bs, bp, bh, bf, bl, bg] f f3 from (k6.mono (fun x9 hx9 => by simp only [List.mem_cons, List.not_mem_nil, or_false] at hx9; rcases hx9 with hx9 | hx9 | hx9 <;> (rw [hx9]; simp))))⟩)
      · obtain ⟨⟨t76, k77, ev9, h78⟩, h79, p80, k81⟩ := hP
        obtain ⟨st82, tm83, sr84, li85, lp86, mi87, cn88, gq89, hd90, tl91, h92, h93, h94, h95, h96, h97⟩ := h79
        subst ev9
        refine W.eq (g2 := F0 m 8 ls [.ref t76]) rfl ?_
        refine lv_astore_n (lv' := [(2, .ref t76), (0, .ref xo), (1, .int i)]) hx hb dX4_deliver_8 rfl hl9 (by decide) rfl (fun ls hl9 => ?_)
        refine lv_aload_n hx hb dX4_deliver_9 rfl (lv_at hl9 1 rfl) ?_
        refine lv_iconst (v := 1) hx hb dX4_deliver_10 (by decide) ?_
        refine lv_iload_n hx hb dX4_deliver_11 rfl (lv_at hl9 2 rfl) ?_
        refine lv_isub hx hb dX4_deliver_12 ?_
        refine hp_c (v := 1) (by rw [k2]; rfl) ?_
        have n98 : xo ≠ nr0 := hne k_xo k_nr0 (Nat.ne_of_beq_eq_false rfl)
        have n99 : xo ≠ nq0 := hne k_xo k_nq0 (Nat.ne_of_beq_eq_false rfl)
        have n100 : xo ≠ ez := hne k_xo k_ez (Nat.ne_of_beq_eq_false rfl)
        have h101 : f3 xo = some (.inr (4, [.ref ez, .ref eo, .ref bu])) := k81.1 _ _ k_xo (Nat.ne_of_beq_eq_false rfl) (ninc n100 (ninc n99 (ninc n98 nin0)))
        refine hp_V (ci := 4) (As := [.int 1]) (rest := []) B0 hw hS (c_X4_endAt hl G f3 xo ez eo bu h101 1) mV_X4_endAt qM_X4_28 rfl h101 rfl rfl hl9.1 (Nat.le_of_ble_eq_true rfl) ⟨⟨Nat.le_of_ble_eq_true rfl, Nat.le_of_ble_eq_true rfl⟩, Nat.le_of_ble_eq_true rfl, Nat.le_of_ble_eq_true rfl⟩ dX4_deliver_13 (fun E ce q9 f102 H locs hPX hw hS hce hcv hcl => ?_) (fun v f102 H locs hP hw hS => ?_)
        · obtain ⟨ef9, eE9, hE9⟩ := hPX
          rw [ef9] at hw
          subst eE9
          have n103 : eo ≠ nr0 := hne k_eo k_nr0 (Nat.ne_of_beq_eq_false rfl)
          have n104 : eo ≠ nq0 := hne k_eo k_nq0 (Nat.ne_of_beq_eq_false rfl)
          have h105 : f3 eo = some (.inr (1, [.ref nw1, .ref na1, .ref nq1, .ref nr1, .int mg1, .int st1, .int tm1, .int sr1, .int li1, .int lp1, .int mi1])) := k81.1 _ _ k_eo (Nat.ne_of_beq_eq_false rfl) (ninc (Ne.symm nd_ez_eo) (ninc n104 (ninc n103 nin0)))
          have n106 : nq1 ≠ nr0 := hne k_nq1 k_nr0 (Nat.ne_of_beq_eq_false rfl)
          have n107 : nq1 ≠ ez := hne k_nq1 k_ez (Nat.ne_of_beq_eq_false rfl)
          have h108 : f3 nq1 = some (.inl (cI G, 6, .inl gq1)) := k81.1 _ _ k_nq1 (Nat.ne_of_beq_eq_false rfl) (ninc n107 (ninc (Ne.symm nd_nq0_nq1) (ninc n106 nin0)))
          have n109 : nr1 ≠ nq0 := hne k_nr1 k_nq0 (Nat.ne_of_beq_eq_false rfl)
          have n110 : nr1 ≠ ez := hne k_nr1 k_ez (Nat.ne_of_beq_eq_false rfl)
          have h111 : f3 nr1 = some (.inr (3, [hd1, tl1, .int cn1])) := k81.1 _ _ k_nr1 (Nat.ne_of_beq_eq_false rfl) (ninc n110 (ninc n109 (ninc (Ne.symm nd_nr0_nr1) nin0)))
          have n112 : nw0 ≠ nr0 := hne k_nw0 k_nr0 (Nat.ne_of_beq_eq_false rfl)
          have n113 : nw0 ≠ ez := hne k_nw0 k_ez (Nat.ne_of_beq_eq_false rfl)
          have h114 : f3 nw0 = some (.inl (cI G, 6, .inl gw0)) := k81.1 _ _ k_nw0 (Nat.ne_of_beq_eq_false rfl) (ninc n113 (ninc nd_nw0_nq0 (ninc n112 nin0)))
          have n115 : na0 ≠ nr0 := hne k_na0 k_nr0 (Nat.ne_of_beq_eq_false rfl)
          have n116 : na0 ≠ ez := hne k_na0 k_ez (Nat.ne_of_beq_eq_false rfl)
          have h117 : f3 na0 = some (.inl (cI G, 6, .inl ga0)) := k81.1 _ _ k_na0 (Nat.ne_of_beq_eq_false rfl) (ninc n116 (ninc nd_na0_nq0 (ninc n115 nin0)))
          have n118 : nw1 ≠ nr0 := hne k_nw1 k_nr0 (Nat.ne_of_beq_eq_false rfl)
          have n119 : nw1 ≠ ez := hne k_nw1 k_ez (Nat.ne_of_beq_eq_false rfl)
          have h120 : f3 nw1 = some (.inl (cI G, 6, .inl gw1)) := k81.1 _ _ k_nw1 (Nat.ne_of_beq_eq_false rfl) (ninc n119 (ninc (Ne.symm nd_nq0_nw1) (ninc n118 nin0)))
          have n121 : na1 ≠ nr0 := hne k_na1 k_nr0 (Nat.ne_of_beq_eq_false rfl)
          have n122 : na1 ≠ ez := hne k_na1 k_ez (Nat.ne_of_beq_eq_false rfl)
          have h123 : f3 na1 = some (.inl (cI G, 6, .inl ga1)) := k81.1 _ _ k_na1 (Nat.ne_of_beq_eq_false rfl) (ninc n122 (ninc (Ne.symm nd_nq0_na1) (ninc n121 nin0)))
          have n124 : bu ≠ nr0 := hne k_bu k_nr0 (Nat.ne_of_beq_eq_false rfl)
          have n125 : bu ≠ nq0 := hne k_bu k_nq0 (Nat.ne_of_beq_eq_false rfl)
          have n126 : bu ≠ ez := hne k_bu k_ez (Nat.ne_of_beq_eq_false rfl)
          have h127 : f3 bu = some (.inr (0, [.ref bs, .ref bp, .ref bh, .ref bf, .ref bl, .ref bg, .int (nI n), .int (nI cg), .int (nI x)])) := k81.1 _ _ k_bu (Nat.ne_of_beq_eq_false rfl) (ninc n126 (ninc n125 (ninc n124 nin0)))
          have n128 : bs ≠ nr0 := hne k_bs k_nr0 (Nat.ne_of_beq_eq_false rfl)
          have n129 : bs ≠ nq0 := hneL k_bs k_nq0 (Nat.ne_of_beq_eq_false rfl)
          have n130 : bs ≠ ez := hne k_bs k_ez (Nat.ne_of_beq_eq_false rfl)
          have h131 : f3 bs = some (.inl (cI G, 61, .inl (nf sa))) := k81.1 _ _ k_bs (Nat.ne_of_beq_eq_false rfl) (ninc n130 (ninc n129 (ninc n128 nin0)))
          have n132 : bp ≠ nr0 := hne k_bp k_nr0 (Nat.ne_of_beq_eq_false rfl)
          have n133 : bp ≠ nq0 := hneL k_bp k_nq0 (Nat.ne_of_beq_eq_false rfl)
          have n134 : bp ≠ ez := hne k_bp k_ez (Nat.ne_of_beq_eq_false rfl)
          have h135 : f3 bp = some (.inl (cI G, 240, .inl (nf pk))) := k81.1 _ _ k_bp (Nat.ne_of_beq_eq_false rfl) (ninc n134 (ninc n133 (ninc n132 nin0)))
          have n136 : bh ≠ nr0 := hne k_bh k_nr0 (Nat.ne_of_beq_eq_false rfl)
          have n137 : bh ≠ nq0 := hneL k_bh k_nq0 (Nat.ne_of_beq_eq_false rfl)
          have n138 : bh ≠ ez := hne k_bh k_ez (Nat.ne_of_beq_eq_false rfl)
          have h139 : f3 bh = some (.inl (cZ G, 240, .inl gh)) := k81.1 _ _ k_bh (Nat.ne_of_beq_eq_false rfl) (ninc n138 (ninc n137 (ninc n136 nin0)))
          have n140 : bf ≠ nr0 := hne k_bf k_nr0 (Nat.ne_of_beq_eq_false rfl)
          have n141 : bf ≠ nq0 := hneL k_bf k_nq0 (Nat.ne_of_beq_eq_false rfl)
          have n142 : bf ≠ ez := hne k_bf k_ez (Nat.ne_of_beq_eq_false rfl)
          have h143 : f3 bf = some (.inl (cI G, 3, .inl (nf fl))) := k81.1 _ _ k_bf (Nat.ne_of_beq_eq_false rfl) (ninc n142 (ninc n141 (ninc n140 nin0)))
          have n144 : bl ≠ nr0 := hne k_bl k_nr0 (Nat.ne_of_beq_eq_false rfl)
          have n145 : bl ≠ nq0 := hneL k_bl k_nq0 (Nat.ne_of_beq_eq_false rfl)
          have n146 : bl ≠ ez := hne k_bl k_ez (Nat.ne_of_beq_eq_false rfl)
          have h147 : f3 bl = some (.inl (cI G, 3, .inl gl)) := k81.1 _ _ k_bl (Nat.ne_of_beq_eq_false rfl) (ninc n146 (ninc n145 (ninc n144 nin0)))
          have n148 : bg ≠ nr0 := hne k_bg k_nr0 (Nat.ne_of_beq_eq_false rfl)
          have n149 : bg ≠ nq0 := hneL k_bg k_nq0 (Nat.ne_of_beq_eq_false rfl)
          have n150 : bg ≠ ez := hne k_bg k_ez (Nat.ne_of_beq_eq_false rfl)
          have h151 : f3 bg = some (.inl (cI G, 60, .inl (nf gv))) := k81.1 _ _ k_bg (Nat.ne_of_beq_eq_false rfl) (ninc n150 (ninc n149 (ninc n148 nin0)))
          exact hp_out B0 hw hS hout hce hcv hcl ⟨Nat.le_of_ble_eq_true rfl, Nat.le_of_ble_eq_true rfl⟩ (⟨(Or.inl rfl), ⟨h101, ⟨_, _, _, _, _, _, _, _, _, _, h92, h93, h94, h95, h96, h97⟩, ⟨_, _, _, _, _, _, _, _, _, _, h105, h108, h111, (fhd1.kp (show hKp [xo, ez, eo, bu, nw0, na0, nq0, nr0, nw1, na1, nq1, nr1, bs, bp, bh, bf, bl, bg] f f3 from (k81.mono (fun x9 hx9 => by simp only [List.mem_cons, List.not_mem_nil, or_false] at hx9; rcases hx9 with hx9 | hx9 | hx9 <;> (rw [hx9]; simp))))), (ftl1.kp (show hKp [xo, ez, eo, bu, nw0, na0, nq0, nr0, nw1, na1, nq1, nr1, bs, bp, bh, bf, bl, bg] f f3 from (k81.mono (fun x9 hx9 => by simp only [List.mem_cons, List.not_mem_nil, or_false] at hx9; rcases hx9 with hx9 | hx9 | hx9 <;> (rw [hx9]; simp))))), blp1⟩, h114, h117, h120, h123, h127, h131, h135, h139, h143, h147, h151, p80, hB9, hfl9, nd_ez_eo, nd_nr0_nr1, nd_nw0_na0, nd_nw0_nq0, nd_nw0_nw1, nd_nw0_na1, nd_nw0_nq1, nd_na0_nq0, nd_na0_nw1, nd_na0_na1, nd_na0_nq1, nd_nq0_nw1, nd_nq0_na1, nd_nq0_nq1, nd_nw1_na1, nd_nw1_nq1, nd_na1_nq1, nd_bh_bp, nd_bf_bl⟩, (show hKp [xo, ez, eo, bu, nw0, na0, nq0, nr0, nw1, na1, nq1, nr1, bs, bp, bh, bf, bl, bg] f f3 from (k81.mono (fun x9 hx9 => by simp only [List.mem_cons, List.not_mem_nil, or_false] at hx9; rcases hx9 with hx9 | hx9 | hx9 <;> (rw [hx9]; simp))))⟩)
        · obtain ⟨ef9, hv9⟩ := hP
          rw [ef9] at hw
          rcases hv9 with ⟨k9, ev9⟩ | ⟨k9, ev9⟩
          exact absurd k9 (by decide)
          subst ev9
          refine W.eq (g2 := F0 m 16 ls [.ref eo]) rfl ?_
          refine lv_aload_n hx hb dX4_deliver_16 rfl (lv_at hl9 0 rfl) ?_
          have n152 : eo ≠ nr0 := hne k_eo k_nr0 (Nat.ne_of_beq_eq_false rfl)
          have n153 : eo ≠ nq0 := hne k_eo k_nq0 (Nat.ne_of_beq_eq_false rfl)
          have h154 : f3 eo = some (.inr (1, [.ref nw1, .ref na1, .ref nq1, .ref nr1, .int mg1, .int st1, .int tm1, .int sr1, .int li1, .int lp1, .int mi1])) := k81.1 _ _ k_eo (Nat.ne_of_beq_eq_false rfl) (ninc (Ne.symm nd_ez_eo) (ninc n153 (ninc n152 nin0)))
          have n155 : nq1 ≠ nr0 := hne k_nq1 k_nr0 (Nat.ne_of_beq_eq_false rfl)
          have n156 : nq1 ≠ ez := hne k_nq1 k_ez (Nat.ne_of_beq_eq_false rfl)
          have h157 : f3 nq1 = some (.inl (cI G, 6, .inl gq1)) := k81.1 _ _ k_nq1 (Nat.ne_of_beq_eq_false rfl) (ninc n156 (ninc (Ne.symm nd_nq0_nq1) (ninc n155 nin0)))
          have n158 : nr1 ≠ nq0 := hne k_nr1 k_nq0 (Nat.ne_of_beq_eq_false rfl)
          have n159 : nr1 ≠ ez := hne k_nr1 k_ez (Nat.ne_of_beq_eq_false rfl)
          have h160 : f3 nr1 = some (.inr (3, [hd1, tl1, .int cn1])) := k81.1 _ _ k_nr1 (Nat.ne_of_beq_eq_false rfl) (ninc n159 (ninc n158 (ninc (Ne.symm nd_nr0_nr1) nin0)))
          have n161 : na1 ≠ nr0 := hne k_na1 k_nr0 (Nat.ne_of_beq_eq_false rfl)
          have n162 : na1 ≠ ez := hne k_na1 k_ez (Nat.ne_of_beq_eq_false rfl)
          have h163 : f3 na1 = some (.inl (cI G, 6, .inl ga1)) := k81.1 _ _ k_na1 (Nat.ne_of_beq_eq_false rfl) (ninc n162 (ninc (Ne.symm nd_nq0_na1) (ninc n161 nin0)))
          refine hp_V (ci := 1) (As := [.ref t76]) (rest := []) B0 hw hS (c_X1_hear hl G f3 eo nw1 na1 nq1 nr1 mg1 ⟨_, _, _, _, _, _, _, _, _, _, h154, h157, h160, (fhd1.kp (show hKp [xo, ez, eo, bu, nw0, na0, nq0, nr0, nw1, na1, nq1, nr1, bs, bp, bh, bf, bl, bg] f f3 from (k81.mono (fun x9 hx9 => by simp only [List.mem_cons, List.not_mem_nil, or_false] at hx9; rcases hx9 with hx9 | hx9 | hx9 <;> (rw [hx9]; simp))))), (ftl1.kp (show hKp [xo, ez, eo, bu, nw0, na0, nq0, nr0, nw1, na1, nq1, nr1, bs, bp, bh, bf, bl, bg] f f3 from (k81.mono (fun x9 hx9 => by simp only [List.mem_cons, List.not_mem_nil, or_false] at hx9; rcases hx9 with hx9 | hx9 | hx9 <;> (rw [hx9]; simp))))), blp1⟩ p80 ga1 h163 nd_na1_nq1 t76 _ h78) mV_X1_hear qM_X4_77 rfl h154 rfl rfl hl9.1 (Nat.le_of_ble_eq_true rfl) ⟨⟨Nat.le_of_ble_eq_true rfl, Nat.le_of_ble_eq_true rfl⟩, Nat.le_of_ble_eq_true rfl, Nat.le_of_ble_eq_true rfl⟩ dX4_deliver_17 (fun E ce q9 f164 H locs hPX hw hS hce hcv hcl => ?_) (fun v f164 H locs hP hw hS => ?_)
          · exact hPX.elim
          · obtain ⟨ev9, h165, p166, k167⟩ := hP
            obtain ⟨st168, tm169, sr170, li171, lp172, mi173, cn174, gq175, hd176, tl177, h178, h179, h180, h181, h182, h183⟩ := h165
            subst ev9
            refine W.eq (g2 := F0 m 20 ls []) rfl ?_
            refine lv_aload_n hx hb dX4_deliver_20 rfl (lv_at hl9 0 rfl) ?_
            obtain ⟨k184, h185⟩ := k167.2 _ _ h78
            obtain ⟨x186, x187, x188, v189, y190, g191, e192, h193, h194⟩ := p166 _ _ h185 nin0
            rw [e192] at h185
            refine hp_get B0 hw 2 rfl in_X2 h185 0 (by decide) qF_X4_81 rfl dX4_deliver_21 ?_
            have h196 : f164 ez = some (.inr (1, [.ref nw0, .ref na0, .ref nq0, .ref nr0, .int mg0, .int st82, .int tm83, .int sr84, .int li85, .int lp86, .int mi87])) := k167.1 _ _ h92 (Nat.ne_of_beq_eq_false rfl) (ninc nd_ez_eo (ninc (Ne.symm n156) (ninc (Ne.symm n159) nin0)))
            have h197 : f164 nq0 = some (.inl (cI G, 6, .inl gq89)) := k167.1 _ _ h93 (Nat.ne_of_beq_eq_false rfl) (ninc (Ne.symm n153) (ninc nd_nq0_nq1 (ninc (Ne.symm n158) nin0)))
            have h198 : f164 nr0 = some (.inr (3, [hd90, tl91, .int cn88])) := k167.1 _ _ h94 (Nat.ne_of_beq_eq_false rfl) (ninc (Ne.symm n152) (ninc (Ne.symm n155) (ninc nd_nr0_nr1 nin0)))
            have n199 : xo ≠ nr1 := hne k_xo k_nr1 (Nat.ne_of_beq_eq_false rfl)
            have n200 : xo ≠ nq1 := hne k_xo k_nq1 (Nat.ne_of_beq_eq_false rfl)
            have n201 : xo ≠ eo := hne k_xo k_eo (Nat.ne_of_beq_eq_false rfl)
            have h202 : f164 xo = some (.inr (4, [.ref ez, .ref eo, .ref bu])) := k167.1 _ _ h101 (Nat.ne_of_beq_eq_false rfl) (ninc n201 (ninc n200 (ninc n199 nin0)))
            have n203 : nw0 ≠ nr0 := hne k_nw0 k_nr0 (Nat.ne_of_beq_eq_false rfl)
            have n204 : nw0 ≠ ez := hne k_nw0 k_ez (Nat.ne_of_beq_eq_false rfl)
            have h205 : f3 nw0 = some (.inl (cI G, 6, .inl gw0)) := k81.1 _ _ k_nw0 (Nat.ne_of_beq_eq_false rfl) (ninc n204 (ninc nd_nw0_nq0 (ninc n203 nin0)))
            have n206 : nw0 ≠ nr1 := hne k_nw0 k_nr1 (Nat.ne_of_beq_eq_false rfl)
            have n207 : nw0 ≠ eo := hne k_nw0 k_eo (Nat.ne_of_beq_eq_false rfl)
            have h208 : f164 nw0 = some (.inl (cI G, 6, .inl gw0)) := k167.1 _ _ h205 (Nat.ne_of_beq_eq_false rfl) (ninc n207 (ninc nd_nw0_nq1 (ninc n206 nin0)))
            have n209 : na0 ≠ nr0 := hne k_na0 k_nr0 (Nat.ne_of_beq_eq_false rfl)
            have n210 : na0 ≠ ez := hne k_na0 k_ez (Nat.ne_of_beq_eq_false rfl)
            have h211 : f3 na0 = some (.inl (cI G, 6, .inl ga0)) := k81.1 _ _ k_na0 (Nat.ne_of_beq_eq_false rfl) (ninc n210 (ninc nd_na0_nq0 (ninc n209 nin0)))
            have n212 : na0 ≠ nr1 := hne k_na0 k_nr1 (Nat.ne_of_beq_eq_false rfl)
            have n213 : na0 ≠ eo := hne k_na0 k_eo (Nat.ne_of_beq_eq_false rfl)
            have h214 : f164 na0 = some (.inl (cI G, 6, .inl ga0)) := k167.1 _ _ h211 (Nat.ne_of_beq_eq_false rfl) (ninc n213 (ninc nd_na0_nq1 (ninc n212 nin0)))
            have n215 : nw1 ≠ nr0 := hne k_nw1 k_nr0 (Nat.ne_of_beq_eq_false rfl)
            have n216 : nw1 ≠ ez := hne k_nw1 k_ez (Nat.ne_of_beq_eq_false rfl)
            have h217 : f3 nw1 = some (.inl (cI G, 6, .inl gw1)) := k81.1 _ _ k_nw1 (Nat.ne_of_beq_eq_false rfl) (ninc n216 (ninc (Ne.symm nd_nq0_nw1) (ninc n215 nin0)))
            have n218 : nw1 ≠ nr1 := hne k_nw1 k_nr1 (Nat.ne_of_beq_eq_false rfl)
            have n219 : nw1 ≠ eo := hne k_nw1 k_eo (Nat.ne_of_beq_eq_false rfl)
            have h220 : f164 nw1 = some (.inl (cI G, 6, .inl gw1)) := k167.1 _ _ h217 (Nat.ne_of_beq_eq_false rfl) (ninc n219 (ninc nd_nw1_nq1 (ninc n218 nin0)))
            have n221 : na1 ≠ nr1 := hne k_na1 k_nr1 (Nat.ne_of_beq_eq_false rfl)
            have n222 : na1 ≠ eo := hne k_na1 k_eo (Nat.ne_of_beq_eq_false rfl)
            have h223 : f164 na1 = some (.inl (cI G, 6, .inl ga1)) := k167.1 _ _ h163 (Nat.ne_of_beq_eq_false rfl) (ninc n222 (ninc nd_na1_nq1 (ninc n221 nin0)))
            have n224 : bu ≠ nr0 := hne k_bu k_nr0 (Nat.ne_of_beq_eq_false rfl)
            have n225 : bu ≠ nq0 := hne k_bu k_nq0 (Nat.ne_of_beq_eq_false rfl)
            have n226 : bu ≠ ez := hne k_bu k_ez (Nat.ne_of_beq_eq_false rfl)
            have h227 : f3 bu = some (.inr (0, [.ref bs, .ref bp, .ref bh, .ref bf, .ref bl, .ref bg, .int (nI n), .int (nI cg), .int (nI x)])) := k81.1 _ _ k_bu (Nat.ne_of_beq_eq_false rfl) (ninc n226 (ninc n225 (ninc n224 nin0)))
            have n228 : bu ≠ nr1 := hne k_bu k_nr1 (Nat.ne_of_beq_eq_false rfl)
            have n229 : bu ≠ nq1 := hne k_bu k_nq1 (Nat.ne_of_beq_eq_false rfl)
            have n230 : bu ≠ eo := hne k_bu k_eo (Nat.ne_of_beq_eq_false rfl)
            have h231 : f164 bu = some (.inr (0, [.ref bs, .ref bp, .ref bh, .ref bf, .ref bl, .ref bg, .int (nI n), .int (nI cg), .int (nI x)])) := k167.1 _ _ h227 (Nat.ne_of_beq_eq_false rfl) (ninc n230 (ninc n229 (ninc n228 nin0)))
            have n232 : bs ≠ nr0 := hne k_bs k_nr0 (Nat.ne_of_beq_eq_false rfl)
            have n233 : bs ≠ nq0 := hneL k_bs k_nq0 (Nat.ne_of_beq_eq_false rfl)
            have n234 : bs ≠ ez := hne k_bs k_ez (Nat.ne_of_beq_eq_false rfl)
            have h235 : f3 bs = some (.inl (cI G, 61, .inl (nf sa))) := k81.1 _ _ k_bs (Nat.ne_of_beq_eq_false rfl) (ninc n234 (ninc n233 (ninc n232 nin0)))
            have n236 : bs ≠ nr1 := hne k_bs k_nr1 (Nat.ne_of_beq_eq_false rfl)
            have n237 : bs ≠ nq1 := hneL k_bs k_nq1 (Nat.ne_of_beq_eq_false rfl)
            have n238 : bs ≠ eo := hne k_bs k_eo (Nat.ne_of_beq_eq_false rfl)
            have h239 : f164 bs = some (.inl (cI G, 61, .inl (nf sa))) := k167.1 _ _ h235 (Nat.ne_of_beq_eq_false rfl) (ninc n238 (ninc n237 (ninc n236 nin0)))
            have n240 : bp ≠ nr0 := hne k_bp k_nr0 (Nat.ne_of_beq_eq_false rfl)
            have n241 : bp ≠ nq0 := hneL k_bp k_nq0 (Nat.ne_of_beq_eq_false rfl)
            have n242 : bp ≠ ez := hne k_bp k_ez (Nat.ne_of_beq_eq_false rfl)
            have h243 : f3 bp = some (.inl (cI G, 240, .inl (nf pk))) := k81.1 _ _ k_bp (Nat.ne_of_beq_eq_false rfl) (ninc n242 (ninc n241 (ninc n240 nin0)))
            have n244 : bp ≠ nr1 := hne k_bp k_nr1 (Nat.ne_of_beq_eq_false rfl)
            have n245 : bp ≠ nq1 := hneL k_bp k_nq1 (Nat.ne_of_beq_eq_false rfl)
            have n246 : bp ≠ eo := hne k_bp k_eo (Nat.ne_of_beq_eq_false rfl)
            have h247 : f164 bp = some (.inl (cI G, 240, .inl (nf pk))) := k167.1 _ _ h243 (Nat.ne_of_beq_eq_false rfl) (ninc n246 (ninc n245 (ninc n244 nin0)))
            have n248 : bh ≠ nr0 := hne k_bh k_nr0 (Nat.ne_of_beq_eq_false rfl)
            have n249 : bh ≠ nq0 := hneL k_bh k_nq0 (Nat.ne_of_beq_eq_false rfl)
            have n250 : bh ≠ ez := hne k_bh k_ez (Nat.ne_of_beq_eq_false rfl)
            have h251 : f3 bh = some (.inl (cZ G, 240, .inl gh)) := k81.1 _ _ k_bh (Nat.ne_of_beq_eq_false rfl) (ninc n250 (ninc n249 (ninc n248 nin0)))
            have n252 : bh ≠ nr1 := hne k_bh k_nr1 (Nat.ne_of_beq_eq_false rfl)
            have n253 : bh ≠ nq1 := hneL k_bh k_nq1 (Nat.ne_of_beq_eq_false rfl)
            have n254 : bh ≠ eo := hne k_bh k_eo (Nat.ne_of_beq_eq_false rfl)
            have h255 : f164 bh = some (.inl (cZ G, 240, .inl gh)) := k167.1 _ _ h251 (Nat.ne_of_beq_eq_false rfl) (ninc n254 (ninc n253 (ninc n252 nin0)))
            have n256 : bf ≠ nr0 := hne k_bf k_nr0 (Nat.ne_of_beq_eq_false rfl)
            have n257 : bf ≠ nq0 := hneL k_bf k_nq0 (Nat.ne_of_beq_eq_false rfl)
            have n258 : bf ≠ ez := hne k_bf k_ez (Nat.ne_of_beq_eq_false rfl)
            have h259 : f3 bf = some (.inl (cI G, 3, .inl (nf fl))) := k81.1 _ _ k_bf (Nat.ne_of_beq_eq_false rfl) (ninc n258 (ninc n257 (ninc n256 nin0)))
            have n260 : bf ≠ nr1 := hne k_bf k_nr1 (Nat.ne_of_beq_eq_false rfl)
            have n261 : bf ≠ nq1 := hneL k_bf k_nq1 (Nat.ne_of_beq_eq_false rfl)
            have n262 : bf ≠ eo := hne k_bf k_eo (Nat.ne_of_beq_eq_false rfl)
            have h263 : f164 bf = some (.inl (cI G, 3, .inl (nf fl))) := k167.1 _ _ h259 (Nat.ne_of_beq_eq_false rfl) (ninc n262 (ninc n261 (ninc n260 nin0)))
            have n264 : bl ≠ nr0 := hne k_bl k_nr0 (Nat.ne_of_beq_eq_false rfl)
            have n265 : bl ≠ nq0 := hneL k_bl k_nq0 (Nat.ne_of_beq_eq_false rfl)
            have n266 : bl ≠ ez := hne k_bl k_ez (Nat.ne_of_beq_eq_false rfl)
            have h267 : f3 bl = some (.inl (cI G, 3, .inl gl)) := k81.1 _ _ k_bl (Nat.ne_of_beq_eq_false rfl) (ninc n266 (ninc n265 (ninc n264 nin0)))
            have n268 : bl ≠ nr1 := hne k_bl k_nr1 (Nat.ne_of_beq_eq_false rfl)
            have n269 : bl ≠ nq1 := hneL k_bl k_nq1 (Nat.ne_of_beq_eq_false rfl)
            have n270 : bl ≠ eo := hne k_bl k_eo (Nat.ne_of_beq_eq_false rfl)
            have h271 : f164 bl = some (.inl (cI G, 3, .inl gl)) := k167.1 _ _ h267 (Nat.ne_of_beq_eq_false rfl) (ninc n270 (ninc n269 (ninc n268 nin0)))
            have n272 : bg ≠ nr0 := hne k_bg k_nr0 (Nat.ne_of_beq_eq_false rfl)
            have n273 : bg ≠ nq0 := hneL k_bg k_nq0 (Nat.ne_of_beq_eq_false rfl)
            have n274 : bg ≠ ez := hne k_bg k_ez (Nat.ne_of_beq_eq_false rfl)
            have h275 : f3 bg = some (.inl (cI G, 60, .inl (nf gv))) := k81.1 _ _ k_bg (Nat.ne_of_beq_eq_false rfl) (ninc n274 (ninc n273 (ninc n272 nin0)))
            have n276 : bg ≠ nr1 := hne k_bg k_nr1 (Nat.ne_of_beq_eq_false rfl)
            have n277 : bg ≠ nq1 := hneL k_bg k_nq1 (Nat.ne_of_beq_eq_false rfl)
            have n278 : bg ≠ eo := hne k_bg k_eo (Nat.ne_of_beq_eq_false rfl)
            have h279 : f164 bg = some (.inl (cI G, 60, .inl (nf gv))) := k167.1 _ _ h275 (Nat.ne_of_beq_eq_false rfl) (ninc n278 (ninc n277 (ninc n276 nin0)))
            exact hp_iret (v := x186) B0 hw hS hr ⟨Nat.le_of_ble_eq_true rfl, Nat.le_of_ble_eq_true rfl⟩ dX4_deliver_24 (⟨⟨_, rfl⟩, ⟨h202, ⟨_, _, _, _, _, _, _, _, _, _, h196, h197, h198, (h95.kp (show hKp [xo, ez, eo, bu, nw0, na0, nq0, nr0, nw1, na1, nq1, nr1, bs, bp, bh, bf, bl, bg] f3 f164 from (k167.mono (fun x9 hx9 => by simp only [List.mem_cons, List.not_mem_nil, or_false] at hx9; rcases hx9 with hx9 | hx9 | hx9 <;> (rw [hx9]; simp))))), (h96.kp (show hKp [xo, ez, eo, bu, nw0, na0, nq0, nr0, nw1, na1, nq1, nr1, bs, bp, bh, bf, bl, bg] f3 f164 from (k167.mono (fun x9 hx9 => by simp only [List.mem_cons, List.not_mem_nil, or_false] at hx9; rcases hx9 with hx9 | hx9 | hx9 <;> (rw [hx9]; simp))))), h97⟩, ⟨_, _, _, _, _, _, _, _, _, _, h178, h179, h180, h181, h182, h183⟩, h208, h214, h220, h223, h231, h239, h247, h255, h263, h271, h279, p166, hB9, hfl9, nd_ez_eo, nd_nr0_nr1, nd_nw0_na0, nd_nw0_nq0, nd_nw0_nw1, nd_nw0_na1, nd_nw0_nq1, nd_na0_nq0, nd_na0_nw1, nd_na0_na1, nd_na0_nq1, nd_nq0_nw1, nd_nq0_na1, nd_nq0_nq1, nd_nw1_na1, nd_nw1_nq1, nd_na1_nq1, nd_bh_bp, nd_bf_bl⟩, ((show hKp [xo, ez, eo, bu, nw0, na0, nq0, nr0, nw1, na1, nq1, nr1, bs, bp, bh, bf, bl, bg] f f3 from (k81.mono (fun x9 hx9 => by simp only [List.mem_cons, List.not_mem_nil, or_false] at hx9; rcases hx9 with hx9 | hx9 | hx9 <;> (rw [hx9]; simp)))).tr (show hKp [xo, ez, eo, bu, nw0, na0, nq0, nr0, nw1, na1, nq1, nr1, bs, bp, bh, bf, bl, bg] f3 f164 from (k167.mono (fun x9 hx9 => by simp only [List.mem_cons, List.not_mem_nil, or_false] at hx9; rcases hx9 with hx9 | hx9 | hx9 <;> (rw [hx9]; simp)))))⟩)
    · subst ev9
      refine W.eq (g2 := F0 m 5 ls [.ref eo]) rfl ?_
      refine hp_S (As := [.ref eo]) (rest := []) B0 hw hS (c_X4_takeFrame hl G f eo nw1 na1 nq1 nr1 mg1 ⟨_, _, _, _, _, _, _, _, _, _, k_eo, k_nq1, k_nr1, fhd1, ftl1, blp1⟩ hPx) mS_X4_takeFrame qM_X4_73 rfl rfl hl9.1 (Nat.le_of_ble_eq_true rfl) ⟨⟨Nat.le_of_ble_eq_true rfl, Nat.le_of_ble_eq_true rfl⟩, Nat.le_of_ble_eq_true rfl, Nat.le_of_ble_eq_true rfl⟩ dX4_deliver_5 (fun E ce q9 f280 H locs hPX hw hS hce hcv hcl => ?_) (fun v f280 H locs hP hw hS => ?_)
      · have hP := hPX
        obtain ⟨eE9, h281, p282, k283⟩ := hP
        obtain ⟨st284, tm285, sr286, li287, lp288, mi289, cn290, gq291, hd292, tl293, h294, h295, h296, h297, h298, h299⟩ := h281
        subst eE9
        have n300 : ez ≠ nr1 := hne k_ez k_nr1 (Nat.ne_of_beq_eq_false rfl)
        have n301 : ez ≠ nq1 := hne k_ez k_nq1 (Nat.ne_of_beq_eq_false rfl)
        have h302 : f280 ez = some (.inr (1, [.ref nw0, .ref na0, .ref nq0, .ref nr0, .int mg0, .int st0, .int tm0, .int sr0, .int li0, .int lp0, .int mi0])) := k283.1 _ _ k_ez (Nat.ne_of_beq_eq_false rfl) (ninc nd_ez_eo (ninc n301 (ninc n300 nin0)))
        have n303 : nq0 ≠ nr1 := hne k_nq0 k_nr1 (Nat.ne_of_beq_eq_false rfl)
        have n304 : nq0 ≠ eo := hne k_nq0 k_eo (Nat.ne_of_beq_eq_false rfl)
        have h305 : f280 nq0 = some (.inl (cI G, 6, .inl gq0)) := k283.1 _ _ k_nq0 (Nat.ne_of_beq_eq_false rfl) (ninc n304 (ninc nd_nq0_nq1 (ninc n303 nin0)))
        have n306 : nr0 ≠ nq1 := hne k_nr0 k_nq1 (Nat.ne_of_beq_eq_false rfl)
        have n307 : nr0 ≠ eo := hne k_nr0 k_eo (Nat.ne_of_beq_eq_false rfl)
        have h308 : f280 nr0 = some (.inr (3, [hd0, tl0, .int cn0])) := k283.1 _ _ k_nr0 (Nat.ne_of_beq_eq_false rfl) (ninc n307 (ninc n306 (ninc nd_nr0_nr1 nin0)))
        have n309 : xo ≠ nr1 := hne k_xo k_nr1 (Nat.ne_of_beq_eq_false rfl)
        have n310 : xo ≠ nq1 := hne k_xo k_nq1 (Nat.ne_of_beq_eq_false rfl)
        have n311 : xo ≠ eo := hne k_xo k_eo (Nat.ne_of_beq_eq_false rfl)
        have h312 : f280 xo = some (.inr (4, [.ref ez, .ref eo, .ref bu])) := k283.1 _ _ k_xo (Nat.ne_of_beq_eq_false rfl) (ninc n311 (ninc n310 (ninc n309 nin0)))
        have n313 : nw0 ≠ nr1 := hne k_nw0 k_nr1 (Nat.ne_of_beq_eq_false rfl)
        have n314 : nw0 ≠ eo := hne k_nw0 k_eo (Nat.ne_of_beq_eq_false rfl)
        have h315 : f280 nw0 = some (.inl (cI G, 6, .inl gw0)) := k283.1 _ _ k_nw0 (Nat.ne_of_beq_eq_false rfl) (ninc n314 (ninc nd_nw0_nq1 (ninc n313 nin0)))
        have n316 : na0 ≠ nr1 := hne k_na0 k_nr1 (Nat.ne_of_beq_eq_false rfl)
        have n317 : na0 ≠ eo := hne k_na0 k_eo (Nat.ne_of_beq_eq_false rfl)
        have h318 : f280 na0 = some (.inl (cI G, 6, .inl ga0)) := k283.1 _ _ k_na0 (Nat.ne_of_beq_eq_false rfl) (ninc n317 (ninc nd_na0_nq1 (ninc n316 nin0)))
        have n319 : nw1 ≠ nr1 := hne k_nw1 k_nr1 (Nat.ne_of_beq_eq_false rfl)
        have n320 : nw1 ≠ eo := hne k_nw1 k_eo (Nat.ne_of_beq_eq_false rfl)
        have h321 : f280 nw1 = some (.inl (cI G, 6, .inl gw1)) := k283.1 _ _ k_nw1 (Nat.ne_of_beq_eq_false rfl) (ninc n320 (ninc nd_nw1_nq1 (ninc n319 nin0)))
        have n322 : na1 ≠ nr1 := hne k_na1 k_nr1 (Nat.ne_of_beq_eq_false rfl)
        have n323 : na1 ≠ eo := hne k_na1 k_eo (Nat.ne_of_beq_eq_false rfl)
        have h324 : f280 na1 = some (.inl (cI G, 6, .inl ga1)) := k283.1 _ _ k_na1 (Nat.ne_of_beq_eq_false rfl) (ninc n323 (ninc nd_na1_nq1 (ninc n322 nin0)))
        have n325 : bu ≠ nr1 := hne k_bu k_nr1 (Nat.ne_of_beq_eq_false rfl)
        have n326 : bu ≠ nq1 := hne k_bu k_nq1 (Nat.ne_of_beq_eq_false rfl)
        have n327 : bu ≠ eo := hne k_bu k_eo (Nat.ne_of_beq_eq_false rfl)
        have h328 : f280 bu = some (.inr (0, [.ref bs, .ref bp, .ref bh, .ref bf, .ref bl, .ref bg, .int (nI n), .int (nI cg), .int (nI x)])) := k283.1 _ _ k_bu (Nat.ne_of_beq_eq_false rfl) (ninc n327 (ninc n326 (ninc n325 nin0)))
        have n329 : bs ≠ nr1 := hne k_bs k_nr1 (Nat.ne_of_beq_eq_false rfl)
        have n330 : bs ≠ nq1 := hneL k_bs k_nq1 (Nat.ne_of_beq_eq_false rfl)
        have n331 : bs ≠ eo := hne k_bs k_eo (Nat.ne_of_beq_eq_false rfl)
        have h332 : f280 bs = some (.inl (cI G, 61, .inl (nf sa))) := k283.1 _ _ k_bs (Nat.ne_of_beq_eq_false rfl) (ninc n331 (ninc n330 (ninc n329 nin0)))
        have n333 : bp ≠ nr1 := hne k_bp k_nr1 (Nat.ne_of_beq_eq_false rfl)
        have n334 : bp ≠ nq1 := hneL k_bp k_nq1 (Nat.ne_of_beq_eq_false rfl)
        have n335 : bp ≠ eo := hne k_bp k_eo (Nat.ne_of_beq_eq_false rfl)
        have h336 : f280 bp = some (.inl (cI G, 240, .inl (nf pk))) := k283.1 _ _ k_bp (Nat.ne_of_beq_eq_false rfl) (ninc n335 (ninc n334 (ninc n333 nin0)))
        have n337 : bh ≠ nr1 := hne k_bh k_nr1 (Nat.ne_of_beq_eq_false rfl)
        have n338 : bh ≠ nq1 := hneL k_bh k_nq1 (Nat.ne_of_beq_eq_false rfl)
        have n339 : bh ≠ eo := hne k_bh k_eo (Nat.ne_of_beq_eq_false rfl)
        have h340 : f280 bh = some (.inl (cZ G, 240, .inl gh)) := k283.1 _ _ k_bh (Nat.ne_of_beq_eq_false rfl) (ninc n339 (ninc n338 (ninc n337 nin0)))
        have n341 : bf ≠ nr1 := hne k_bf k_nr1 (Nat.ne_of_beq_eq_false rfl)
        have n342 : bf ≠ nq1 := hneL k_bf k_nq1 (Nat.ne_of_beq_eq_false rfl)
        have n343 : bf ≠ eo := hne k_bf k_eo (Nat.ne_of_beq_eq_false rfl)
        have h344 : f280 bf = some (.inl (cI G, 3, .inl (nf fl))) := k283.1 _ _ k_bf (Nat.ne_of_beq_eq_false rfl) (ninc n343 (ninc n342 (ninc n341 nin0)))
        have n345 : bl ≠ nr1 := hne k_bl k_nr1 (Nat.ne_of_beq_eq_false rfl)
        have n346 : bl ≠ nq1 := hneL k_bl k_nq1 (Nat.ne_of_beq_eq_false rfl)
        have n347 : bl ≠ eo := hne k_bl k_eo (Nat.ne_of_beq_eq_false rfl)
        have h348 : f280 bl = some (.inl (cI G, 3, .inl gl)) := k283.1 _ _ k_bl (Nat.ne_of_beq_eq_false rfl) (ninc n347 (ninc n346 (ninc n345 nin0)))
        have n349 : bg ≠ nr1 := hne k_bg k_nr1 (Nat.ne_of_beq_eq_false rfl)
        have n350 : bg ≠ nq1 := hneL k_bg k_nq1 (Nat.ne_of_beq_eq_false rfl)
        have n351 : bg ≠ eo := hne k_bg k_eo (Nat.ne_of_beq_eq_false rfl)
        have h352 : f280 bg = some (.inl (cI G, 60, .inl (nf gv))) := k283.1 _ _ k_bg (Nat.ne_of_beq_eq_false rfl) (ninc n351 (ninc n350 (ninc n349 nin0)))
        exact hp_out B0 hw hS hout hce hcv hcl ⟨Nat.le_of_ble_eq_true rfl, Nat.le_of_ble_eq_true rfl⟩ (⟨(Or.inr rfl), ⟨h312, ⟨_, _, _, _, _, _, _, _, _, _, h302, h305, h308, (fhd0.kp (show hKp [xo, ez, eo, bu, nw0, na0, nq0, nr0, nw1, na1, nq1, nr1, bs, bp, bh, bf, bl, bg] f f280 from (k283.mono (fun x9 hx9 => by simp only [List.mem_cons, List.not_mem_nil, or_false] at hx9; rcases hx9 with hx9 | hx9 | hx9 <;> (rw [hx9]; simp))))), (ftl0.kp (show hKp [xo, ez, eo, bu, nw0, na0, nq0, nr0, nw1, na1, nq1, nr1, bs, bp, bh, bf, bl, bg] f f280 from (k283.mono (fun x9 hx9 => by simp only [List.mem_cons, List.not_mem_nil, or_false] at hx9; rcases hx9 with hx9 | hx9 | hx9 <;> (rw [hx9]; simp))))), blp0⟩, ⟨_, _, _, _, _, _, _, _, _, _, h294, h295, h296, h297, h298, h299⟩, h315, h318, h321, h324, h328, h332, h336, h340, h344, h348, h352, p282, hB9, hfl9, nd_ez_eo, nd_nr0_nr1, nd_nw0_na0, nd_nw0_nq0, nd_nw0_nw1, nd_nw0_na1, nd_nw0_nq1, nd_na0_nq0, nd_na0_nw1, nd_na0_na1, nd_na0_nq1, nd_nq0_nw1, nd_nq0_na1, nd_nq0_nq1, nd_nw1_na1, nd_nw1_nq1, nd_na1_nq1, nd_bh_bp, nd_bf_bl⟩, (show hKp [xo, ez, eo, bu, nw0, na0, nq0, nr0, nw1, na1, nq1, nr1, bs, bp, bh, bf, bl, bg] f f280 from (k283.mono (fun x9 hx9 => by simp only [List.mem_cons, List.not_mem_nil, or_false] at hx9; rcases hx9 with hx9 | hx9 | hx9 <;> (rw [hx9]; simp))))⟩)
      · obtain ⟨⟨t353, k354, ev9, h355⟩, h356, p357, k358⟩ := hP
        obtain ⟨st359, tm360, sr361, li362, lp363, mi364, cn365, gq366, hd367, tl368, h369, h370, h371, h372, h373, h374⟩ := h356
        subst ev9
        refine W.eq (g2 := F0 m 8 ls [.ref t353]) rfl ?_
        refine lv_astore_n (lv' := [(2, .ref t353), (0, .ref xo), (1, .int i)]) hx hb dX4_deliver_8 rfl hl9 (by decide) rfl (fun ls hl9 => ?_)
        refine lv_aload_n hx hb dX4_deliver_9 rfl (lv_at hl9 1 rfl) ?_
        refine lv_iconst (v := 1) hx hb dX4_deliver_10 (by decide) ?_
        refine lv_iload_n hx hb dX4_deliver_11 rfl (lv_at hl9 2 rfl) ?_
        refine lv_isub hx hb dX4_deliver_12 ?_
        refine hp_c (v := 0) (by rw [k2]; rfl) ?_
        have n375 : xo ≠ nr1 := hne k_xo k_nr1 (Nat.ne_of_beq_eq_false rfl)
        have n376 : xo ≠ nq1 := hne k_xo k_nq1 (Nat.ne_of_beq_eq_false rfl)
        have n377 : xo ≠ eo := hne k_xo k_eo (Nat.ne_of_beq_eq_false rfl)
        have h378 : f280 xo = some (.inr (4, [.ref ez, .ref eo, .ref bu])) := k358.1 _ _ k_xo (Nat.ne_of_beq_eq_false rfl) (ninc n377 (ninc n376 (ninc n375 nin0)))
        refine hp_V (ci := 4) (As := [.int 0]) (rest := []) B0 hw hS (c_X4_endAt hl G f280 xo ez eo bu h378 0) mV_X4_endAt qM_X4_28 rfl h378 rfl rfl hl9.1 (Nat.le_of_ble_eq_true rfl) ⟨⟨Nat.le_of_ble_eq_true rfl, Nat.le_of_ble_eq_true rfl⟩, Nat.le_of_ble_eq_true rfl, Nat.le_of_ble_eq_true rfl⟩ dX4_deliver_13 (fun E ce q9 f379 H locs hPX hw hS hce hcv hcl => ?_) (fun v f379 H locs hP hw hS => ?_)
        · obtain ⟨ef9, eE9, hE9⟩ := hPX
          rw [ef9] at hw
          subst eE9
          have n380 : ez ≠ nr1 := hne k_ez k_nr1 (Nat.ne_of_beq_eq_false rfl)
          have n381 : ez ≠ nq1 := hne k_ez k_nq1 (Nat.ne_of_beq_eq_false rfl)
          have h382 : f280 ez = some (.inr (1, [.ref nw0, .ref na0, .ref nq0, .ref nr0, .int mg0, .int st0, .int tm0, .int sr0, .int li0, .int lp0, .int mi0])) := k358.1 _ _ k_ez (Nat.ne_of_beq_eq_false rfl) (ninc nd_ez_eo (ninc n381 (ninc n380 nin0)))
          have n383 : nq0 ≠ nr1 := hne k_nq0 k_nr1 (Nat.ne_of_beq_eq_false rfl)
          have n384 : nq0 ≠ eo := hne k_nq0 k_eo (Nat.ne_of_beq_eq_false rfl)
          have h385 : f280 nq0 = some (.inl (cI G, 6, .inl gq0)) := k358.1 _ _ k_nq0 (Nat.ne_of_beq_eq_false rfl) (ninc n384 (ninc nd_nq0_nq1 (ninc n383 nin0)))
          have n386 : nr0 ≠ nq1 := hne k_nr0 k_nq1 (Nat.ne_of_beq_eq_false rfl)
          have n387 : nr0 ≠ eo := hne k_nr0 k_eo (Nat.ne_of_beq_eq_false rfl)
          have h388 : f280 nr0 = some (.inr (3, [hd0, tl0, .int cn0])) := k358.1 _ _ k_nr0 (Nat.ne_of_beq_eq_false rfl) (ninc n387 (ninc n386 (ninc nd_nr0_nr1 nin0)))
          have n389 : nw0 ≠ nr1 := hne k_nw0 k_nr1 (Nat.ne_of_beq_eq_false rfl)
          have n390 : nw0 ≠ eo := hne k_nw0 k_eo (Nat.ne_of_beq_eq_false rfl)
          have h391 : f280 nw0 = some (.inl (cI G, 6, .inl gw0)) := k358.1 _ _ k_nw0 (Nat.ne_of_beq_eq_false rfl) (ninc n390 (ninc nd_nw0_nq1 (ninc n389 nin0)))
          have n392 : na0 ≠ nr1 := hne k_na0 k_nr1 (Nat.ne_of_beq_eq_false rfl)
          have n393 : na0 ≠ eo := hne k_na0 k_eo (Nat.ne_of_beq_eq_false rfl)
          have h394 : f280 na0 = some (.inl (cI G, 6, .inl ga0)) := k358.1 _ _ k_na0 (Nat.ne_of_beq_eq_false rfl) (ninc n393 (ninc nd_na0_nq1 (ninc n392 nin0)))
          have n395 : nw1 ≠ nr1 := hne k_nw1 k_nr1 (Nat.ne_of_beq_eq_false rfl)
          have n396 : nw1 ≠ eo := hne k_nw1 k_eo (Nat.ne_of_beq_eq_false rfl)
          have h397 : f280 nw1 = some (.inl (cI G, 6, .inl gw1)) := k358.1 _ _ k_nw1 (Nat.ne_of_beq_eq_false rfl) (ninc n396 (ninc nd_nw1_nq1 (ninc n395 nin0)))
          have n398 : na1 ≠ nr1 := hne k_na1 k_nr1 (Nat.ne_of_beq_eq_false rfl)
          have n399 : na1 ≠ eo := hne k_na1 k_eo (Nat.ne_of_beq_eq_false rfl)
          have h400 : f280 na1 = some (.inl (cI G, 6, .inl ga1)) := k358.1 _ _ k_na1 (Nat.ne_of_beq_eq_false rfl) (ninc n399 (ninc nd_na1_nq1 (ninc n398 nin0)))
          have n401 : bu ≠ nr1 := hne k_bu k_nr1 (Nat.ne_of_beq_eq_false rfl)
          have n402 : bu ≠ nq1 := hne k_bu k_nq1 (Nat.ne_of_beq_eq_false rfl)
          have n403 : bu ≠ eo := hne k_bu k_eo (Nat.ne_of_beq_eq_false rfl)
          have h404 : f280 bu = some (.inr (0, [.ref bs, .ref bp, .ref bh, .ref bf, .ref bl, .ref bg, .int (nI n), .int (nI cg), .int (nI x)])) := k358.1 _ _ k_bu (Nat.ne_of_beq_eq_false rfl) (ninc n403 (ninc n402 (ninc n401 nin0)))
          have n405 : bs ≠ nr1 := hne k_bs k_nr1 (Nat.ne_of_beq_eq_false rfl)
          have n406 : bs ≠ nq1 := hneL k_bs k_nq1 (Nat.ne_of_beq_eq_false rfl)
          have n407 : bs ≠ eo := hne k_bs k_eo (Nat.ne_of_beq_eq_false rfl)
          have h408 : f280 bs = some (.inl (cI G, 61, .inl (nf sa))) := k358.1 _ _ k_bs (Nat.ne_of_beq_eq_false rfl) (ninc n407 (ninc n406 (ninc n405 nin0)))
          have n409 : bp ≠ nr1 := hne k_bp k_nr1 (Nat.ne_of_beq_eq_false rfl)
          have n410 : bp ≠ nq1 := hneL k_bp k_nq1 (Nat.ne_of_beq_eq_false rfl)
          have n411 : bp ≠ eo := hne k_bp k_eo (Nat.ne_of_beq_eq_false rfl)
          have h412 : f280 bp = some (.inl (cI G, 240, .inl (nf pk))) := k358.1 _ _ k_bp (Nat.ne_of_beq_eq_false rfl) (ninc n411 (ninc n410 (ninc n409 nin0)))
          have n413 : bh ≠ nr1 := hne k_bh k_nr1 (Nat.ne_of_beq_eq_false rfl)
          have n414 : bh ≠ nq1 := hneL k_bh k_nq1 (Nat.ne_of_beq_eq_false rfl)
          have n415 : bh ≠ eo := hne k_bh k_eo (Nat.ne_of_beq_eq_false rfl)
          have h416 : f280 bh = some (.inl (cZ G, 240, .inl gh)) := k358.1 _ _ k_bh (Nat.ne_of_beq_eq_false rfl) (ninc n415 (ninc n414 (ninc n413 nin0)))
          have n417 : bf ≠ nr1 := hne k_bf k_nr1 (Nat.ne_of_beq_eq_false rfl)
          have n418 : bf ≠ nq1 := hneL k_bf k_nq1 (Nat.ne_of_beq_eq_false rfl)
          have n419 : bf ≠ eo := hne k_bf k_eo (Nat.ne_of_beq_eq_false rfl)
          have h420 : f280 bf = some (.inl (cI G, 3, .inl (nf fl))) := k358.1 _ _ k_bf (Nat.ne_of_beq_eq_false rfl) (ninc n419 (ninc n418 (ninc n417 nin0)))
          have n421 : bl ≠ nr1 := hne k_bl k_nr1 (Nat.ne_of_beq_eq_false rfl)
          have n422 : bl ≠ nq1 := hneL k_bl k_nq1 (Nat.ne_of_beq_eq_false rfl)
          have n423 : bl ≠ eo := hne k_bl k_eo (Nat.ne_of_beq_eq_false rfl)
          have h424 : f280 bl = some (.inl (cI G, 3, .inl gl)) := k358.1 _ _ k_bl (Nat.ne_of_beq_eq_false rfl) (ninc n423 (ninc n422 (ninc n421 nin0)))
          have n425 : bg ≠ nr1 := hne k_bg k_nr1 (Nat.ne_of_beq_eq_false rfl)
          have n426 : bg ≠ nq1 := hneL k_bg k_nq1 (Nat.ne_of_beq_eq_false rfl)
          have n427 : bg ≠ eo := hne k_bg k_eo (Nat.ne_of_beq_eq_false rfl)
          have h428 : f280 bg = some (.inl (cI G, 60, .inl (nf gv))) := k358.1 _ _ k_bg (Nat.ne_of_beq_eq_false rfl) (ninc n427 (ninc n426 (ninc n425 nin0)))
          exact hp_out B0 hw hS hout hce hcv hcl ⟨Nat.le_of_ble_eq_true rfl, Nat.le_of_ble_eq_true rfl⟩ (⟨(Or.inl rfl), ⟨h378, ⟨_, _, _, _, _, _, _, _, _, _, h382, h385, h388, (fhd0.kp (show hKp [xo, ez, eo, bu, nw0, na0, nq0, nr0, nw1, na1, nq1, nr1, bs, bp, bh, bf, bl, bg] f f280 from (k358.mono (fun x9 hx9 => by simp only [List.mem_cons, List.not_mem_nil, or_false] at hx9; rcases hx9 with hx9 | hx9 | hx9 <;> (rw [hx9]; simp))))), (ftl0.kp (show hKp [xo, ez, eo, bu, nw0, na0, nq0, nr0, nw1, na1, nq1, nr1, bs, bp, bh, bf, bl, bg] f f280 from (k358.mono (fun x9 hx9 => by simp only [List.mem_cons, List.not_mem_nil, or_false] at hx9; rcases hx9 with hx9 | hx9 | hx9 <;> (rw [hx9]; simp))))), blp0⟩, ⟨_, _, _, _, _, _, _, _, _, _, h369, h370, h371, h372, h373, h374⟩, h391, h394, h397, h400, h404, h408, h412, h416, h420, h424, h428, p357, hB9, hfl9, nd_ez_eo, nd_nr0_nr1, nd_nw0_na0, nd_nw0_nq0, nd_nw0_nw1, nd_nw0_na1, nd_nw0_nq1, nd_na0_nq0, nd_na0_nw1, nd_na0_na1, nd_na0_nq1, nd_nq0_nw1, nd_nq0_na1, nd_nq0_nq1, nd_nw1_na1, nd_nw1_nq1, nd_na1_nq1, nd_bh_bp, nd_bf_bl⟩, (show hKp [xo, ez, eo, bu, nw0, na0, nq0, nr0, nw1, na1, nq1, nr1, bs, bp, bh, bf, bl, bg] f f280 from (k358.mono (fun x9 hx9 => by simp only [List.mem_cons, List.not_mem_nil, or_false] at hx9; rcases hx9 with hx9 | hx9 | hx9 <;> (rw [hx9]; simp))))⟩)
        · obtain ⟨ef9, hv9⟩ := hP
          rw [ef9] at hw
          rcases hv9 with ⟨k9, ev9⟩ | ⟨k9, ev9⟩
          swap; exact absurd k9 (by decide)
          subst ev9
          refine W.eq (g2 := F0 m 16 ls [.ref ez]) rfl ?_
          refine lv_aload_n hx hb dX4_deliver_16 rfl (lv_at hl9 0 rfl) ?_
          have n429 : ez ≠ nr1 := hne k_ez k_nr1 (Nat.ne_of_beq_eq_false rfl)
          have n430 : ez ≠ nq1 := hne k_ez k_nq1 (Nat.ne_of_beq_eq_false rfl)
          have h431 : f280 ez = some (.inr (1, [.ref nw0, .ref na0, .ref nq0, .ref nr0, .int mg0, .int st0, .int tm0, .int sr0, .int li0, .int lp0, .int mi0])) := k358.1 _ _ k_ez (Nat.ne_of_beq_eq_false rfl) (ninc nd_ez_eo (ninc n430 (ninc n429 nin0)))
          have n432 : nq0 ≠ nr1 := hne k_nq0 k_nr1 (Nat.ne_of_beq_eq_false rfl)
          have n433 : nq0 ≠ eo := hne k_nq0 k_eo (Nat.ne_of_beq_eq_false rfl)
          have h434 : f280 nq0 = some (.inl (cI G, 6, .inl gq0)) := k358.1 _ _ k_nq0 (Nat.ne_of_beq_eq_false rfl) (ninc n433 (ninc nd_nq0_nq1 (ninc n432 nin0)))
          have n435 : nr0 ≠ nq1 := hne k_nr0 k_nq1 (Nat.ne_of_beq_eq_false rfl)
          have n436 : nr0 ≠ eo := hne k_nr0 k_eo (Nat.ne_of_beq_eq_false rfl)
          have h437 : f280 nr0 = some (.inr (3, [hd0, tl0, .int cn0])) := k358.1 _ _ k_nr0 (Nat.ne_of_beq_eq_false rfl) (ninc n436 (ninc n435 (ninc nd_nr0_nr1 nin0)))
          have n438 : na0 ≠ nr1 := hne k_na0 k_nr1 (Nat.ne_of_beq_eq_false rfl)
          have n439 : na0 ≠ eo := hne k_na0 k_eo (Nat.ne_of_beq_eq_false rfl)
          have h440 : f280 na0 = some (.inl (cI G, 6, .inl ga0)) := k358.1 _ _ k_na0 (Nat.ne_of_beq_eq_false rfl) (ninc n439 (ninc nd_na0_nq1 (ninc n438 nin0)))
          refine hp_V (ci := 1) (As := [.ref t353]) (rest := []) B0 hw hS (c_X1_hear hl G f280 ez nw0 na0 nq0 nr0 mg0 ⟨_, _, _, _, _, _, _, _, _, _, h431, h434, h437, (fhd0.kp (show hKp [xo, ez, eo, bu, nw0, na0, nq0, nr0, nw1, na1, nq1, nr1, bs, bp, bh, bf, bl, bg] f f280 from (k358.mono (fun x9 hx9 => by simp only [List.mem_cons, List.not_mem_nil, or_false] at hx9; rcases hx9 with hx9 | hx9 | hx9 <;> (rw [hx9]; simp))))), (ftl0.kp (show hKp [xo, ez, eo, bu, nw0, na0, nq0, nr0, nw1, na1, nq1, nr1, bs, bp, bh, bf, bl, bg] f f280 from (k358.mono (fun x9 hx9 => by simp only [List.mem_cons, List.not_mem_nil, or_false] at hx9; rcases hx9 with hx9 | hx9 | hx9 <;> (rw [hx9]; simp))))), blp0⟩ p357 ga0 h440 nd_na0_nq0 t353 _ h355) mV_X1_hear qM_X4_77 rfl h431 rfl rfl hl9.1 (Nat.le_of_ble_eq_true rfl) ⟨⟨Nat.le_of_ble_eq_true rfl, Nat.le_of_ble_eq_true rfl⟩, Nat.le_of_ble_eq_true rfl, Nat.le_of_ble_eq_true rfl⟩ dX4_deliver_17 (fun E ce q9 f441 H locs hPX hw hS hce hcv hcl => ?_) (fun v f441 H locs hP hw hS => ?_)
          · exact hPX.elim
          · obtain ⟨ev9, h442, p443, k444⟩ := hP
            obtain ⟨st445, tm446, sr447, li448, lp449, mi450, cn451, gq452, hd453, tl454, h455, h456, h457, h458, h459, h460⟩ := h442
            subst ev9
            refine W.eq (g2 := F0 m 20 ls []) rfl ?_
            refine lv_aload_n hx hb dX4_deliver_20 rfl (lv_at hl9 0 rfl) ?_
            obtain ⟨k461, h462⟩ := k444.2 _ _ h355
            obtain ⟨x463, x464, x465, v466, y467, g468, e469, h470, h471⟩ := p443 _ _ h462 nin0
            rw [e469] at h462
            refine hp_get B0 hw 2 rfl in_X2 h462 0 (by decide) qF_X4_81 rfl dX4_deliver_21 ?_
            have h473 : f441 eo = some (.inr (1, [.ref nw1, .ref na1, .ref nq1, .ref nr1, .int mg1, .int st359, .int tm360, .int sr361, .int li362, .int lp363, .int mi364])) := k444.1 _ _ h369 (Nat.ne_of_beq_eq_false rfl) (ninc (Ne.symm nd_ez_eo) (ninc (Ne.symm n433) (ninc (Ne.symm n436) nin0)))
            have h474 : f441 nq1 = some (.inl (cI G, 6, .inl gq366)) := k444.1 _ _ h370 (Nat.ne_of_beq_eq_false rfl) (ninc (Ne.symm n430) (ninc (Ne.symm nd_nq0_nq1) (ninc (Ne.symm n435) nin0)))
            have h475 : f441 nr1 = some (.inr (3, [hd367, tl368, .int cn365])) := k444.1 _ _ h371 (Nat.ne_of_beq_eq_false rfl) (ninc (Ne.symm n429) (ninc (Ne.symm n432) (ninc (Ne.symm nd_nr0_nr1) nin0)))
            have n476 : xo ≠ nr0 := hne k_xo k_nr0 (Nat.ne_of_beq_eq_false rfl)
            have n477 : xo ≠ nq0 := hne k_xo k_nq0 (Nat.ne_of_beq_eq_false rfl)
            have n478 : xo ≠ ez := hne k_xo k_ez (Nat.ne_of_beq_eq_false rfl)
            have h479 : f441 xo = some (.inr (4, [.ref ez, .ref eo, .ref bu])) := k444.1 _ _ h378 (Nat.ne_of_beq_eq_false rfl) (ninc n478 (ninc n477 (ninc n476 nin0)))
            have n480 : nw0 ≠ nr1 := hne k_nw0 k_nr1 (Nat.ne_of_beq_eq_false rfl)
            have n481 : nw0 ≠ eo := hne k_nw0 k_eo (Nat.ne_of_beq_eq_false rfl)
            have h482 : f280 nw0 = some (.inl (cI G, 6, .inl gw0)) := k358.1 _ _ k_nw0 (Nat.ne_of_beq_eq_false rfl) (ninc n481 (ninc nd_nw0_nq1 (ninc n480 nin0)))
            have n483 : nw0 ≠ nr0 := hne k_nw0 k_nr0 (Nat.ne_of_beq_eq_false rfl)
            have n484 : nw0 ≠ ez := hne k_nw0 k_ez (Nat.ne_of_beq_eq_false rfl)
            have h485 : f441 nw0 = some (.inl (cI G, 6, .inl gw0)) := k444.1 _ _ h482 (Nat.ne_of_beq_eq_false rfl) (ninc n484 (ninc nd_nw0_nq0 (ninc n483 nin0)))
            have n486 : na0 ≠ nr0 := hne k_na0 k_nr0 (Nat.ne_of_beq_eq_false rfl)
            have n487 : na0 ≠ ez := hne k_na0 k_ez (Nat.ne_of_beq_eq_false rfl)
            have h488 : f441 na0 = some (.inl (cI G, 6, .inl ga0)) := k444.1 _ _ h440 (Nat.ne_of_beq_eq_false rfl) (ninc n487 (ninc nd_na0_nq0 (ninc n486 nin0)))
            have n489 : nw1 ≠ nr1 := hne k_nw1 k_nr1 (Nat.ne_of_beq_eq_false rfl)
            have n490 : nw1 ≠ eo := hne k_nw1 k_eo (Nat.ne_of_beq_eq_false rfl)
            have h491 : f280 nw1 = some (.inl (cI G, 6, .inl gw1)) := k358.1 _ _ k_nw1 (Nat.ne_of_beq_eq_false rfl) (ninc n490 (ninc nd_nw1_nq1 (ninc n489 nin0)))
            have n492 : nw1 ≠ nr0 := hne k_nw1 k_nr0 (Nat.ne_of_beq_eq_false rfl)
            have n493 : nw1 ≠ ez := hne k_nw1 k_ez (Nat.ne_of_beq_eq_false rfl)
            have h494 : f441 nw1 = some (.inl (cI G, 6, .inl gw1)) := k444.1 _ _ h491 (Nat.ne_of_beq_eq_false rfl) (ninc n493 (ninc (Ne.symm nd_nq0_nw1) (ninc n492 nin0)))
            have n495 : na1 ≠ nr1 := hne k_na1 k_nr1 (Nat.ne_of_beq_eq_false rfl)
            have n496 : na1 ≠ eo := hne k_na1 k_eo (Nat.ne_of_beq_eq_false rfl)
            have h497 : f280 na1 = some (.inl (cI G, 6, .inl ga1)) := k358.1 _ _ k_na1 (Nat.ne_of_beq_eq_false rfl) (ninc n496 (ninc nd_na1_nq1 (ninc n495 nin0)))
            have n498 : na1 ≠ nr0 := hne k_na1 k_nr0 (Nat.ne_of_beq_eq_false rfl)
            have n499 : na1 ≠ ez := hne k_na1 k_ez (Nat.ne_of_beq_eq_false rfl)
            have h500 : f441 na1 = some (.inl (cI G, 6, .inl ga1)) := k444.1 _ _ h497 (Nat.ne_of_beq_eq_false rfl) (ninc n499 (ninc (Ne.symm nd_nq0_na1) (ninc n498 nin0)))
            have n501 : bu ≠ nr1 := hne k_bu k_nr1 (Nat.ne_of_beq_eq_false rfl)
            have n502 : bu ≠ nq1 := hne k_bu k_nq1 (Nat.ne_of_beq_eq_false rfl)
            have n503 : bu ≠ eo := hne k_bu k_eo (Nat.ne_of_beq_eq_false rfl)
            have h504 : f280 bu = some (.inr (0, [.ref bs, .ref bp, .ref bh, .ref bf, .ref bl, .ref bg, .int (nI n), .int (nI cg), .int (nI x)])) := k358.1 _ _ k_bu (Nat.ne_of_beq_eq_false rfl) (ninc n503 (ninc n502 (ninc n501 nin0)))
            have n505 : bu ≠ nr0 := hne k_bu k_nr0 (Nat.ne_of_beq_eq_false rfl)
            have n506 : bu ≠ nq0 := hne k_bu k_nq0 (Nat.ne_of_beq_eq_false rfl)
            have n507 : bu ≠ ez := hne k_bu k_ez (Nat.ne_of_beq_eq_false rfl)
            have h508 : f441 bu = some (.inr (0, [.ref bs, .ref bp, .ref bh, .ref bf, .ref bl, .ref bg, .int (nI n), .int (nI cg), .int (nI x)])) := k444.1 _ _ h504 (Nat.ne_of_beq_eq_false rfl) (ninc n507 (ninc n506 (ninc n505 nin0)))
            have n509 : bs ≠ nr1 := hne k_bs k_nr1 (Nat.ne_of_beq_eq_false rfl)
            have n510 : bs ≠ nq1 := hneL k_bs k_nq1 (Nat.ne_of_beq_eq_false rfl)
            have n511 : bs ≠ eo := hne k_bs k_eo (Nat.ne_of_beq_eq_false rfl)
            have h512 : f280 bs = some (.inl (cI G, 61, .inl (nf sa))) := k358.1 _ _ k_bs (Nat.ne_of_beq_eq_false rfl) (ninc n511 (ninc n510 (ninc n509 nin0)))
            have n513 : bs ≠ nr0 := hne k_bs k_nr0 (Nat.ne_of_beq_eq_false rfl)
            have n514 : bs ≠ nq0 := hneL k_bs k_nq0 (Nat.ne_of_beq_eq_false rfl)
            have n515 : bs ≠ ez := hne k_bs k_ez (Nat.ne_of_beq_eq_false rfl)
            have h516 : f441 bs = some (.inl (cI G, 61, .inl (nf sa))) := k444.1 _ _ h512 (Nat.ne_of_beq_eq_false rfl) (ninc n515 (ninc n514 (ninc n513 nin0)))
            have n517 : bp ≠ nr1 := hne k_bp k_nr1 (Nat.ne_of_beq_eq_false rfl)
            have n518 : bp ≠ nq1 := hneL k_bp k_nq1 (Nat.ne_of_beq_eq_false rfl)
            have n519 : bp ≠ eo := hne k_bp k_eo (Nat.ne_of_beq_eq_false rfl)
            have h520 : f280 bp = some (.inl (cI G, 240, .inl (nf pk))) := k358.1 _ _ k_bp (Nat.ne_of_beq_eq_false rfl) (ninc n519 (ninc n518 (ninc n517 nin0)))
            have n521 : bp ≠ nr0 := hne k_bp k_nr0 (Nat.ne_of_beq_eq_false rfl)
            have n522 : bp ≠ nq0 := hneL k_bp k_nq0 (Nat.ne_of_beq_eq_false rfl)
            have n523 : bp ≠ ez := hne k_bp k_ez (Nat.ne_of_beq_eq_false rfl)
            have h524 : f441 bp = some (.inl (cI G, 240, .inl (nf pk))) := k444.1 _ _ h520 (Nat.ne_of_beq_eq_false rfl) (ninc n523 (ninc n522 (ninc n521 nin0)))
            have n525 : bh ≠ nr1 := hne k_bh k_nr1 (Nat.ne_of_beq_eq_false rfl)
            have n526 : bh ≠ nq1 := hneL k_bh k_nq1 (Nat.ne_of_beq_eq_false rfl)
            have n527 : bh ≠ eo := hne k_bh k_eo (Nat.ne_of_beq_eq_false rfl)
            have h528 : f280 bh = some (.inl (cZ G, 240, .inl gh)) := k358.1 _ _ k_bh (Nat.ne_of_beq_eq_false rfl) (ninc n527 (ninc n526 (ninc n525 nin0)))
            have n529 : bh ≠ nr0 := hne k_bh k_nr0 (Nat.ne_of_beq_eq_false rfl)
            have n530 : bh ≠ nq0 := hneL k_bh k_nq0 (Nat.ne_of_beq_eq_false rfl)
            have n531 : bh ≠ ez := hne k_bh k_ez (Nat.ne_of_beq_eq_false rfl)
            have h532 : f441 bh = some (.inl (cZ G, 240, .inl gh)) := k444.1 _ _ h528 (Nat.ne_of_beq_eq_false rfl) (ninc n531 (ninc n530 (ninc n529 nin0)))
            have n533 : bf ≠ nr1 := hne k_bf k_nr1 (Nat.ne_of_beq_eq_false rfl)
            have n534 : bf ≠ nq1 := hneL k_bf k_nq1 (Nat.ne_of_beq_eq_false rfl)
            have n535 : bf ≠ eo := hne k_bf k_eo (Nat.ne_of_beq_eq_false rfl)
            have h536 : f280 bf = some (.inl (cI G, 3, .inl (nf fl))) := k358.1 _ _ k_bf (Nat.ne_of_beq_eq_false rfl) (ninc n535 (ninc n534 (ninc n533 nin0)))
            have n537 : bf ≠ nr0 := hne k_bf k_nr0 (Nat.ne_of_beq_eq_false rfl)
            have n538 : bf ≠ nq0 := hneL k_bf k_nq0 (Nat.ne_of_beq_eq_false rfl)
            have n539 : bf ≠ ez := hne k_bf k_ez (Nat.ne_of_beq_eq_false rfl)
            have h540 : f441 bf = some (.inl (cI G, 3, .inl (nf fl))) := k444.1 _ _ h536 (Nat.ne_of_beq_eq_false rfl) (ninc n539 (ninc n538 (ninc n537 nin0)))
            have n541 : bl ≠ nr1 := hne k_bl k_nr1 (Nat.ne_of_beq_eq_false rfl)
            have n542 : bl ≠ nq1 := hneL k_bl k_nq1 (Nat.ne_of_beq_eq_false rfl)
            have n543 : bl ≠ eo := hne k_bl k_eo (Nat.ne_of_beq_eq_false rfl)
            have h544 : f280 bl = some (.inl (cI G, 3, .inl gl)) := k358.1 _ _ k_bl (Nat.ne_of_beq_eq_false rfl) (ninc n543 (ninc n542 (ninc n541 nin0)))
            have n545 : bl ≠ nr0 := hne k_bl k_nr0 (Nat.ne_of_beq_eq_false rfl)
            have n546 : bl ≠ nq0 := hneL k_bl k_nq0 (Nat.ne_of_beq_eq_false rfl)
            have n547 : bl ≠ ez := hne k_bl k_ez (Nat.ne_of_beq_eq_false rfl)
            have h548 : f441 bl = some (.inl (cI G, 3, .inl gl)) := k444.1 _ _ h544 (Nat.ne_of_beq_eq_false rfl) (ninc n547 (ninc n546 (ninc n545 nin0)))
            have n549 : bg ≠ nr1 := hne k_bg k_nr1 (Nat.ne_of_beq_eq_false rfl)
            have n550 : bg ≠ nq1 := hneL k_bg k_nq1 (Nat.ne_of_beq_eq_false rfl)
            have n551 : bg ≠ eo := hne k_bg k_eo (Nat.ne_of_beq_eq_false rfl)
            have h552 : f280 bg = some (.inl (cI G, 60, .inl (nf gv))) := k358.1 _ _ k_bg (Nat.ne_of_beq_eq_false rfl) (ninc n551 (ninc n550 (ninc n549 nin0)))
            have n553 : bg ≠ nr0 := hne k_bg k_nr0 (Nat.ne_of_beq_eq_false rfl)
            have n554 : bg ≠ nq0 := hneL k_bg k_nq0 (Nat.ne_of_beq_eq_false rfl)
            have n555 : bg ≠ ez := hne k_bg k_ez (Nat.ne_of_beq_eq_false rfl)
            have h556 : f441 bg = some (.inl (cI G, 60, .inl (nf gv))) := k444.1 _ _ h552 (Nat.ne_of_beq_eq_false rfl) (ninc n555 (ninc n554 (ninc n553 nin0)))
            exact hp_iret (v := x463) B0 hw hS hr ⟨Nat.le_of_ble_eq_true rfl, Nat.le_of_ble_eq_true rfl⟩ dX4_deliver_24 (⟨⟨_, rfl⟩, ⟨h479, ⟨_, _, _, _, _, _, _, _, _, _, h455, h456, h457, h458, h459, h460⟩, ⟨_, _, _, _, _, _, _, _, _, _, h473, h474, h475, (h372.kp (show hKp [xo, ez, eo, bu, nw0, na0, nq0, nr0, nw1, na1, nq1, nr1, bs, bp, bh, bf, bl, bg] f280 f441 from (k444.mono (fun x9 hx9 => by simp only [List.mem_cons, List.not_mem_nil, or_false] at hx9; rcases hx9 with hx9 | hx9 | hx9 <;> (rw [hx9]; simp))))), (h373.kp (show hKp [xo, ez, eo, bu, nw0, na0, nq0, nr0, nw1, na1, nq1, nr1, bs, bp, bh, bf, bl, bg] f280 f441 from (k444.mono (fun x9 hx9 => by simp only [List.mem_cons, List.not_mem_nil, or_false] at hx9; rcases hx9 with hx9 | hx9 | hx9 <;> (rw [hx9]; simp))))), h374⟩, h485, h488, h494, h500, h508, h516, h524, h532, h540, h548, h556, p443, hB9, hfl9, nd_ez_eo, nd_nr0_nr1, nd_nw0_na0, nd_nw0_nq0, nd_nw0_nw1, nd_nw0_na1, nd_nw0_nq1, nd_na0_nq0, nd_na0_nw1, nd_na0_na1, nd_na0_nq1, nd_nq0_nw1, nd_nq0_na1, nd_nq0_nq1, nd_nw1_na1, nd_nw1_nq1, nd_na1_nq1, nd_bh_bp, nd_bf_bl⟩, ((show hKp [xo, ez, eo, bu, nw0, na0, nq0, nr0, nw1, na1, nq1, nr1, bs, bp, bh, bf, bl, bg] f f280 from (k358.mono (fun x9 hx9 => by simp only [List.mem_cons, List.not_mem_nil, or_false] at hx9; rcases hx9 with hx9 | hx9 | hx9 <;> (rw [hx9]; simp)))).tr (show hKp [xo, ez, eo, bu, nw0, na0, nq0, nr0, nw1, na1, nq1, nr1, bs, bp, bh, bf, bl, bg] f280 f441 from (k444.mono (fun x9 hx9 => by simp only [List.mem_cons, List.not_mem_nil, or_false] at hx9; rcases hx9 with hx9 | hx9 | hx9 <;> (rw [hx9]; simp)))))⟩)

set_option maxHeartbeats 4000000 in
set_option maxRecDepth 100000 in
theorem c_X4_lose {l : Launch} (hl : l.stackTraces = false) (G : hG) (f : hM) (xo ez eo bu nw0 na0 nq0 nr0 nw1 na1 nq1 nr1 bs bp bh bf bl bg : Nat) (gw0 : Nat → Int32) (ga0 : Nat → Int32) (gw1 : Nat → Int32) (ga1 : Nat → Int32) (mg0 : Int32) (mg1 : Int32) (n : Nat) (a : Nat) (cg : Nat) (x : Nat) (sa : Nat → Nat) (pk : Nat → Nat) (fl : Nat → Nat) (gv : Nat → Nat) (gh : Nat → Int32) (gl : Nat → Int32) (hC : CW G f xo ez eo bu nw0 na0 nq0 nr0 nw1 na1 nq1 nr1 bs bp bh bf bl bg gw0 ga0 gw1 ga1 mg0 mg1 n a cg x sa pk fl gv gh gl) (i : Int32) : CT l yX4_lose (.code yX4_lose cX4_lose 4 (some .int)) 7 103 2 12 G [.ref xo, .int i] f (fun v f1 => (∃ r9 : Int32, v = some (.int r9)) ∧ CW G f1 xo ez eo bu nw0 na0 nq0 nr0 nw1 na1 nq1 nr1 bs bp bh bf bl bg gw0 ga0 gw1 ga1 mg0 mg1 n a cg x sa pk fl gv gh gl ∧ hKp [xo, ez, eo, bu, nw0, na0, nq0, nr0, nw1, na1, nq1, nr1, bs, bp, bh, bf, bl, bg] f f1) (fun E f1 => (E = eI ∨ E = eS) ∧ CW G f1 xo ez eo bu nw0 na0 nq0 nr0 nw1 na1 nq1 nr1 bs bp bh bf bl bg gw0 ga0 gw1 ga1 mg0 mg1 n a cg x sa pk fl gv gh gl ∧ hKp [xo, ez, eo, bu, nw0, na0, nq0, nr0, nw1, na1, nq1, nr1, bs, bp, bh, bf, bl, bg] f f1) := by
  refine hp_start hl (own := RX4) (by decide) rfl (Nat.le_of_ble_eq_true rfl) ?_
  intro p e s m args below meth c B0 hr hnm hout hw hS ls hl9
  have hx := B0.1
  have hb := B0.2.1
  have hl9 : lv_has ls 4 [(0, .ref xo), (1, .int i)] := hl9
  obtain ⟨k_xo, ⟨st0, tm0, sr0, li0, lp0, mi0, cn0, gq0, hd0, tl0, k_ez, k_nq0, k_nr0, fhd0, ftl0, blp0⟩, ⟨st1, tm1, sr1, li1, lp1, mi1, cn1, gq1, hd1, tl1, k_eo, k_nq1, k_nr1, fhd1, ftl1, blp1⟩, k_nw0, k_na0, k_nw1, k_na1, k_bu, k_bs, k_bp, k_bh, k_bf, k_bl, k_bg, hPx, hB9, hfl9, nd_ez_eo, nd_nr0_nr1, nd_nw0_na0, nd_nw0_nq0, nd_nw0_nw1, nd_nw0_na1, nd_nw0_nq1, nd_na0_nq0, nd_na0_nw1, nd_na0_na1, nd_na0_nq1, nd_nq0_nw1, nd_nq0_na1, nd_nq0_nq1, nd_nw1_na1, nd_nw1_nq1, nd_na1_nq1, nd_bh_bp, nd_bf_bl⟩ := hC
  refine lv_aload_n hx hb dX4_lose_0 rfl (lv_at hl9 0 rfl) ?_
  refine lv_iload_n hx hb dX4_lose_1 rfl (lv_at hl9 1 rfl) ?_
  refine hp_V (ci := 4) (As := [.int i]) (rest := []) B0 hw hS (c_X4_endAt hl G f xo ez eo bu k_xo i) mV_X4_endAt qM_X4_28 rfl k_xo rfl rfl hl9.1 (Nat.le_of_ble_eq_true rfl) ⟨⟨Nat.le_of_ble_eq_true rfl, Nat.le_of_ble_eq_true rfl⟩, Nat.le_of_ble_eq_true rfl, Nat.le_of_ble_eq_true rfl⟩ dX4_lose_2 (fun E ce q9 f1 H locs hPX hw hS hce hcv hcl => ?_) (fun v f1 H locs hP hw hS => ?_)
  · obtain ⟨ef9, eE9, hE9⟩ := hPX
    rw [ef9] at hw
    subst eE9
    exact hp_out B0 hw hS hout hce hcv hcl ⟨Nat.le_of_ble_eq_true rfl, Nat.le_of_ble_eq_true rfl⟩ (⟨(Or.inl rfl), ⟨k_xo, ⟨_, _, _, _, _, _, _, _, _, _, k_ez, k_nq0, k_nr0, fhd0, ftl0, blp0⟩, ⟨_, _, _, _, _, _, _, _, _, _, k_eo, k_nq1, k_nr1, fhd1, ftl1, blp1⟩, k_nw0, k_na0, k_nw1, k_na1, k_bu, k_bs, k_bp, k_bh, k_bf, k_bl, k_bg, hPx, hB9, hfl9, nd_ez_eo, nd_nr0_nr1, nd_nw0_na0, nd_nw0_nq0, nd_nw0_nw1, nd_nw0_na1, nd_nw0_nq1, nd_na0_nq0, nd_na0_nw1, nd_na0_na1, nd_na0_nq1, nd_nq0_nw1, nd_nq0_na1, nd_nq0_nq1, nd_nw1_na1, nd_nw1_nq1, nd_na1_nq1, nd_bh_bp, nd_bf_bl⟩, hKp.rf⟩)
  · obtain ⟨ef9, hv9⟩ := hP
    rw [ef9] at hw
    rcases hv9 with ⟨k2, ev9⟩ | ⟨k2, ev9⟩
    · subst ev9
      refine W.eq (g2 := F0 m 5 ls [.ref ez]) rfl ?_
      refine lv_astore_n (lv' := [(2, .ref ez), (0, .ref xo), (1, .int i)]) hx hb dX4_lose_5 rfl hl9 (by decide) rfl (fun ls hl9 => ?_)
      refine lv_aload_n hx hb dX4_lose_6 rfl (lv_at hl9 0 rfl) ?_
      refine hp_S (As := [.ref ez]) (rest := []) B0 hw hS (c_X4_takeFrame hl G f ez nw0 na0 nq0 nr0 mg0 ⟨_, _, _, _, _, _, _, _, _, _, k_ez, k_nq0, k_nr0, fhd0, ftl0, blp0⟩ hPx) mS_X4_takeFrame qM_X4_73 rfl rfl hl9.1 (Nat.le_of_ble_eq_true rfl) ⟨⟨Nat.le_of_ble_eq_true rfl, Nat.le_of_ble_eq_true rfl⟩, Nat.le_of_ble_eq_true rfl, Nat.le_of_ble_eq_true rfl⟩ dX4_lose_7 (fun E ce q9 f3 H locs hPX hw hS hce hcv hcl => ?_) (fun v f3 H locs hP hw hS => ?_)
      · have hP := hPX
        obtain ⟨eE9, h4, p5, k6⟩ := hP
        obtain ⟨st7, tm8, sr9, li10, lp11, mi12, cn13, gq14, hd15, tl16, h17, h18, h19, h20, h21, h22⟩ := h4
        subst eE9
        have n23 : eo ≠ nr0 := hne k_eo k_nr0 (Nat.ne_of_beq_eq_false rfl)
        have n24 : eo ≠ nq0 := hne k_eo k_nq0 (Nat.ne_of_beq_eq_false rfl)
        have h25 : f3 eo = some (.inr (1, [.ref nw1, .ref na1, .ref nq1, .ref nr1, .int mg1, .int st1, .int tm1, .int sr1, .int li1, .int lp1, .int mi1])) := k6.1 _ _ k_eo (Nat.ne_of_beq_eq_false rfl) (ninc (Ne.symm nd_ez_eo) (ninc n24 (ninc n23 nin0)))
        have n26 : nq1 ≠ nr0 := hne k_nq1 k_nr0 (Nat.ne_of_beq_eq_false rfl)
        have n27 : nq1 ≠ ez := hne k_nq1 k_ez (Nat.ne_of_beq_eq_false rfl)
        have h28 : f3 nq1 = some (.inl (cI G, 6, .inl gq1)) := k6.1 _ _ k_nq1 (Nat.ne_of_beq_eq_false rfl) (ninc n27 (ninc (Ne.symm nd_nq0_nq1) (ninc n26 nin0)))
        have n29 : nr1 ≠ nq0 := hne k_nr1 k_nq0 (Nat.ne_of_beq_eq_false rfl)
        have n30 : nr1 ≠ ez := hne k_nr1 k_ez (Nat.ne_of_beq_eq_false rfl)
        have h31 : f3 nr1 = some (.inr (3, [hd1, tl1, .int cn1])) := k6.1 _ _ k_nr1 (Nat.ne_of_beq_eq_false rfl) (ninc n30 (ninc n29 (ninc (Ne.symm nd_nr0_nr1) nin0)))
        have n32 : xo ≠ nr0 := hne k_xo k_nr0 (Nat.ne_of_beq_eq_false rfl)
        have n33 : xo ≠ nq0 := hne k_xo k_nq0 (Nat.ne_of_beq_eq_false rfl)
        have n34 : xo ≠ ez := hne k_xo k_ez (Nat.ne_of_beq_eq_false rfl)
        have h35 : f3 xo = some (.inr (4, [.ref ez, .ref eo, .ref bu])) := k6.1 _ _ k_xo (Nat.ne_of_beq_eq_false rfl) (ninc n34 (ninc n33 (ninc n32 nin0)))
        have n36 : nw0 ≠ nr0 := hne k_nw0 k_nr0 (Nat.ne_of_beq_eq_false rfl)
        have n37 : nw0 ≠ ez := hne k_nw0 k_ez (Nat.ne_of_beq_eq_false rfl)
        have h38 : f3 nw0 = some (.inl (cI G, 6, .inl gw0)) := k6.1 _ _ k_nw0 (Nat.ne_of_beq_eq_false rfl) (ninc n37 (ninc nd_nw0_nq0 (ninc n36 nin0)))
        have n39 : na0 ≠ nr0 := hne k_na0 k_nr0 (Nat.ne_of_beq_eq_false rfl)
        have n40 : na0 ≠ ez := hne k_na0 k_ez (Nat.ne_of_beq_eq_false rfl)
        have h41 : f3 na0 = some (.inl (cI G, 6, .inl ga0)) := k6.1 _ _ k_na0 (Nat.ne_of_beq_eq_false rfl) (ninc n40 (ninc nd_na0_nq0 (ninc n39 nin0)))
        have n42 : nw1 ≠ nr0 := hne k_nw1 k_nr0 (Nat.ne_of_beq_eq_false rfl)
        have n43 : nw1 ≠ ez := hne k_nw1 k_ez (Nat.ne_of_beq_eq_false rfl)
        have h44 : f3 nw1 = some (.inl (cI G, 6, .inl gw1)) := k6.1 _ _ k_nw1 (Nat.ne_of_beq_eq_false rfl) (ninc n43 (ninc (Ne.symm nd_nq0_nw1) (ninc n42 nin0)))
        have n45 : na1 ≠ nr0 := hne k_na1 k_nr0 (Nat.ne_of_beq_eq_false rfl)
        have n46 : na1 ≠ ez := hne k_na1 k_ez (Nat.ne_of_beq_eq_false rfl)
        have h47 : f3 na1 = some (.inl (cI G, 6, .inl ga1)) := k6.1 _ _ k_na1 (Nat.ne_of_beq_eq_false rfl) (ninc n46 (ninc (Ne.symm nd_nq0_na1) (ninc n45 nin0)))
        have n48 : bu ≠ nr0 := hne k_bu k_nr0 (Nat.ne_of_beq_eq_false rfl)
        have n49 : bu ≠ nq0 := hne k_bu k_nq0 (Nat.ne_of_beq_eq_false rfl)
        have n50 : bu ≠ ez := hne k_bu k_ez (Nat.ne_of_beq_eq_false rfl)
        have h51 : f3 bu = some (.inr (0, [.ref bs, .ref bp, .ref bh, .ref bf, .ref bl, .ref bg, .int (nI n), .int (nI cg), .int (nI x)])) := k6.1 _ _ k_bu (Nat.ne_of_beq_eq_false rfl) (ninc n50 (ninc n49 (ninc n48 nin0)))
        have n52 : bs ≠ nr0 := hne k_bs k_nr0 (Nat.ne_of_beq_eq_false rfl)
        have n53 : bs ≠ nq0 := hneL k_bs k_nq0 (Nat.ne_of_beq_eq_false rfl)
        have n54 : bs ≠ ez := hne k_bs k_ez (Nat.ne_of_beq_eq_false rfl)
        have h55 : f3 bs = some (.inl (cI G, 61, .inl (nf sa))) := k6.1 _ _ k_bs (Nat.ne_of_beq_eq_false rfl) (ninc n54 (ninc n53 (ninc n52 nin0)))
        have n56 : bp ≠ nr0 := hne k_bp k_nr0 (Nat.ne_of_beq_eq_false rfl)
        have n57 : bp ≠ nq0 := hneL k_bp k_nq0 (Nat.ne_of_beq_eq_false rfl)
        have n58 : bp ≠ ez := hne k_bp k_ez (Nat.ne_of_beq_eq_false rfl)
        have h59 : f3 bp = some (.inl (cI G, 240, .inl (nf pk))) := k6.1 _ _ k_bp (Nat.ne_of_beq_eq_false rfl) (ninc n58 (ninc n57 (ninc n56 nin0)))
        have n60 : bh ≠ nr0 := hne k_bh k_nr0 (Nat.ne_of_beq_eq_false rfl)
        have n61 : bh ≠ nq0 := hneL k_bh k_nq0 (Nat.ne_of_beq_eq_false rfl)
        have n62 : bh ≠ ez := hne k_bh k_ez (Nat.ne_of_beq_eq_false rfl)
        have h63 : f3 bh = some (.inl (cZ G, 240, .inl gh)) := k6.1 _ _ k_bh (Nat.ne_of_beq_eq_false rfl) (ninc n62 (ninc n61 (ninc n60 nin0)))
        have n64 : bf ≠ nr0 := hne k_bf k_nr0 (Nat.ne_of_beq_eq_false rfl)
        have n65 : bf ≠ nq0 := hneL k_bf k_nq0 (Nat.ne_of_beq_eq_false rfl)
        have n66 : bf ≠ ez := hne k_bf k_ez (Nat.ne_of_beq_eq_false rfl)
        have h67 : f3 bf = some (.inl (cI G, 3, .inl (nf fl))) := k6.1 _ _ k_bf (Nat.ne_of_beq_eq_false rfl) (ninc n66 (ninc n65 (ninc n64 nin0)))
        have n68 : bl ≠ nr0 := hne k_bl k_nr0 (Nat.ne_of_beq_eq_false rfl)
        have n69 : bl ≠ nq0 := hneL k_bl k_nq0 (Nat.ne_of_beq_eq_false rfl)
        have n70 : bl ≠ ez := hne k_bl k_ez (Nat.ne_of_beq_eq_false rfl)
        have h71 : f3 bl = some (.inl (cI G, 3, .inl gl)) := k6.1 _ _ k_bl (Nat.ne_of_beq_eq_false rfl) (ninc n70 (ninc n69 (ninc n68 nin0)))
        have n72 : bg ≠ nr0 := hne k_bg k_nr0 (Nat.ne_of_beq_eq_false rfl)
        have n73 : bg ≠ nq0 := hneL k_bg k_nq0 (Nat.ne_of_beq_eq_false rfl)
        have n74 : bg ≠ ez := hne k_bg k_ez (Nat.ne_of_beq_eq_false rfl)
        have h75 : f3 bg = some (.inl (cI G, 60, .inl (nf gv))) := k6.1 _ _ k_bg (Nat.ne_of_beq_eq_false rfl) (ninc n74 (ninc n73 (ninc n72 nin0)))
        exact hp_out B0 hw hS hout hce hcv hcl ⟨Nat.le_of_ble_eq_true rfl, Nat.le_of_ble_eq_true rfl⟩ (⟨(Or.inr rfl), ⟨h35, ⟨_, _, _, _, _, _, _, _, _, _, h17, h18, h19, h20, h21, h22⟩, ⟨_, _, _, _, _, _, _, _, _, _, h25, h28, h31, (fhd1.kp (show hKp [xo, ez, eo, bu, nw0, na0, nq0, nr0, nw1, na1, nq1, nr1, bs, bp, bh, bf, bl, bg] f f3 from (k6.mono (fun x9 hx9 => by simp only [List.mem_cons, List.not_mem_nil, or_false] at hx9; rcases hx9 with hx9 | hx9 | hx9 <;> (rw [hx9]; simp))))), (ftl1.kp (show hKp [xo, ez, eo, bu, nw0, na0, nq0, nr0, nw1, na1, nq1, nr1, bs, bp, bh, bf, bl, bg] f f3 from (k6.mono (fun x9 hx9 => by simp only [List.mem_cons, List.not_mem_nil, or_false] at hx9; rcases hx9 with hx9 | hx9 | hx9 <;> (rw [hx9]; simp))))), blp1⟩, h38, h41, h44, h47, h51, h55, h59, h63, h67, h71, h75, p5, hB9, hfl9, nd_ez_eo, nd_nr0_nr1, nd_nw0_na0, nd_nw0_nq0, nd_nw0_nw1, nd_nw0_na1, nd_nw0_nq1, nd_na0_nq0, nd_na0_nw1, nd_na0_na1, nd_na0_nq1, nd_nq0_nw1, nd_nq0_na1, nd_nq0_nq1, nd_nw1_na1, nd_nw1_nq1, nd_na1_nq1, nd_bh_bp, nd_bf_bl⟩, (show hKp [xo, ez, eo, bu, nw0, na0, nq0, nr0, nw1, na1, nq1, nr1, bs, bp, bh, bf, bl, bg] f f3 from (k6.mono (fun x9 hx9 => by simp only [List.mem_cons, List.not_mem_nil, or_false] at hx9; rcases hx9 with hx9 | hx9 | hx9 <;> (rw [hx9]; simp))))⟩)
      · obtain ⟨⟨t76, k77, ev9, h78⟩, h79, p80, k81⟩ := hP
        obtain ⟨st82, tm83, sr84, li85, lp86, mi87, cn88, gq89, hd90, tl91, h92, h93, h94, h95, h96, h97⟩ := h79
        subst ev9
        refine W.eq (g2 := F0 m 10 ls [.ref t76]) rfl ?_
        refine lv_astore_n (lv' := [(3, .ref t76), (2, .ref ez), (0, .ref xo), (1, .int i)]) hx hb dX4_lose_10 rfl hl9 (by decide) rfl (fun ls hl9 => ?_)
        refine lv_aload_n hx hb dX4_lose_11 rfl (lv_at hl9 1 rfl) ?_
        refine lv_dup hx hb dX4_lose_12 rfl ?_
        refine hp_getN B0 hw 1 rfl in_X1 h92 10 (by decide) oF_X4_86 rfl dX4_lose_13 ?_
        refine lv_iconst (v := 1) hx hb dX4_lose_16 (by decide) ?_
        refine lv_iadd hx hb dX4_lose_17 ?_
        refine hp_putN (fs1 := [.ref nw0, .ref na0, .ref nq0, .ref nr0, .int mg0, .int st82, .int tm83, .int sr84, .int li85, .int lp86, .int (mi87 + 1)]) (ty := .int) B0 hw hS 1 rfl in_X1 tyX1 tyX1_ok nmX1 h92 10 (by decide) oF_X4_86 rfl (by decide +kernel) rfl rfl (Nat.le_of_ble_eq_true rfl) rfl dX4_lose_18 (fun H locs f98 ef98 hw hS => ?_)
        have h99 : f98 ez = some (.inr (1, [.ref nw0, .ref na0, .ref nq0, .ref nr0, .int mg0, .int st82, .int tm83, .int sr84, .int li85, .int lp86, .int (mi87 + 1)])) := by rw [ef98, va_up_self]
        refine lv_aload_n hx hb dX4_lose_21 rfl (lv_at hl9 0 rfl) ?_
        have n101 : t76 ≠ ez := hne h78 h92 (Nat.ne_of_beq_eq_false rfl)
        have h100 : f98 t76 = some (.inr (2, k77)) := by rw [ef98, va_up_ne _ _ n101]; exact h78
        have p102 : PoolX G [] f98 := by rw [ef98]; exact px_upd p80 h92 (Nat.ne_of_beq_eq_false rfl) (Nat.ne_of_beq_eq_false rfl) (fun g9 h9 => nomatch h9)
        obtain ⟨x103, x104, x105, v106, y107, g108, e109, h110, h111⟩ := p102 _ _ h100 nin0
        rw [e109] at h100
        refine hp_get B0 hw 2 rfl in_X2 h100 0 (by decide) qF_X4_81 rfl dX4_lose_22 ?_
        have n114 : nq0 ≠ ez := hne k_nq0 k_ez (Nat.ne_of_beq_eq_false rfl)
        have h113 : f98 nq0 = some (.inl (cI G, 6, .inl gq89)) := by rw [ef98, va_up_ne _ _ n114]; exact h93
        have n116 : nr0 ≠ ez := hne k_nr0 k_ez (Nat.ne_of_beq_eq_false rfl)
        have h115 : f98 nr0 = some (.inr (3, [hd90, tl91, .int cn88])) := by rw [ef98, va_up_ne _ _ n116]; exact h94
        have n117 : eo ≠ nr0 := hne k_eo k_nr0 (Nat.ne_of_beq_eq_false rfl)
        have n118 : eo ≠ nq0 := hne k_eo k_nq0 (Nat.ne_of_beq_eq_false rfl)
        have h119 : f3 eo = some (.inr (1, [.ref nw1, .ref na1, .ref nq1, .ref nr1, .int mg1, .int st1, .int tm1, .int sr1, .int li1, .int lp1, .int mi1])) := k81.1 _ _ k_eo (Nat.ne_of_beq_eq_false rfl) (ninc (Ne.symm nd_ez_eo) (ninc n118 (ninc n117 nin0)))
        have h120 : f98 eo = some (.inr (1, [.ref nw1, .ref na1, .ref nq1, .ref nr1, .int mg1, .int st1, .int tm1, .int sr1, .int li1, .int lp1, .int mi1])) := by rw [ef98, va_up_ne _ _ (Ne.symm nd_ez_eo)]; exact h119
        have n121 : nq1 ≠ nr0 := hne k_nq1 k_nr0 (Nat.ne_of_beq_eq_false rfl)
        have n122 : nq1 ≠ ez := hne k_nq1 k_ez (Nat.ne_of_beq_eq_false rfl)
        have h123 : f3 nq1 = some (.inl (cI G, 6, .inl gq1)) := k81.1 _ _ k_nq1 (Nat.ne_of_beq_eq_false rfl) (ninc n122 (ninc (Ne.symm nd_nq0_nq1) (ninc n121 nin0)))
        have h124 : f98 nq1 = some (.inl (cI G, 6, .inl gq1)) := by rw [ef98, va_up_ne _ _ n122]; exact h123
        have n125 : nr1 ≠ nq0 := hne k_nr1 k_nq0 (Nat.ne_of_beq_eq_false rfl)
        have n126 : nr1 ≠ ez := hne k_nr1 k_ez (Nat.ne_of_beq_eq_false rfl)
        have h127 : f3 nr1 = some (.inr (3, [hd1, tl1, .int cn1])) := k81.1 _ _ k_nr1 (Nat.ne_of_beq_eq_false rfl) (ninc n126 (ninc n125 (ninc (Ne.symm nd_nr0_nr1) nin0)))
        have h128 : f98 nr1 = some (.inr (3, [hd1, tl1, .int cn1])) := by rw [ef98, va_up_ne _ _ n126]; exact h127
        have n129 : xo ≠ nr0 := hne k_xo k_nr0 (Nat.ne_of_beq_eq_false rfl)
        have n130 : xo ≠ nq0 := hne k_xo k_nq0 (Nat.ne_of_beq_eq_false rfl)
        have n131 : xo ≠ ez := hne k_xo k_ez (Nat.ne_of_beq_eq_false rfl)
        have h132 : f3 xo = some (.inr (4, [.ref ez, .ref eo, .ref bu])) := k81.1 _ _ k_xo (Nat.ne_of_beq_eq_false rfl) (ninc n131 (ninc n130 (ninc n129 nin0)))
        have h133 : f98 xo = some (.inr (4, [.ref ez, .ref eo, .ref bu])) := by rw [ef98, va_up_ne _ _ n131]; exact h132
        have n134 : nw0 ≠ nr0 := hne k_nw0 k_nr0 (Nat.ne_of_beq_eq_false rfl)
        have n135 : nw0 ≠ ez := hne k_nw0 k_ez (Nat.ne_of_beq_eq_false rfl)
        have h136 : f3 nw0 = some (.inl (cI G, 6, .inl gw0)) := k81.1 _ _ k_nw0 (Nat.ne_of_beq_eq_false rfl) (ninc n135 (ninc nd_nw0_nq0 (ninc n134 nin0)))
        have h137 : f98 nw0 = some (.inl (cI G, 6, .inl gw0)) := by rw [ef98, va_up_ne _ _ n135]; exact h136
        have n138 : na0 ≠ nr0 := hne k_na0 k_nr0 (Nat.ne_of_beq_eq_false rfl)
        have n139 : na0 ≠ ez := hne k_na0 k_ez (Nat.ne_of_beq_eq_false rfl)
        have h140 : f3 na0 = some (.inl (cI G, 6, .inl ga0)) := k81.1 _ _ k_na0 (Nat.ne_of_beq_eq_false rfl) (ninc n139 (ninc nd_na0_nq0 (ninc n138 nin0)))
        have h141 : f98 na0 = some (.inl (cI G, 6, .inl ga0)) := by rw [ef98, va_up_ne _ _ n139]; exact h140
        have n142 : nw1 ≠ nr0 := hne k_nw1 k_nr0 (Nat.ne_of_beq_eq_false rfl)
        have n143 : nw1 ≠ ez := hne k_nw1 k_ez (Nat.ne_of_beq_eq_false rfl)
        have h144 : f3 nw1 = some (.inl (cI G, 6, .inl gw1)) := k81.1 _ _ k_nw1 (Nat.ne_of_beq_eq_false rfl) (ninc n143 (ninc (Ne.symm nd_nq0_nw1) (ninc n142 nin0)))
        have h145 : f98 nw1 = some (.inl (cI G, 6, .inl gw1)) := by rw [ef98, va_up_ne _ _ n143]; exact h144
        have n146 : na1 ≠ nr0 := hne k_na1 k_nr0 (Nat.ne_of_beq_eq_false rfl)
        have n147 : na1 ≠ ez := hne k_na1 k_ez (Nat.ne_of_beq_eq_false rfl)
        have h148 : f3 na1 = some (.inl (cI G, 6, .inl ga1)) := k81.1 _ _ k_na1 (Nat.ne_of_beq_eq_false rfl) (ninc n147 (ninc (Ne.symm nd_nq0_na1) (ninc n146 nin0)))
        have h149 : f98 na1 = some (.inl (cI G, 6, .inl ga1)) := by rw [ef98, va_up_ne _ _ n147]; exact h148
        have n150 : bu ≠ nr0 := hne k_bu k_nr0 (Nat.ne_of_beq_eq_false rfl)
        have n151 : bu ≠ nq0 := hne k_bu k_nq0 (Nat.ne_of_beq_eq_false rfl)
        have n152 : bu ≠ ez := hne k_bu k_ez (Nat.ne_of_beq_eq_false rfl)
        have h153 : f3 bu = some (.inr (0, [.ref bs, .ref bp, .ref bh, .ref bf, .ref bl, .ref bg, .int (nI n), .int (nI cg), .int (nI x)])) := k81.1 _ _ k_bu (Nat.ne_of_beq_eq_false rfl) (ninc n152 (ninc n151 (ninc n150 nin0)))
        have h154 : f98 bu = some (.inr (0, [.ref bs, .ref bp, .ref bh, .ref bf, .ref bl, .ref bg, .int (nI n), .int (nI cg), .int (nI x)])) := by rw [ef98, va_up_ne _ _ n152]; exact h153
        have n155 : bs ≠ nr0 := hne k_bs k_nr0 (Nat.ne_of_beq_eq_false rfl)
        have n156 : bs ≠ nq0 := hneL k_bs k_nq0 (Nat.ne_of_beq_eq_false rfl)
        have n157 : bs ≠ ez := hne k_bs k_ez (Nat.ne_of_beq_eq_false rfl)
        have h158 : f3 bs = some (.inl (cI G, 61, .inl (nf sa))) := k81.1 _ _ k_bs (Nat.ne_of_beq_eq_false rfl) (ninc n157 (ninc n156 (ninc n155 nin0)))
        have h159 : f98 bs = some (.inl (cI G, 61, .inl (nf sa))) := by rw [ef98, va_up_ne _ _ n157]; exact h158
        have n160 : bp ≠ nr0 := hne k_bp k_nr0 (Nat.ne_of_beq_eq_false rfl)
        have n161 : bp ≠ nq0 := hneL k_bp k_nq0 (Nat.ne_of_beq_eq_false rfl)
        have n162 : bp ≠ ez := hne k_bp k_ez (Nat.ne_of_beq_eq_false rfl)
        have h163 : f3 bp = some (.inl (cI G, 240, .inl (nf pk))) := k81.1 _ _ k_bp (Nat.ne_of_beq_eq_false rfl) (ninc n162 (ninc n161 (ninc n160 nin0)))
        have h164 : f98 bp = some (.inl (cI G, 240, .inl (nf pk))) := by rw [ef98, va_up_ne _ _ n162]; exact h163
        have n165 : bh ≠ nr0 := hne k_bh k_nr0 (Nat.ne_of_beq_eq_false rfl)
        have n166 : bh ≠ nq0 := hneL k_bh k_nq0 (Nat.ne_of_beq_eq_false rfl)
        have n167 : bh ≠ ez := hne k_bh k_ez (Nat.ne_of_beq_eq_false rfl)
        have h168 : f3 bh = some (.inl (cZ G, 240, .inl gh)) := k81.1 _ _ k_bh (Nat.ne_of_beq_eq_false rfl) (ninc n167 (ninc n166 (ninc n165 nin0)))
        have h169 : f98 bh = some (.inl (cZ G, 240, .inl gh)) := by rw [ef98, va_up_ne _ _ n167]; exact h168
        have n170 : bf ≠ nr0 := hne k_bf k_nr0 (Nat.ne_of_beq_eq_false rfl)
        have n171 : bf ≠ nq0 := hneL k_bf k_nq0 (Nat.ne_of_beq_eq_false rfl)
        have n172 : bf ≠ ez := hne k_bf k_ez (Nat.ne_of_beq_eq_false rfl)
        have h173 : f3 bf = some (.inl (cI G, 3, .inl (nf fl))) := k81.1 _ _ k_bf (Nat.ne_of_beq_eq_false rfl) (ninc n172 (ninc n171 (ninc n170 nin0)))
        have h174 : f98 bf = some (.inl (cI G, 3, .inl (nf fl))) := by rw [ef98, va_up_ne _ _ n172]; exact h173
        have n175 : bl ≠ nr0 := hne k_bl k_nr0 (Nat.ne_of_beq_eq_false rfl)
        have n176 : bl ≠ nq0 := hneL k_bl k_nq0 (Nat.ne_of_beq_eq_false rfl)
        have n177 : bl ≠ ez := hne k_bl k_ez (Nat.ne_of_beq_eq_false rfl)
        have h178 : f3 bl = some (.inl (cI G, 3, .inl gl)) := k81.1 _ _ k_bl (Nat.ne_of_beq_eq_false rfl) (ninc n177 (ninc n176 (ninc n175 nin0)))
        have h179 : f98 bl = some (.inl (cI G, 3, .inl gl)) := by rw [ef98, va_up_ne _ _ n177]; exact h178
        have n180 : bg ≠ nr0 := hne k_bg k_nr0 (Nat.ne_of_beq_eq_false rfl)
        have n181 : bg ≠ nq0 := hneL k_bg k_nq0 (Nat.ne_of_beq_eq_false rfl)
        have n182 : bg ≠ ez := hne k_bg k_ez (Nat.ne_of_beq_eq_false rfl)
        have h183 : f3 bg = some (.inl (cI G, 60, .inl (nf gv))) := k81.1 _ _ k_bg (Nat.ne_of_beq_eq_false rfl) (ninc n182 (ninc n181 (ninc n180 nin0)))
        have h184 : f98 bg = some (.inl (cI G, 60, .inl (nf gv))) := by rw [ef98, va_up_ne _ _ n182]; exact h183
        exact hp_iret (v := x103) B0 hw hS hr ⟨Nat.le_of_ble_eq_true rfl, Nat.le_of_ble_eq_true rfl⟩ dX4_lose_25 (⟨⟨_, rfl⟩, ⟨h133, ⟨_, _, _, _, _, _, _, _, _, _, h99, h113, h115, (h95.kp (show hKp [xo, ez, eo, bu, nw0, na0, nq0, nr0, nw1, na1, nq1, nr1, bs, bp, bh, bf, bl, bg] f3 f98 from (by rw [ef98]; exact hKp.up h92 (Nat.ne_of_beq_eq_false rfl) (by simp)))), (h96.kp (show hKp [xo, ez, eo, bu, nw0, na0, nq0, nr0, nw1, na1, nq1, nr1, bs, bp, bh, bf, bl, bg] f3 f98 from (by rw [ef98]; exact hKp.up h92 (Nat.ne_of_beq_eq_false rfl) (by simp)))), h97⟩, ⟨_, _, _, _, _, _, _, _, _, _, h120, h124, h128, (fhd1.kp ((show hKp [xo, ez, eo, bu, nw0, na0, nq0, nr0, nw1, na1, nq1, nr1, bs, bp, bh, bf, bl, bg] f f3 from (k81.mono (fun x9 hx9 => by simp only [List.mem_cons, List.not_mem_nil, or_false] at hx9; rcases hx9 with hx9 | hx9 | hx9 <;> (rw [hx9]; simp)))).tr (show hKp [xo, ez, eo, bu, nw0, na0, nq0, nr0, nw1, na1, nq1, nr1, bs, bp, bh, bf, bl, bg] f3 f98 from (by rw [ef98]; exact hKp.up h92 (Nat.ne_of_beq_eq_false rfl) (by simp))))), (ftl1.kp ((show hKp [xo, ez, eo, bu, nw0, na0, nq0, nr0, nw1, na1, nq1, nr1, bs, bp, bh, bf, bl, bg] f f3 from (k81.mono (fun x9 hx9 => by simp only [List.mem_cons, List.not_mem_nil, or_false] at hx9; rcases hx9 with hx9 | hx9 | hx9 <;> (rw [hx9]; simp)))).tr (show hKp [xo, ez, eo, bu, nw0, na0, nq0, nr0, nw1, na1, nq1, nr1, bs, bp, bh, bf, bl, bg] f3 f98 from (by rw [ef98]; exact hKp.up h92 (Nat.ne_of_beq_eq_false rfl) (by simp))))), blp1⟩, h137, h141, h145, h149, h154, h159, h164, h169, h174, h179, h184, p102, hB9, hfl9, nd_ez_eo, nd_nr0_nr1, nd_nw0_na0, nd_nw0_nq0, nd_nw0_nw1, nd_nw0_na1, nd_nw0_nq1, nd_na0_nq0, nd_na0_nw1, nd_na0_na1, nd_na0_nq1, nd_nq0_nw1, nd_nq0_na1, nd_nq0_nq1, nd_nw1_na1, nd_nw1_nq1, nd_na1_nq1, nd_bh_bp, nd_bf_bl⟩, ((show hKp [xo, ez, eo, bu, nw0, na0, nq0, nr0, nw1, na1, nq1, nr1, bs, bp, bh, bf, bl, bg] f f3 from (k81.mono (fun x9 hx9 => by simp only [List.mem_cons, List.not_mem_nil, or_false] at hx9; rcases hx9 with hx9 | hx9 | hx9 <;> (rw [hx9]; simp)))).tr (show hKp [xo, ez, eo, bu, nw0, na0, nq0, nr0, nw1, na1, nq1, nr1, bs, bp, bh, bf, bl, bg] f3 f98 from (by rw [ef98]; exact hKp.up h92 (Nat.ne_of_beq_eq_false rfl) (by simp))))⟩)
    · subst ev9
      refine W.eq (g2 := F0 m 5 ls [.ref eo]) rfl ?_
      refine lv_astore_n (lv' := [(2, .ref eo), (0, .ref xo), (1, .int i)]) hx hb dX4_lose_5 rfl hl9 (by decide) rfl (fun ls hl9 => ?_)
      refine lv_aload_n hx hb dX4_lose_6 rfl (lv_at hl9 0 rfl) ?_
      refine hp_S (As := [.ref eo]) (rest := []) B0 hw hS (c_X4_takeFrame hl G f eo nw1 na1 nq1 nr1 mg1 ⟨_, _, _, _, _, _, _, _, _, _, k_eo, k_nq1, k_nr1, fhd1, ftl1, blp1⟩ hPx) mS_X4_takeFrame qM_X4_73 rfl rfl hl9.1 (Nat.le_of_ble_eq_true rfl) ⟨⟨Nat.le_of_ble_eq_true rfl, Nat.le_of_ble_eq_true rfl⟩, Nat.le_of_ble_eq_true rfl, Nat.le_of_ble_eq_true rfl⟩ dX4_lose_7 (fun E ce q9 f185 H locs hPX hw hS hce hcv hcl => ?_) (fun v f185 H locs hP hw hS => ?_)
      · have hP := hPX
        obtain ⟨eE9, h186, p187, k188⟩ := hP
        obtain ⟨st189, tm190, sr191, li192, lp193, mi194, cn195, gq196, hd197, tl198, h199, h200, h201, h202, h203, h204⟩ := h186
        subst eE9
        have n205 : ez ≠ nr1 := hne k_ez k_nr1 (Nat.ne_of_beq_eq_false rfl)
        have n206 : ez ≠ nq1 := hne k_ez k_nq1 (Nat.ne_of_beq_eq_false rfl)
        have h207 : f185 ez = some (.inr (1, [.ref nw0, .ref na0, .ref nq0, .ref nr0, .int mg0, .int st0, .int tm0, .int sr0, .int li0, .int lp0, .int mi0])) := k188.1 _ _ k_ez (Nat.ne_of_beq_eq_false rfl) (ninc nd_ez_eo (ninc n206 (ninc n205 nin0)))
        have n208 : nq0 ≠ nr1 := hne k_nq0 k_nr1 (Nat.ne_of_beq_eq_false rfl)
        have n209 : nq0 ≠ eo := hne k_nq0 k_eo (Nat.ne_of_beq_eq_false rfl)
        have h210 : f185 nq0 = some (.inl (cI G, 6, .inl gq0)) := k188.1 _ _ k_nq0 (Nat.ne_of_beq_eq_false rfl) (ninc n209 (ninc nd_nq0_nq1 (ninc n208 nin0)))
        have n211 : nr0 ≠ nq1 := hne k_nr0 k_nq1 (Nat.ne_of_beq_eq_false rfl)
        have n212 : nr0 ≠ eo := hne k_nr0 k_eo (Nat.ne_of_beq_eq_false rfl)
        have h213 : f185 nr0 = some (.inr (3, [hd0, tl0, .int cn0])) := k188.1 _ _ k_nr0 (Nat.ne_of_beq_eq_false rfl) (ninc n212 (ninc n211 (ninc nd_nr0_nr1 nin0)))
        have n214 : xo ≠ nr1 := hne k_xo k_nr1 (Nat.ne_of_beq_eq_false rfl)
        have n215 : xo ≠ nq1 := hne k_xo k_nq1 (Nat.ne_of_beq_eq_false rfl)
        have n216 : xo ≠ eo := hne k_xo k_eo (Nat.ne_of_beq_eq_false rfl)
        have h217 : f185 xo = some (.inr (4, [.ref ez, .ref eo, .ref bu])) := k188.1 _ _ k_xo (Nat.ne_of_beq_eq_false rfl) (ninc n216 (ninc n215 (ninc n214 nin0)))
        have n218 : nw0 ≠ nr1 := hne k_nw0 k_nr1 (Nat.ne_of_beq_eq_false rfl)
        have n219 : nw0 ≠ eo := hne k_nw0 k_eo (Nat.ne_of_beq_eq_false rfl)
        have h220 : f185 nw0 = some (.inl (cI G, 6, .inl gw0)) := k188.1 _ _ k_nw0 (Nat.ne_of_beq_eq_false rfl) (ninc n219 (ninc nd_nw0_nq1 (ninc n218 nin0)))
        have n221 : na0 ≠ nr1 := hne k_na0 k_nr1 (Nat.ne_of_beq_eq_false rfl)
        have n222 : na0 ≠ eo := hne k_na0 k_eo (Nat.ne_of_beq_eq_false rfl)
        have h223 : f185 na0 = some (.inl (cI G, 6, .inl ga0)) := k188.1 _ _ k_na0 (Nat.ne_of_beq_eq_false rfl) (ninc n222 (ninc nd_na0_nq1 (ninc n221 nin0)))
        have n224 : nw1 ≠ nr1 := hne k_nw1 k_nr1 (Nat.ne_of_beq_eq_false rfl)
        have n225 : nw1 ≠ eo := hne k_nw1 k_eo (Nat.ne_of_beq_eq_false rfl)
        have h226 : f185 nw1 = some (.inl (cI G, 6, .inl gw1)) := k188.1 _ _ k_nw1 (Nat.ne_of_beq_eq_false rfl) (ninc n225 (ninc nd_nw1_nq1 (ninc n224 nin0)))
        have n227 : na1 ≠ nr1 := hne k_na1 k_nr1 (Nat.ne_of_beq_eq_false rfl)
        have n228 : na1 ≠ eo := hne k_na1 k_eo (Nat.ne_of_beq_eq_false rfl)
        have h229 : f185 na1 = some (.inl (cI G, 6, .inl ga1)) := k188.1 _ _ k_na1 (Nat.ne_of_beq_eq_false rfl) (ninc n228 (ninc nd_na1_nq1 (ninc n227 nin0)))
        have n230 : bu ≠ nr1 := hne k_bu k_nr1 (Nat.ne_of_beq_eq_false rfl)
        have n231 : bu ≠ nq1 := hne k_bu k_nq1 (Nat.ne_of_beq_eq_false rfl)
        have n232 : bu ≠ eo := hne k_bu k_eo (Nat.ne_of_beq_eq_false rfl)
        have h233 : f185 bu = some (.inr (0, [.ref bs, .ref bp, .ref bh, .ref bf, .ref bl, .ref bg, .int (nI n), .int (nI cg), .int (nI x)])) := k188.1 _ _ k_bu (Nat.ne_of_beq_eq_false rfl) (ninc n232 (ninc n231 (ninc n230 nin0)))
        have n234 : bs ≠ nr1 := hne k_bs k_nr1 (Nat.ne_of_beq_eq_false rfl)
        have n235 : bs ≠ nq1 := hneL k_bs k_nq1 (Nat.ne_of_beq_eq_false rfl)
        have n236 : bs ≠ eo := hne k_bs k_eo (Nat.ne_of_beq_eq_false rfl)
        have h237 : f185 bs = some (.inl (cI G, 61, .inl (nf sa))) := k188.1 _ _ k_bs (Nat.ne_of_beq_eq_false rfl) (ninc n236 (ninc n235 (ninc n234 nin0)))
        have n238 : bp ≠ nr1 := hne k_bp k_nr1 (Nat.ne_of_beq_eq_false rfl)
        have n239 : bp ≠ nq1 := hneL k_bp k_nq1 (Nat.ne_of_beq_eq_false rfl)
        have n240 : bp ≠ eo := hne k_bp k_eo (Nat.ne_of_beq_eq_false rfl)
        have h241 : f185 bp = some (.inl (cI G, 240, .inl (nf pk))) := k188.1 _ _ k_bp (Nat.ne_of_beq_eq_false rfl) (ninc n240 (ninc n239 (ninc n238 nin0)))
        have n242 : bh ≠ nr1 := hne k_bh k_nr1 (Nat.ne_of_beq_eq_false rfl)
        have n243 : bh ≠ nq1 := hneL k_bh k_nq1 (Nat.ne_of_beq_eq_false rfl)
        have n244 : bh ≠ eo := hne k_bh k_eo (Nat.ne_of_beq_eq_false rfl)
        have h245 : f185 bh = some (.inl (cZ G, 240, .inl gh)) := k188.1 _ _ k_bh (Nat.ne_of_beq_eq_false rfl) (ninc n244 (ninc n243 (ninc n242 nin0)))
        have n246 : bf ≠ nr1 := hne k_bf k_nr1 (Nat.ne_of_beq_eq_false rfl)
        have n247 : bf ≠ nq1 := hneL k_bf k_nq1 (Nat.ne_of_beq_eq_false rfl)
        have n248 : bf ≠ eo := hne k_bf k_eo (Nat.ne_of_beq_eq_false rfl)
        have h249 : f185 bf = some (.inl (cI G, 3, .inl (nf fl))) := k188.1 _ _ k_bf (Nat.ne_of_beq_eq_false rfl) (ninc n248 (ninc n247 (ninc n246 nin0)))
        have n250 : bl ≠ nr1 := hne k_bl k_nr1 (Nat.ne_of_beq_eq_false rfl)
        have n251 : bl ≠ nq1 := hneL k_bl k_nq1 (Nat.ne_of_beq_eq_false rfl)
        have n252 : bl ≠ eo := hne k_bl k_eo (Nat.ne_of_beq_eq_false rfl)
        have h253 : f185 bl = some (.inl (cI G, 3, .inl gl)) := k188.1 _ _ k_bl (Nat.ne_of_beq_eq_false rfl) (ninc n252 (ninc n251 (ninc n250 nin0)))
        have n254 : bg ≠ nr1 := hne k_bg k_nr1 (Nat.ne_of_beq_eq_false rfl)
        have n255 : bg ≠ nq1 := hneL k_bg k_nq1 (Nat.ne_of_beq_eq_false rfl)
        have n256 : bg ≠ eo := hne k_bg k_eo (Nat.ne_of_beq_eq_false rfl)
        have h257 : f185 bg = some (.inl (cI G, 60, .inl (nf gv))) := k188.1 _ _ k_bg (Nat.ne_of_beq_eq_false rfl) (ninc n256 (ninc n255 (ninc n254 nin0)))
        exact hp_out B0 hw hS hout hce hcv hcl ⟨Nat.le_of_ble_eq_true rfl, Nat.le_of_ble_eq_true rfl⟩ (⟨(Or.inr rfl), ⟨h217, ⟨_, _, _, _, _, _, _, _, _, _, h207, h210, h213, (fhd0.kp (show hKp [xo, ez, eo, bu, nw0, na0, nq0, nr0, nw1, na1, nq1, nr1, bs, bp, bh, bf, bl, bg] f f185 from (k188.mono (fun x9 hx9 => by simp only [List.mem_cons, List.not_mem_nil, or_false] at hx9; rcases hx9 with hx9 | hx9 | hx9 <;> (rw [hx9]; simp))))), (ftl0.kp (show hKp [xo, ez, eo, bu, nw0, na0, nq0, nr0, nw1, na1, nq1, nr1, bs, bp, bh, bf, bl, bg] f f185 from (k188.mono (fun x9 hx9 => by simp only [List.mem_cons, List.not_mem_nil, or_false] at hx9; rcases hx9 with hx9 | hx9 | hx9 <;> (rw [hx9]; simp))))), blp0⟩, ⟨_, _, _, _, _, _, _, _, _, _, h199, h200, h201, h202, h203, h204⟩, h220, h223, h226, h229, h233, h237, h241, h245, h249, h253, h257, p187, hB9, hfl9, nd_ez_eo, nd_nr0_nr1, nd_nw0_na0, nd_nw0_nq0, nd_nw0_nw1, nd_nw0_na1, nd_nw0_nq1, nd_na0_nq0, nd_na0_nw1, nd_na0_na1, nd_na0_nq1, nd_nq0_nw1, nd_nq0_na1, nd_nq0_nq1, nd_nw1_na1, nd_nw1_nq1, nd_na1_nq1, nd_bh_bp, nd_bf_bl⟩, (show hKp [xo, ez, eo, bu, nw0, na0, nq0, nr0, nw1, na1, nq1, nr1, bs, bp, bh, bf, bl, bg] f f185 from (k188.mono (fun x9 hx9 => by simp only [List.mem_cons, List.not_mem_nil, or_false] at hx9; rcases hx9 with hx9 | hx9 | hx9 <;> (rw [hx9]; simp))))⟩)
      · obtain ⟨⟨t258, k259, ev9, h260⟩, h261, p262, k263⟩ := hP
        obtain ⟨st264, tm265, sr266, li267, lp268, mi269, cn270, gq271, hd272, tl273, h274, h275, h276, h277, h278, h279⟩ := h261
        subst ev9
        refine W.eq (g2 := F0 m 10 ls [.ref t258]) rfl ?_
        refine lv_astore_n (lv' := [(3, .ref t258), (2, .ref eo), (0, .ref xo), (1, .int i)]) hx hb dX4_lose_10 rfl hl9 (by decide) rfl (fun ls hl9 => ?_)
        refine lv_aload_n hx hb dX4_lose_11 rfl (lv_at hl9 1 rfl) ?_
        refine lv_dup hx hb dX4_lose_12 rfl ?_
        refine hp_getN B0 hw 1 rfl in_X1 h274 10 (by decide) oF_X4_86 rfl dX4_lose_13 ?_
        refine lv_iconst (v := 1) hx hb dX4_lose_16 (by decide) ?_
        refine lv_iadd hx hb dX4_lose_17 ?_
        refine hp_putN (fs1 := [.ref nw1, .ref na1, .ref nq1, .ref nr1, .int mg1, .int st264, .int tm265, .int sr266, .int li267, .int lp268, .int (mi269 + 1)]) (ty := .int) B0 hw hS 1 rfl in_X1 tyX1 tyX1_ok nmX1 h274 10 (by decide) oF_X4_86 rfl (by decide +kernel) rfl rfl (Nat.le_of_ble_eq_true rfl) rfl dX4_lose_18 (fun H locs f280 ef280 hw hS => ?_)
        have h281 : f280 eo = some (.inr (1, [.ref nw1, .ref na1, .ref nq1, .ref nr1, .int mg1, .int st264, .int tm265, .int sr266, .int li267, .int lp268, .int (mi269 + 1)])) := by rw [ef280, va_up_self]
        refine lv_aload_n hx hb dX4_lose_21 rfl (lv_at hl9 0 rfl) ?_
        have n283 : t258 ≠ eo := hne h260 h274 (Nat.ne_of_beq_eq_false rfl)
        have h282 : f280 t258 = some (.inr (2, k259)) := by rw [ef280, va_up_ne _ _ n283]; exact h260
        have p284 : PoolX G [] f280 := by rw [ef280]; exact px_upd p262 h274 (Nat.ne_of_beq_eq_false rfl) (Nat.ne_of_beq_eq_false rfl) (fun g9 h9 => nomatch h9)
        obtain ⟨x285, x286, x287, v288, y289, g290, e291, h292, h293⟩ := p284 _ _ h282 nin0
        rw [e291] at h282
        refine hp_get B0 hw 2 rfl in_X2 h282 0 (by decide) qF_X4_81 rfl dX4_lose_22 ?_
        have n295 : ez ≠ nr1 := hne k_ez k_nr1 (Nat.ne_of_beq_eq_false rfl)
        have n296 : ez ≠ nq1 := hne k_ez k_nq1 (Nat.ne_of_beq_eq_false rfl)
        have h297 : f185 ez = some (.inr (1, [.ref nw0, .ref na0, .ref nq0, .ref nr0, .int mg0, .int st0, .int tm0, .int sr0, .int li0, .int lp0, .int mi0])) := k263.1 _ _ k_ez (Nat.ne_of_beq_eq_false rfl) (ninc nd_ez_eo (ninc n296 (ninc n295 nin0)))
        have h298 : f280 ez = some (.inr (1, [.ref nw0, .ref na0, .ref nq0, .ref nr0, .int mg0, .int st0, .int tm0, .int sr0, .int li0, .int lp0, .int mi0])) := by rw [ef280, va_up_ne _ _ nd_ez_eo]; exact h297
        have n299 : nq0 ≠ nr1 := hne k_nq0 k_nr1 (Nat.ne_of_beq_eq_false rfl)
        have n300 : nq0 ≠ eo := hne k_nq0 k_eo (Nat.ne_of_beq_eq_false rfl)
        have h301 : f185 nq0 = some (.inl (cI G, 6, .inl gq0)) := k263.1 _ _ k_nq0 (Nat.ne_of_beq_eq_false rfl) (ninc n300 (ninc nd_nq0_nq1 (ninc n299 nin0)))
        have h302 : f280 nq0 = some (.inl (cI G, 6, .inl gq0)) := by rw [ef280, va_up_ne _ _ n300]; exact h301
        have n303 : nr0 ≠ nq1 := hne k_nr0 k_nq1 (Nat.ne_of_beq_eq_false rfl)
        have n304 : nr0 ≠ eo := hne k_nr0 k_eo (Nat.ne_of_beq_eq_false rfl)
        have h305 : f185 nr0 = some (.inr (3, [hd0, tl0, .int cn0])) := k263.1 _ _ k_nr0 (Nat.ne_of_beq_eq_false rfl) (ninc n304 (ninc n303 (ninc nd_nr0_nr1 nin0)))
        have h306 : f280 nr0 = some (.inr (3, [hd0, tl0, .int cn0])) := by rw [ef280, va_up_ne _ _ n304]; exact h305
        have n308 : nq1 ≠ eo := hne k_nq1 k_eo (Nat.ne_of_beq_eq_false rfl)
        have h307 : f280 nq1 = some (.inl (cI G, 6, .inl gq271)) := by rw [ef280, va_up_ne _ _ n308]; exact h275
        have n310 : nr1 ≠ eo := hne k_nr1 k_eo (Nat.ne_of_beq_eq_false rfl)
        have h309 : f280 nr1 = some (.inr (3, [hd272, tl273, .int cn270])) := by rw [ef280, va_up_ne _ _ n310]; exact h276
        have n311 : xo ≠ nr1 := hne k_xo k_nr1 (Nat.ne_of_beq_eq_false rfl)
        have n312 : xo ≠ nq1 := hne k_xo k_nq1 (Nat.ne_of_beq_eq_false rfl)
        have n313 : xo ≠ eo := hne k_xo k_eo (Nat.ne_of_beq_eq_false rfl)
        have h314 : f185 xo = some (.inr (4, [.ref ez, .ref eo, .ref bu])) := k263.1 _ _ k_xo (Nat.ne_of_beq_eq_false rfl) (ninc n313 (ninc n312 (ninc n311 nin0)))
        have h315 : f280 xo = some (.inr (4, [.ref ez, .ref eo, .ref bu])) := by rw [ef280, va_up_ne _ _ n313]; exact h314
        have n316 : nw0 ≠ nr1 := hne k_nw0 k_nr1 (Nat.ne_of_beq_eq_false rfl)
        have n317 : nw0 ≠ eo := hne k_nw0 k_eo (Nat.ne_of_beq_eq_false rfl)
        have h318 : f185 nw0 = some (.inl (cI G, 6, .inl gw0)) := k263.1 _ _ k_nw0 (Nat.ne_of_beq_eq_false rfl) (ninc n317 (ninc nd_nw0_nq1 (ninc n316 nin0)))
        have h319 : f280 nw0 = some (.inl (cI G, 6, .inl gw0)) := by rw [ef280, va_up_ne _ _ n317]; exact h318
        have n320 : na0 ≠ nr1 := hne k_na0 k_nr1 (Nat.ne_of_beq_eq_false rfl)
        have n321 : na0 ≠ eo := hne k_na0 k_eo (Nat.ne_of_beq_eq_false rfl)
        have h322 : f185 na0 = some (.inl (cI G, 6, .inl ga0)) := k263.1 _ _ k_na0 (Nat.ne_of_beq_eq_false rfl) (ninc n321 (ninc nd_na0_nq1 (ninc n320 nin0)))
        have h323 : f280 na0 = some (.inl (cI G, 6, .inl ga0)) := by rw [ef280, va_up_ne _ _ n321]; exact h322
        have n324 : nw1 ≠ nr1 := hne k_nw1 k_nr1 (Nat.ne_of_beq_eq_false rfl)
        have n325 : nw1 ≠ eo := hne k_nw1 k_eo (Nat.ne_of_beq_eq_false rfl)
        have h326 : f185 nw1 = some (.inl (cI G, 6, .inl gw1)) := k263.1 _ _ k_nw1 (Nat.ne_of_beq_eq_false rfl) (ninc n325 (ninc nd_nw1_nq1 (ninc n324 nin0)))
        have h327 : f280 nw1 = some (.inl (cI G, 6, .inl gw1)) := by rw [ef280, va_up_ne _ _ n325]; exact h326
        have n328 : na1 ≠ nr1 := hne k_na1 k_nr1 (Nat.ne_of_beq_eq_false rfl)
        have n329 : na1 ≠ eo := hne k_na1 k_eo (Nat.ne_of_beq_eq_false rfl)
        have h330 : f185 na1 = some (.inl (cI G, 6, .inl ga1)) := k263.1 _ _ k_na1 (Nat.ne_of_beq_eq_false rfl) (ninc n329 (ninc nd_na1_nq1 (ninc n328 nin0)))
        have h331 : f280 na1 = some (.inl (cI G, 6, .inl ga1)) := by rw [ef280, va_up_ne _ _ n329]; exact h330
        have n332 : bu ≠ nr1 := hne k_bu k_nr1 (Nat.ne_of_beq_eq_false rfl)
        have n333 : bu ≠ nq1 := hne k_bu k_nq1 (Nat.ne_of_beq_eq_false rfl)
        have n334 : bu ≠ eo := hne k_bu k_eo (Nat.ne_of_beq_eq_false rfl)
        have h335 : f185 bu = some (.inr (0, [.ref bs, .ref bp, .ref bh, .ref bf, .ref bl, .ref bg, .int (nI n), .int (nI cg), .int (nI x)])) := k263.1 _ _ k_bu (Nat.ne_of_beq_eq_false rfl) (ninc n334 (ninc n333 (ninc n332 nin0)))
        have h336 : f280 bu = some (.inr (0, [.ref bs, .ref bp, .ref bh, .ref bf, .ref bl, .ref bg, .int (nI n), .int (nI cg), .int (nI x)])) := by rw [ef280, va_up_ne _ _ n334]; exact h335
        have n337 : bs ≠ nr1 := hne k_bs k_nr1 (Nat.ne_of_beq_eq_false rfl)
        have n338 : bs ≠ nq1 := hneL k_bs k_nq1 (Nat.ne_of_beq_eq_false rfl)
        have n339 : bs ≠ eo := hne k_bs k_eo (Nat.ne_of_beq_eq_false rfl)
        have h340 : f185 bs = some (.inl (cI G, 61, .inl (nf sa))) := k263.1 _ _ k_bs (Nat.ne_of_beq_eq_false rfl) (ninc n339 (ninc n338 (ninc n337 nin0)))
        have h341 : f280 bs = some (.inl (cI G, 61, .inl (nf sa))) := by rw [ef280, va_up_ne _ _ n339]; exact h340
        have n342 : bp ≠ nr1 := hne k_bp k_nr1 (Nat.ne_of_beq_eq_false rfl)
        have n343 : bp ≠ nq1 := hneL k_bp k_nq1 (Nat.ne_of_beq_eq_false rfl)
        have n344 : bp ≠ eo := hne k_bp k_eo (Nat.ne_of_beq_eq_false rfl)
        have h345 : f185 bp = some (.inl (cI G, 240, .inl (nf pk))) := k263.1 _ _ k_bp (Nat.ne_of_beq_eq_false rfl) (ninc n344 (ninc n343 (ninc n342 nin0)))
        have h346 : f280 bp = some (.inl (cI G, 240, .inl (nf pk))) := by rw [ef280, va_up_ne _ _ n344]; exact h345
        have n347 : bh ≠ nr1 := hne k_bh k_nr1 (Nat.ne_of_beq_eq_false rfl)
        have n348 : bh ≠ nq1 := hneL k_bh k_nq1 (Nat.ne_of_beq_eq_false rfl)
        have n349 : bh ≠ eo := hne k_bh k_eo (Nat.ne_of_beq_eq_false rfl)
        have h350 : f185 bh = some (.inl (cZ G, 240, .inl gh)) := k263.1 _ _ k_bh (Nat.ne_of_beq_eq_false rfl) (ninc n349 (ninc n348 (ninc n347 nin0)))
        have h351 : f280 bh = some (.inl (cZ G, 240, .inl gh)) := by rw [ef280, va_up_ne _ _ n349]; exact h350
        have n352 : bf ≠ nr1 := hne k_bf k_nr1 (Nat.ne_of_beq_eq_false rfl)
        have n353 : bf ≠ nq1 := hneL k_bf k_nq1 (Nat.ne_of_beq_eq_false rfl)
        have n354 : bf ≠ eo := hne k_bf k_eo (Nat.ne_of_beq_eq_false rfl)
        have h355 : f185 bf = some (.inl (cI G, 3, .inl (nf fl))) := k263.1 _ _ k_bf (Nat.ne_of_beq_eq_false rfl) (ninc n354 (ninc n353 (ninc n352 nin0)))
        have h356 : f280 bf = some (.inl (cI G, 3, .inl (nf fl))) := by rw [ef280, va_up_ne _ _ n354]; exact h355
        have n357 : bl ≠ nr1 := hne k_bl k_nr1 (Nat.ne_of_beq_eq_false rfl)
        have n358 : bl ≠ nq1 := hneL k_bl k_nq1 (Nat.ne_of_beq_eq_false rfl)
        have n359 : bl ≠ eo := hne k_bl k_eo (Nat.ne_of_beq_eq_false rfl)
        have h360 : f185 bl = some (.inl (cI G, 3, .inl gl)) := k263.1 _ _ k_bl (Nat.ne_of_beq_eq_false rfl) (ninc n359 (ninc n358 (ninc n357 nin0)))
        have h361 : f280 bl = some (.inl (cI G, 3, .inl gl)) := by rw [ef280, va_up_ne _ _ n359]; exact h360
        have n362 : bg ≠ nr1 := hne k_bg k_nr1 (Nat.ne_of_beq_eq_false rfl)
        have n363 : bg ≠ nq1 := hneL k_bg k_nq1 (Nat.ne_of_beq_eq_false rfl)
        have n364 : bg ≠ eo := hne k_bg k_eo (Nat.ne_of_beq_eq_false rfl)
        have h365 : f185 bg = some (.inl (cI G, 60, .inl (nf gv))) := k263.1 _ _ k_bg (Nat.ne_of_beq_eq_false rfl) (ninc n364 (ninc n363 (ninc n362 nin0)))
        have h366 : f280 bg = some (.inl (cI G, 60, .inl (nf gv))) := by rw [ef280, va_up_ne _ _ n364]; exact h365
        exact hp_iret (v := x285) B0 hw hS hr ⟨Nat.le_of_ble_eq_true rfl, Nat.le_of_ble_eq_true rfl⟩ dX4_lose_25 (⟨⟨_, rfl⟩, ⟨h315, ⟨_, _, _, _, _, _, _, _, _, _, h298, h302, h306, (fhd0.kp ((show hKp [xo, ez, eo, bu, nw0, na0, nq0, nr0, nw1, na1, nq1, nr1, bs, bp, bh, bf, bl, bg] f f185 from (k263.mono (fun x9 hx9 => by simp only [List.mem_cons, List.not_mem_nil, or_false] at hx9; rcases hx9 with hx9 | hx9 | hx9 <;> (rw [hx9]; simp)))).tr (show hKp [xo, ez, eo, bu, nw0, na0, nq0, nr0, nw1, na1, nq1, nr1, bs, bp, bh, bf, bl, bg] f185 f280 from (by rw [ef280]; exact hKp.up h274 (Nat.ne_of_beq_eq_false rfl) (by simp))))), (ftl0.kp ((show hKp [xo, ez, eo, bu, nw0, na0, nq0, nr0, nw1, na1, nq1, nr1, bs, bp, bh, bf, bl, bg] f f185 from (k263.mono (fun x9 hx9 => by simp only [List.mem_cons, List.not_mem_nil, or_false] at hx9; rcases hx9 with hx9 | hx9 | hx9 <;> (rw [hx9]; simp)))).tr (show hKp [xo, ez, eo, bu, nw0, na0, nq0, nr0, nw1, na1, nq1, nr1, bs, bp, bh, bf, bl, bg] f185 f280 from (by rw [ef280]; exact hKp.up h274 (Nat.ne_of_beq_eq_false rfl) (by simp))))), blp0⟩, ⟨_, _, _, _, _, _, _, _, _, _, h281, h307, h309, (h277.kp (show hKp [xo, ez, eo, bu, nw0, na0, nq0, nr0, nw1, na1, nq1, nr1, bs, bp, bh, bf, bl, bg] f185 f280 from (by rw [ef280]; exact hKp.up h274 (Nat.ne_of_beq_eq_false rfl) (by simp)))), (h278.kp (show hKp [xo, ez, eo, bu, nw0, na0, nq0, nr0, nw1, na1, nq1, nr1, bs, bp, bh, bf, bl, bg] f185 f280 from (by rw [ef280]; exact hKp.up h274 (Nat.ne_of_beq_eq_false rfl) (by simp)))), h279⟩, h319, h323, h327, h331, h336, h341, h346, h351, h356, h361, h366, p284, hB9, hfl9, nd_ez_eo, nd_nr0_nr1, nd_nw0_na0, nd_nw0_nq0, nd_nw0_nw1, nd_nw0_na1, nd_nw0_nq1, nd_na0_nq0, nd_na0_nw1, nd_na0_na1, nd_na0_nq1, nd_nq0_nw1, nd_nq0_na1, nd_nq0_nq1, nd_nw1_na1, nd_nw1_nq1, nd_na1_nq1, nd_bh_bp, nd_bf_bl⟩, ((show hKp [xo, ez, eo, bu, nw0, na0, nq0, nr0, nw1, na1, nq1, nr1, bs, bp, bh, bf, bl, bg] f f185 from (k263.mono (fun x9 hx9 => by simp only [List.mem_cons, List.not_mem_nil, or_false] at hx9; rcases hx9 with hx9 | hx9 | hx9 <;> (rw [hx9]; simp)))).tr (show hKp [xo, ez, eo, bu, nw0, na0, nq0, nr0, nw1, na1, nq1, nr1, bs, bp, bh, bf, bl, bg] f185 f280 from (by rw [ef280]; exact hKp.up h274 (Nat.ne_of_beq_eq_false rfl) (by simp))))⟩)

set_option maxHeartbeats 4000000 in
set_option maxRecDepth 100000 in
theorem c_X4_loop {l : Launch} (hl : l.stackTraces = false) (G : hG) (f : hM) (xo ez eo bu nw0 na0 nq0 nr0 nw1 na1 nq1 nr1 bs bp bh bf bl bg : Nat) (gw0 : Nat → Int32) (ga0 : Nat → Int32) (gw1 : Nat → Int32) (ga1 : Nat → Int32) (mg0 : Int32) (mg1 : Int32) (n : Nat) (a : Nat) (cg : Nat) (x : Nat) (sa : Nat → Nat) (pk : Nat → Nat) (fl : Nat → Nat) (gv : Nat → Nat) (gh : Nat → Int32) (gl : Nat → Int32) (hC : CW G f xo ez eo bu nw0 na0 nq0 nr0 nw1 na1 nq1 nr1 bs bp bh bf bl bg gw0 ga0 gw1 ga1 mg0 mg1 n a cg x sa pk fl gv gh gl) (i : Int32) : CT l yX4_loop (.code yX4_loop cX4_loop 4 (some .int)) 7 132 6 34 G [.ref xo, .int i] f (fun v f1 => (∃ r9 : Int32, v = some (.int r9)) ∧ CW G f1 xo ez eo bu nw0 na0 nq0 nr0 nw1 na1 nq1 nr1 bs bp bh bf bl bg gw0 ga0 gw1 ga1 mg0 mg1 n a cg x sa pk fl gv gh gl ∧ hKp [xo, ez, eo, bu, nw0, na0, nq0, nr0, nw1, na1, nq1, nr1, bs, bp, bh, bf, bl, bg] f f1) (fun E f1 => (E = eI ∨ E = eS) ∧ CW G f1 xo ez eo bu nw0 na0 nq0 nr0 nw1 na1 nq1 nr1 bs bp bh bf bl bg gw0 ga0 gw1 ga1 mg0 mg1 n a cg x sa pk fl gv gh gl ∧ hKp [xo, ez, eo, bu, nw0, na0, nq0, nr0, nw1, na1, nq1, nr1, bs, bp, bh, bf, bl, bg] f f1) := by
  refine hp_start hl (own := RX4) (by decide) rfl (Nat.le_of_ble_eq_true rfl) ?_
  intro p e s m args below meth c B0 hr hnm hout hw hS ls hl9
  have hx := B0.1
  have hb := B0.2.1
  have hl9 : lv_has ls 4 [(0, .ref xo), (1, .int i)] := hl9
  obtain ⟨k_xo, ⟨st0, tm0, sr0, li0, lp0, mi0, cn0, gq0, hd0, tl0, k_ez, k_nq0, k_nr0, fhd0, ftl0, blp0⟩, ⟨st1, tm1, sr1, li1, lp1, mi1, cn1, gq1, hd1, tl1, k_eo, k_nq1, k_nr1, fhd1, ftl1, blp1⟩, k_nw0, k_na0, k_nw1, k_na1, k_bu, k_bs, k_bp, k_bh, k_bf, k_bl, k_bg, hPx, hB9, hfl9, nd_ez_eo, nd_nr0_nr1, nd_nw0_na0, nd_nw0_nq0, nd_nw0_nw1, nd_nw0_na1, nd_nw0_nq1, nd_na0_nq0, nd_na0_nw1, nd_na0_na1, nd_na0_nq1, nd_nq0_nw1, nd_nq0_na1, nd_nq0_nq1, nd_nw1_na1, nd_nw1_nq1, nd_na1_nq1, nd_bh_bp, nd_bf_bl⟩ := hC
  refine lv_aload_n hx hb dX4_loop_0 rfl (lv_at hl9 0 rfl) ?_
  refine lv_iload_n hx hb dX4_loop_1 rfl (lv_at hl9 1 rfl) ?_
  refine hp_V (ci := 4) (As := [.int i]) (rest := []) B0 hw hS (c_X4_endAt hl G f xo ez eo bu k_xo i) mV_X4_endAt qM_X4_28 rfl k_xo rfl rfl hl9.1 (Nat.le_of_ble_eq_true rfl) ⟨⟨Nat.le_of_ble_eq_true rfl, Nat.le_of_ble_eq_true rfl⟩, Nat.le_of_ble_eq_true rfl, Nat.le_of_ble_eq_true rfl⟩ dX4_loop_2 (fun E ce q9 f1 H locs hPX hw hS hce hcv hcl => ?_) (fun v f1 H locs hP hw hS => ?_)
  · obtain ⟨ef9, eE9, hE9⟩ := hPX
    rw [ef9] at hw
    subst eE9
    exact hp_out B0 hw hS hout hce hcv hcl ⟨Nat.le_of_ble_eq_true rfl, Nat.le_of_ble_eq_true rfl⟩ (⟨(Or.inl rfl), ⟨k_xo, ⟨_, _, _, _, _, _, _, _, _, _, k_ez, k_nq0, k_nr0, fhd0, ftl0, blp0⟩, ⟨_, _, _, _, _, _, _, _, _, _, k_eo, k_nq1, k_nr1, fhd1, ftl1, blp1⟩, k_nw0, k_na0, k_nw1, k_na1, k_bu, k_bs, k_bp, k_bh, k_bf, k_bl, k_bg, hPx, hB9, hfl9, nd_ez_eo, nd_nr0_nr1, nd_nw0_na0, nd_nw0_nq0, nd_nw0_nw1, nd_nw0_na1, nd_nw0_nq1, nd_na0_nq0, nd_na0_nw1, nd_na0_na1, nd_na0_nq1, nd_nq0_nw1, nd_nq0_na1, nd_nq0_nq1, nd_nw1_na1, nd_nw1_nq1, nd_na1_nq1, nd_bh_bp, nd_bf_bl⟩, hKp.rf⟩)
  · obtain ⟨ef9, hv9⟩ := hP
    rw [ef9] at hw
    rcases hv9 with ⟨k2, ev9⟩ | ⟨k2, ev9⟩
    · subst ev9
      refine W.eq (g2 := F0 m 5 ls [.ref ez]) rfl ?_
      refine lv_astore_n (lv' := [(2, .ref ez), (0, .ref xo), (1, .int i)]) hx hb dX4_loop_5 rfl hl9 (by decide) rfl (fun ls hl9 => ?_)
      refine lv_aload_n hx hb dX4_loop_6 rfl (lv_at hl9 0 rfl) ?_
      refine hp_S (As := [.ref ez]) (rest := []) B0 hw hS (c_X4_takeFrame hl G f ez nw0 na0 nq0 nr0 mg0 ⟨_, _, _, _, _, _, _, _, _, _, k_ez, k_nq0, k_nr0, fhd0, ftl0, blp0⟩ hPx) mS_X4_takeFrame qM_X4_73 rfl rfl hl9.1 (Nat.le_of_ble_eq_true rfl) ⟨⟨Nat.le_of_ble_eq_true rfl, Nat.le_of_ble_eq_true rfl⟩, Nat.le_of_ble_eq_true rfl, Nat.le_of_ble_eq_true rfl⟩ dX4_loop_7 (fun E ce q9 f3 H locs hPX hw hS hce hcv hcl => ?_) (fun v f3 H locs hP hw hS => ?_)
      · have hP := hPX
        obtain ⟨eE9, h4, p5, k6⟩ := hP
        obtain ⟨st7, tm8, sr9, li10, lp11, mi12, cn13, gq14, hd15, tl16, h17, h18, h19, h20, h21, h22⟩ := h4
        subst eE9
        have n23 : eo ≠ nr0 := hne k_eo k_nr0 (Nat.ne_of_beq_eq_false rfl)
        have n24 : eo ≠ nq0 := hne k_eo k_nq0 (Nat.ne_of_beq_eq_false rfl)
        have h25 : f3 eo = some (.inr (1, [.ref nw1, .ref na1, .ref nq1, .ref nr1, .int mg1, .int st1, .int tm1, .int sr1, .int li1, .int lp1, .int mi1])) := k6.1 _ _ k_eo (Nat.ne_of_beq_eq_false rfl) (ninc (Ne.symm nd_ez_eo) (ninc n24 (ninc n23 nin0)))
        have n26 : nq1 ≠ nr0 := hne k_nq1 k_nr0 (Nat.ne_of_beq_eq_false rfl)
        have n27 : nq1 ≠ ez := hne k_nq1 k_ez (Nat.ne_of_beq_eq_false rfl)
        have h28 : f3 nq1 = some (.inl (cI G, 6, .inl gq1)) := k6.1 _ _ k_nq1 (Nat.ne_of_beq_eq_false rfl) (ninc n27 (ninc (Ne.symm nd_nq0_nq1) (ninc n26 nin0)))
        have n29 : nr1 ≠ nq0 := hne k_nr1 k_nq0 (Nat.ne_of_beq_eq_false rfl)
        have n30 : nr1 ≠ ez := hne k_nr1 k_ez (Nat.ne_of_beq_eq_false rfl)
        have h31 : f3 nr1 = some (.inr (3, [hd1, tl1, .int cn1])) := k6.1 _ _ k_nr1 (Nat.ne_of_beq_eq_false rfl) (ninc n30 (ninc n29 (ninc (Ne.symm nd_nr0_nr1) nin0)))
        have n32 : xo ≠ nr0 := hne k_xo k_nr0 (Nat.ne_of_beq_eq_false rfl)
        have n33 : xo ≠ nq0 := hne k_xo k_nq0 (Nat.ne_of_beq_eq_false rfl)
        have n34 : xo ≠ ez := hne k_xo k_ez (Nat.ne_of_beq_eq_false rfl)
        have h35 : f3 xo = some (.inr (4, [.ref ez, .ref eo, .ref bu])) := k6.1 _ _ k_xo (Nat.ne_of_beq_eq_false rfl) (ninc n34 (ninc n33 (ninc n32 nin0)))
        have n36 : nw0 ≠ nr0 := hne k_nw0 k_nr0 (Nat.ne_of_beq_eq_false rfl)
        have n37 : nw0 ≠ ez := hne k_nw0 k_ez (Nat.ne_of_beq_eq_false rfl)
        have h38 : f3 nw0 = some (.inl (cI G, 6, .inl gw0)) := k6.1 _ _ k_nw0 (Nat.ne_of_beq_eq_false rfl) (ninc n37 (ninc nd_nw0_nq0 (ninc n36 nin0)))
        have n39 : na0 ≠ nr0 := hne k_na0 k_nr0 (Nat.ne_of_beq_eq_false rfl)
        have n40 : na0 ≠ ez := hne k_na0 k_ez (Nat.ne_of_beq_eq_false rfl)
        have h41 : f3 na0 = some (.inl (cI G, 6, .inl ga0)) := k6.1 _ _ k_na0 (Nat.ne_of_beq_eq_false rfl) (ninc n40 (ninc nd_na0_nq0 (ninc n39 nin0)))
        have n42 : nw1 ≠ nr0 := hne k_nw1 k_nr0 (Nat.ne_of_beq_eq_false rfl)
        have n43 : nw1 ≠ ez := hne k_nw1 k_ez (Nat.ne_of_beq_eq_false rfl)
        have h44 : f3 nw1 = some (.inl (cI G, 6, .inl gw1)) := k6.1 _ _ k_nw1 (Nat.ne_of_beq_eq_false rfl) (ninc n43 (ninc (Ne.symm nd_nq0_nw1) (ninc n42 nin0)))
        have n45 : na1 ≠ nr0 := hne k_na1 k_nr0 (Nat.ne_of_beq_eq_false rfl)
        have n46 : na1 ≠ ez := hne k_na1 k_ez (Nat.ne_of_beq_eq_false rfl)
        have h47 : f3 na1 = some (.inl (cI G, 6, .inl ga1)) := k6.1 _ _ k_na1 (Nat.ne_of_beq_eq_false rfl) (ninc n46 (ninc (Ne.symm nd_nq0_na1) (ninc n45 nin0)))
        have n48 : bu ≠ nr0 := hne k_bu k_nr0 (Nat.ne_of_beq_eq_false rfl)
        have n49 : bu ≠ nq0 := hne k_bu k_nq0 (Nat.ne_of_beq_eq_false rfl)
        have n50 : bu ≠ ez := hne k_bu k_ez (Nat.ne_of_beq_eq_false rfl)
        have h51 : f3 bu = some (.inr (0, [.ref bs, .ref bp, .ref bh, .ref bf, .ref bl, .ref bg, .int (nI n), .int (nI cg), .int (nI x)])) := k6.1 _ _ k_bu (Nat.ne_of_beq_eq_false rfl) (ninc n50 (ninc n49 (ninc n48 nin0)))
        have n52 : bs ≠ nr0 := hne k_bs k_nr0 (Nat.ne_of_beq_eq_false rfl)
        have n53 : bs ≠ nq0 := hneL k_bs k_nq0 (Nat.ne_of_beq_eq_false rfl)
        have n54 : bs ≠ ez := hne k_bs k_ez (Nat.ne_of_beq_eq_false rfl)
        have h55 : f3 bs = some (.inl (cI G, 61, .inl (nf sa))) := k6.1 _ _ k_bs (Nat.ne_of_beq_eq_false rfl) (ninc n54 (ninc n53 (ninc n52 nin0)))
        have n56 : bp ≠ nr0 := hne k_bp k_nr0 (Nat.ne_of_beq_eq_false rfl)
        have n57 : bp ≠ nq0 := hneL k_bp k_nq0 (Nat.ne_of_beq_eq_false rfl)
        have n58 : bp ≠ ez := hne k_bp k_ez (Nat.ne_of_beq_eq_false rfl)
        have h59 : f3 bp = some (.inl (cI G, 240, .inl (nf pk))) := k6.1 _ _ k_bp (Nat.ne_of_beq_eq_false rfl) (ninc n58 (ninc n57 (ninc n56 nin0)))
        have n60 : bh ≠ nr0 := hne k_bh k_nr0 (Nat.ne_of_beq_eq_false rfl)
        have n61 : bh ≠ nq0 := hneL k_bh k_nq0 (Nat.ne_of_beq_eq_false rfl)
        have n62 : bh ≠ ez := hne k_bh k_ez (Nat.ne_of_beq_eq_false rfl)
        have h63 : f3 bh = some (.inl (cZ G, 240, .inl gh)) := k6.1 _ _ k_bh (Nat.ne_of_beq_eq_false rfl) (ninc n62 (ninc n61 (ninc n60 nin0)))
        have n64 : bf ≠ nr0 := hne k_bf k_nr0 (Nat.ne_of_beq_eq_false rfl)
        have n65 : bf ≠ nq0 := hneL k_bf k_nq0 (Nat.ne_of_beq_eq_false rfl)
        have n66 : bf ≠ ez := hne k_bf k_ez (Nat.ne_of_beq_eq_false rfl)
        have h67 : f3 bf = some (.inl (cI G, 3, .inl (nf fl))) := k6.1 _ _ k_bf (Nat.ne_of_beq_eq_false rfl) (ninc n66 (ninc n65 (ninc n64 nin0)))
        have n68 : bl ≠ nr0 := hne k_bl k_nr0 (Nat.ne_of_beq_eq_false rfl)
        have n69 : bl ≠ nq0 := hneL k_bl k_nq0 (Nat.ne_of_beq_eq_false rfl)
        have n70 : bl ≠ ez := hne k_bl k_ez (Nat.ne_of_beq_eq_false rfl)
        have h71 : f3 bl = some (.inl (cI G, 3, .inl gl)) := k6.1 _ _ k_bl (Nat.ne_of_beq_eq_false rfl) (ninc n70 (ninc n69 (ninc n68 nin0)))
        have n72 : bg ≠ nr0 := hne k_bg k_nr0 (Nat.ne_of_beq_eq_false rfl)
        have n73 : bg ≠ nq0 := hneL k_bg k_nq0 (Nat.ne_of_beq_eq_false rfl)
        have n74 : bg ≠ ez := hne k_bg k_ez (Nat.ne_of_beq_eq_false rfl)
        have h75 : f3 bg = some (.inl (cI G, 60, .inl (nf gv))) := k6.1 _ _ k_bg (Nat.ne_of_beq_eq_false rfl) (ninc n74 (ninc n73 (ninc n72 nin0)))
        exact hp_out B0 hw hS hout hce hcv hcl ⟨Nat.le_of_ble_eq_true rfl, Nat.le_of_ble_eq_true rfl⟩ (⟨(Or.inr rfl), ⟨h35, ⟨_, _, _, _, _, _, _, _, _, _, h17, h18, h19, h20, h21, h22⟩, ⟨_, _, _, _, _, _, _, _, _, _, h25, h28, h31, (fhd1.kp (show hKp [xo, ez, eo, bu, nw0, na0, nq0, nr0, nw1, na1, nq1, nr1, bs, bp, bh, bf, bl, bg] f f3 from (k6.mono (fun x9 hx9 => by simp only [List.mem_cons, List.not_mem_nil, or_false] at hx9; rcases hx9 with hx9 | hx9 | hx9 <;> (rw [hx9]; simp))))), (ftl1.kp (show hKp [xo, ez, eo, bu, nw0, na0, nq0, nr0, nw1, na1, nq1, nr1, bs, bp, bh, bf, bl, bg] f f3 from (k6.mono (fun x9 hx9 => by simp only [List.mem_cons, List.not_mem_nil, or_false] at hx9; rcases hx9 with hx9 | hx9 | hx9 <;> (rw [hx9]; simp))))), blp1⟩, h38, h41, h44, h47, h51, h55, h59, h63, h67, h71, h75, p5, hB9, hfl9, nd_ez_eo, nd_nr0_nr1, nd_nw0_na0, nd_nw0_nq0, nd_nw0_nw1, nd_nw0_na1, nd_nw0_nq1, nd_na0_nq0, nd_na0_nw1, nd_na0_na1, nd_na0_nq1, nd_nq0_nw1, nd_nq0_na1, nd_nq0_nq1, nd_nw1_na1, nd_nw1_nq1, nd_na1_nq1, nd_bh_bp, nd_bf_bl⟩, (show hKp [xo, ez, eo, bu, nw0, na0, nq0, nr0, nw1, na1, nq1, nr1, bs, bp, bh, bf, bl, bg] f f3 from (k6.mono (fun x9 hx9 => by simp only [List.mem_cons, List.not_mem_nil, or_false] at hx9; rcases hx9 with hx9 | hx9 | hx9 <;> (rw [hx9]; simp))))⟩)
      · obtain ⟨⟨t76, k77, ev9, h78⟩, h79, p80, k81⟩ := hP
        obtain ⟨st82, tm83, sr84, li85, lp86, mi87, cn88, gq89, hd90, tl91, h92, h93, h94, h95, h96, h97⟩ := h79
        subst ev9
        refine W.eq (g2 := F0 m 10 ls [.ref t76]) rfl ?_
        refine lv_astore_n (lv' := [(3, .ref t76), (2, .ref ez), (0, .ref xo), (1, .int i)]) hx hb dX4_loop_10 rfl hl9 (by decide) rfl (fun ls hl9 => ?_)
        refine lv_aload_n hx hb dX4_loop_11 rfl (lv_at hl9 1 rfl) ?_
        refine lv_dup hx hb dX4_loop_12 rfl ?_
        refine hp_getN B0 hw 1 rfl in_X1 h92 10 (by decide) oF_X4_86 rfl dX4_loop_13 ?_
        refine lv_iconst (v := 1) hx hb dX4_loop_16 (by decide) ?_
        refine lv_iadd hx hb dX4_loop_17 ?_
        refine hp_putN (fs1 := [.ref nw0, .ref na0, .ref nq0, .ref nr0, .int mg0, .int st82, .int tm83, .int sr84, .int li85, .int lp86, .int (mi87 + 1)]) (ty := .int) B0 hw hS 1 rfl in_X1 tyX1 tyX1_ok nmX1 h92 10 (by decide) oF_X4_86 rfl (by decide +kernel) rfl rfl (Nat.le_of_ble_eq_true rfl) rfl dX4_loop_18 (fun H locs f98 ef98 hw hS => ?_)
        have h99 : f98 ez = some (.inr (1, [.ref nw0, .ref na0, .ref nq0, .ref nr0, .int mg0, .int st82, .int tm83, .int sr84, .int li85, .int lp86, .int (mi87 + 1)])) := by rw [ef98, va_up_self]
        refine lv_aload_n hx hb dX4_loop_21 rfl (lv_at hl9 1 rfl) ?_
        refine lv_aload_n hx hb dX4_loop_22 rfl (lv_at hl9 0 rfl) ?_
        have n101 : nq0 ≠ ez := hne k_nq0 k_ez (Nat.ne_of_beq_eq_false rfl)
        have h100 : f98 nq0 = some (.inl (cI G, 6, .inl gq89)) := by rw [ef98, va_up_ne _ _ n101]; exact h93
        have n103 : nr0 ≠ ez := hne k_nr0 k_ez (Nat.ne_of_beq_eq_false rfl)
        have h102 : f98 nr0 = some (.inr (3, [hd90, tl91, .int cn88])) := by rw [ef98, va_up_ne _ _ n103]; exact h94
        have p104 : PoolX G [] f98 := by rw [ef98]; exact px_upd p80 h92 (Nat.ne_of_beq_eq_false rfl) (Nat.ne_of_beq_eq_false rfl) (fun g9 h9 => nomatch h9)
        have n106 : t76 ≠ ez := hne h78 h92 (Nat.ne_of_beq_eq_false rfl)
        have h105 : f98 t76 = some (.inr (2, k77)) := by rw [ef98, va_up_ne _ _ n106]; exact h78
        have n107 : na0 ≠ nr0 := hne k_na0 k_nr0 (Nat.ne_of_beq_eq_false rfl)
        have n108 : na0 ≠ ez := hne k_na0 k_ez (Nat.ne_of_beq_eq_false rfl)
        have h109 : f3 na0 = some (.inl (cI G, 6, .inl ga0)) := k81.1 _ _ k_na0 (Nat.ne_of_beq_eq_false rfl) (ninc n108 (ninc nd_na0_nq0 (ninc n107 nin0)))
        have h110 : f98 na0 = some (.inl (cI G, 6, .inl ga0)) := by rw [ef98, va_up_ne _ _ n108]; exact h109
        refine hp_V (ci := 1) (As := [.ref t76]) (rest := []) B0 hw hS (c_X1_hear hl G f98 ez nw0 na0 nq0 nr0 mg0 ⟨_, _, _, _, _, _, _, _, _, _, h99, h100, h102, (h95.kp (show hKp [xo, ez, eo, bu, nw0, na0, nq0, nr0, nw1, na1, nq1, nr1, bs, bp, bh, bf, bl, bg] f3 f98 from (by rw [ef98]; exact hKp.up h92 (Nat.ne_of_beq_eq_false rfl) (by simp)))), (h96.kp (show hKp [xo, ez, eo, bu, nw0, na0, nq0, nr0, nw1, na1, nq1, nr1, bs, bp, bh, bf, bl, bg] f3 f98 from (by rw [ef98]; exact hKp.up h92 (Nat.ne_of_beq_eq_false rfl) (by simp)))), h97⟩ p104 ga0 h110 nd_na0_nq0 t76 _ h105) mV_X1_hear qM_X4_77 rfl h99 rfl rfl hl9.1 (Nat.le_of_ble_eq_true rfl) ⟨⟨Nat.le_of_ble_eq_true rfl, Nat.le_of_ble_eq_true rfl⟩, Nat.le_of_ble_eq_true rfl, Nat.le_of_ble_eq_true rfl⟩ dX4_loop_23 (fun E ce q9 f111 H locs hPX hw hS hce hcv hcl => ?_) (fun v f111 H locs hP hw hS => ?_)
        · exact hPX.elim
        · obtain ⟨ev9, h112, p113, k114⟩ := hP
          obtain ⟨st115, tm116, sr117, li118, lp119, mi120, cn121, gq122, hd123, tl124, h125, h126, h127, h128, h129, h130⟩ := h112
          subst ev9
          refine W.eq (g2 := F0 m 26 ls []) rfl ?_
          refine lv_aload_n hx hb dX4_loop_26 rfl (lv_at hl9 0 rfl) ?_
          obtain ⟨k131, h132⟩ := k114.2 _ _ h105
          obtain ⟨x133, x134, x135, v136, y137, g138, e139, h140, h141⟩ := p113 _ _ h132 nin0
          rw [e139] at h132
          refine hp_get B0 hw 2 rfl in_X2 h132 0 (by decide) qF_X4_81 rfl dX4_loop_27 ?_
          have n143 : eo ≠ nr0 := hne k_eo k_nr0 (Nat.ne_of_beq_eq_false rfl)
          have n144 : eo ≠ nq0 := hne k_eo k_nq0 (Nat.ne_of_beq_eq_false rfl)
          have h145 : f3 eo = some (.inr (1, [.ref nw1, .ref na1, .ref nq1, .ref nr1, .int mg1, .int st1, .int tm1, .int sr1, .int li1, .int lp1, .int mi1])) := k81.1 _ _ k_eo (Nat.ne_of_beq_eq_false rfl) (ninc (Ne.symm nd_ez_eo) (ninc n144 (ninc n143 nin0)))
          have h146 : f98 eo = some (.inr (1, [.ref nw1, .ref na1, .ref nq1, .ref nr1, .int mg1, .int st1, .int tm1, .int sr1, .int li1, .int lp1, .int mi1])) := by rw [ef98, va_up_ne _ _ (Ne.symm nd_ez_eo)]; exact h145
          have h147 : f111 eo = some (.inr (1, [.ref nw1, .ref na1, .ref nq1, .ref nr1, .int mg1, .int st1, .int tm1, .int sr1, .int li1, .int lp1, .int mi1])) := k114.1 _ _ h146 (Nat.ne_of_beq_eq_false rfl) (ninc (Ne.symm nd_ez_eo) (ninc n144 (ninc n143 nin0)))
          have n148 : nq1 ≠ nr0 := hne k_nq1 k_nr0 (Nat.ne_of_beq_eq_false rfl)
          have n149 : nq1 ≠ ez := hne k_nq1 k_ez (Nat.ne_of_beq_eq_false rfl)
          have h150 : f3 nq1 = some (.inl (cI G, 6, .inl gq1)) := k81.1 _ _ k_nq1 (Nat.ne_of_beq_eq_false rfl) (ninc n149 (ninc (Ne.symm nd_nq0_nq1) (ninc n148 nin0)))
          have h151 : f98 nq1 = some (.inl (cI G, 6, .inl gq1)) := by rw [ef98, va_up_ne _ _ n149]; exact h150
          have h152 : f111 nq1 = some (.inl (cI G, 6, .inl gq1)) := k114.1 _ _ h151 (Nat.ne_of_beq_eq_false rfl) (ninc n149 (ninc (Ne.symm nd_nq0_nq1) (ninc n148 nin0)))
          have n153 : nr1 ≠ nq0 := hne k_nr1 k_nq0 (Nat.ne_of_beq_eq_false rfl)
          have n154 : nr1 ≠ ez := hne k_nr1 k_ez (Nat.ne_of_beq_eq_false rfl)
          have h155 : f3 nr1 = some (.inr (3, [hd1, tl1, .int cn1])) := k81.1 _ _ k_nr1 (Nat.ne_of_beq_eq_false rfl) (ninc n154 (ninc n153 (ninc (Ne.symm nd_nr0_nr1) nin0)))
          have h156 : f98 nr1 = some (.inr (3, [hd1, tl1, .int cn1])) := by rw [ef98, va_up_ne _ _ n154]; exact h155
          have h157 : f111 nr1 = some (.inr (3, [hd1, tl1, .int cn1])) := k114.1 _ _ h156 (Nat.ne_of_beq_eq_false rfl) (ninc n154 (ninc n153 (ninc (Ne.symm nd_nr0_nr1) nin0)))
          have n158 : xo ≠ nr0 := hne k_xo k_nr0 (Nat.ne_of_beq_eq_false rfl)
          have n159 : xo ≠ nq0 := hne k_xo k_nq0 (Nat.ne_of_beq_eq_false rfl)
          have n160 : xo ≠ ez := hne k_xo k_ez (Nat.ne_of_beq_eq_false rfl)
          have h161 : f3 xo = some (.inr (4, [.ref ez, .ref eo, .ref bu])) := k81.1 _ _ k_xo (Nat.ne_of_beq_eq_false rfl) (ninc n160 (ninc n159 (ninc n158 nin0)))
          have h162 : f98 xo = some (.inr (4, [.ref ez, .ref eo, .ref bu])) := by rw [ef98, va_up_ne _ _ n160]; exact h161
          have h163 : f111 xo = some (.inr (4, [.ref ez, .ref eo, .ref bu])) := k114.1 _ _ h162 (Nat.ne_of_beq_eq_false rfl) (ninc n160 (ninc n159 (ninc n158 nin0)))
          have n164 : nw0 ≠ nr0 := hne k_nw0 k_nr0 (Nat.ne_of_beq_eq_false rfl)
          have n165 : nw0 ≠ ez := hne k_nw0 k_ez (Nat.ne_of_beq_eq_false rfl)
          have h166 : f3 nw0 = some (.inl (cI G, 6, .inl gw0)) := k81.1 _ _ k_nw0 (Nat.ne_of_beq_eq_false rfl) (ninc n165 (ninc nd_nw0_nq0 (ninc n164 nin0)))
          have h167 : f98 nw0 = some (.inl (cI G, 6, .inl gw0)) := by rw [ef98, va_up_ne _ _ n165]; exact h166
          have h168 : f111 nw0 = some (.inl (cI G, 6, .inl gw0)) := k114.1 _ _ h167 (Nat.ne_of_beq_eq_false rfl) (ninc n165 (ninc nd_nw0_nq0 (ninc n164 nin0)))
          have h169 : f111 na0 = some (.inl (cI G, 6, .inl ga0)) := k114.1 _ _ h110 (Nat.ne_of_beq_eq_false rfl) (ninc n108 (ninc nd_na0_nq0 (ninc n107 nin0)))
          have n170 : nw1 ≠ nr0 := hne k_nw1 k_nr0 (Nat.ne_of_beq_eq_false rfl)
          have n171 : nw1 ≠ ez := hne k_nw1 k_ez (Nat.ne_of_beq_eq_false rfl)
          have h172 : f3 nw1 = some (.inl (cI G, 6, .inl gw1)) := k81.1 _ _ k_nw1 (Nat.ne_of_beq_eq_false rfl) (ninc n171 (ninc (Ne.symm nd_nq0_nw1) (ninc n170 nin0)))
          have h173 : f98 nw1 = some (.inl (cI G, 6, .inl gw1)) := by rw [ef98, va_up_ne _ _ n171]; exact h172
          have h174 : f111 nw1 = some (.inl (cI G, 6, .inl gw1)) := k114.1 _ _ h173 (Nat.ne_of_beq_eq_false rfl) (ninc n171 (ninc (Ne.symm nd_nq0_nw1) (ninc n170 nin0)))
          have n175 : na1 ≠ nr0 := hne k_na1 k_nr0 (Nat.ne_of_beq_eq_false rfl)
          have n176 : na1 ≠ ez := hne k_na1 k_ez (Nat.ne_of_beq_eq_false rfl)
          have h177 : f3 na1 = some (.inl (cI G, 6, .inl ga1)) := k81.1 _ _ k_na1 (Nat.ne_of_beq_eq_false rfl) (ninc n176 (ninc (Ne.symm nd_nq0_na1) (ninc n175 nin0)))
          have h178 : f98 na1 = some (.inl (cI G, 6, .inl ga1)) := by rw [ef98, va_up_ne _ _ n176]; exact h177
          have h179 : f111 na1 = some (.inl (cI G, 6, .inl ga1)) := k114.1 _ _ h178 (Nat.ne_of_beq_eq_false rfl) (ninc n176 (ninc (Ne.symm nd_nq0_na1) (ninc n175 nin0)))
          have n180 : bu ≠ nr0 := hne k_bu k_nr0 (Nat.ne_of_beq_eq_false rfl)
          have n181 : bu ≠ nq0 := hne k_bu k_nq0 (Nat.ne_of_beq_eq_false rfl)
          have n182 : bu ≠ ez := hne k_bu k_ez (Nat.ne_of_beq_eq_false rfl)
          have h183 : f3 bu = some (.inr (0, [.ref bs, .ref bp, .ref bh, .ref bf, .ref bl, .ref bg, .int (nI n), .int (nI cg), .int (nI x)])) := k81.1 _ _ k_bu (Nat.ne_of_beq_eq_false rfl) (ninc n182 (ninc n181 (ninc n180 nin0)))
          have h184 : f98 bu = some (.inr (0, [.ref bs, .ref bp, .ref bh, .ref bf, .ref bl, .ref bg, .int (nI n), .int (nI cg), .int (nI x)])) := by rw [ef98, va_up_ne _ _ n182]; exact h183
          have h185 : f111 bu = some (.inr (0, [.ref bs, .ref bp, .ref bh, .ref bf, .ref bl, .ref bg, .int (nI n), .int (nI cg), .int (nI x)])) := k114.1 _ _ h184 (Nat.ne_of_beq_eq_false rfl) (ninc n182 (ninc n181 (ninc n180 nin0)))
          have n186 : bs ≠ nr0 := hne k_bs k_nr0 (Nat.ne_of_beq_eq_false rfl)
          have n187 : bs ≠ nq0 := hneL k_bs k_nq0 (Nat.ne_of_beq_eq_false rfl)
          have n188 : bs ≠ ez := hne k_bs k_ez (Nat.ne_of_beq_eq_false rfl)
          have h189 : f3 bs = some (.inl (cI G, 61, .inl (nf sa))) := k81.1 _ _ k_bs (Nat.ne_of_beq_eq_false rfl) (ninc n188 (ninc n187 (ninc n186 nin0)))
          have h190 : f98 bs = some (.inl (cI G, 61, .inl (nf sa))) := by rw [ef98, va_up_ne _ _ n188]; exact h189
          have h191 : f111 bs = some (.inl (cI G, 61, .inl (nf sa))) := k114.1 _ _ h190 (Nat.ne_of_beq_eq_false rfl) (ninc n188 (ninc n187 (ninc n186 nin0)))
          have n192 : bp ≠ nr0 := hne k_bp k_nr0 (Nat.ne_of_beq_eq_false rfl)
          have n193 : bp ≠ nq0 := hneL k_bp k_nq0 (Nat.ne_of_beq_eq_false rfl)
          have n194 : bp ≠ ez := hne k_bp k_ez (Nat.ne_of_beq_eq_false rfl)
          have h195 : f3 bp = some (.inl (cI G, 240, .inl (nf pk))) := k81.1 _ _ k_bp (Nat.ne_of_beq_eq_false rfl) (ninc n194 (ninc n193 (ninc n192 nin0)))
          have h196 : f98 bp = some (.inl (cI G, 240, .inl (nf pk))) := by rw [ef98, va_up_ne _ _ n194]; exact h195
          have h197 : f111 bp = some (.inl (cI G, 240, .inl (nf pk))) := k114.1 _ _ h196 (Nat.ne_of_beq_eq_false rfl) (ninc n194 (ninc n193 (ninc n192 nin0)))
          have n198 : bh ≠ nr0 := hne k_bh k_nr0 (Nat.ne_of_beq_eq_false rfl)
          have n199 : bh ≠ nq0 := hneL k_bh k_nq0 (Nat.ne_of_beq_eq_false rfl)
          have n200 : bh ≠ ez := hne k_bh k_ez (Nat.ne_of_beq_eq_false rfl)
          have h201 : f3 bh = some (.inl (cZ G, 240, .inl gh)) := k81.1 _ _ k_bh (Nat.ne_of_beq_eq_false rfl) (ninc n200 (ninc n199 (ninc n198 nin0)))
          have h202 : f98 bh = some (.inl (cZ G, 240, .inl gh)) := by rw [ef98, va_up_ne _ _ n200]; exact h201
          have h203 : f111 bh = some (.inl (cZ G, 240, .inl gh)) := k114.1 _ _ h202 (Nat.ne_of_beq_eq_false rfl) (ninc n200 (ninc n199 (ninc n198 nin0)))
          have n204 : bf ≠ nr0 := hne k_bf k_nr0 (Nat.ne_of_beq_eq_false rfl)
          have n205 : bf ≠ nq0 := hneL k_bf k_nq0 (Nat.ne_of_beq_eq_false rfl)
          have n206 : bf ≠ ez := hne k_bf k_ez (Nat.ne_of_beq_eq_false rfl)
          have h207 : f3 bf = some (.inl (cI G, 3, .inl (nf fl))) := k81.1 _ _ k_bf (Nat.ne_of_beq_eq_false rfl) (ninc n206 (ninc n205 (ninc n204 nin0)))
          have h208 : f98 bf = some (.inl (cI G, 3, .inl (nf fl))) := by rw [ef98, va_up_ne _ _ n206]; exact h207
          have h209 : f111 bf = some (.inl (cI G, 3, .inl (nf fl))) := k114.1 _ _ h208 (Nat.ne_of_beq_eq_false rfl) (ninc n206 (ninc n205 (ninc n204 nin0)))
          have n210 : bl ≠ nr0 := hne k_bl k_nr0 (Nat.ne_of_beq_eq_false rfl)
          have n211 : bl ≠ nq0 := hneL k_bl k_nq0 (Nat.ne_of_beq_eq_false rfl)
          have n212 : bl ≠ ez := hne k_bl k_ez (Nat.ne_of_beq_eq_false rfl)
          have h213 : f3 bl = some (.inl (cI G, 3, .inl gl)) := k81.1 _ _ k_bl (Nat.ne_of_beq_eq_false rfl) (ninc n212 (ninc n211 (ninc n210 nin0)))
          have h214 : f98 bl = some (.inl (cI G, 3, .inl gl)) := by rw [ef98, va_up_ne _ _ n212]; exact h213
          have h215 : f111 bl = some (.inl (cI G, 3, .inl gl)) := k114.1 _ _ h214 (Nat.ne_of_beq_eq_false rfl) (ninc n212 (ninc n211 (ninc n210 nin0)))
          have n216 : bg ≠ nr0 := hne k_bg k_nr0 (Nat.ne_of_beq_eq_false rfl)
          have n217 : bg ≠ nq0 := hneL k_bg k_nq0 (Nat.ne_of_beq_eq_false rfl)
          have n218 : bg ≠ ez := hne k_bg k_ez (Nat.ne_of_beq_eq_false rfl)
          have h219 : f3 bg = some (.inl (cI G, 60, .inl (nf gv))) := k81.1 _ _ k_bg (Nat.ne_of_beq_eq_false rfl) (ninc n218 (ninc n217 (ninc n216 nin0)))
          have h220 : f98 bg = some (.inl (cI G, 60, .inl (nf gv))) := by rw [ef98, va_up_ne _ _ n218]; exact h219
          have h221 : f111 bg = some (.inl (cI G, 60, .inl (nf gv))) := k114.1 _ _ h220 (Nat.ne_of_beq_eq_false rfl) (ninc n218 (ninc n217 (ninc n216 nin0)))
          exact hp_iret (v := x133) B0 hw hS hr ⟨Nat.le_of_ble_eq_true rfl, Nat.le_of_ble_eq_true rfl⟩ dX4_loop_30 (⟨⟨_, rfl⟩, ⟨h163, ⟨_, _, _, _, _, _, _, _, _, _, h125, h126, h127, h128, h129, h130⟩, ⟨_, _, _, _, _, _, _, _, _, _, h147, h152, h157, (fhd1.kp ((show hKp [xo, ez, eo, bu, nw0, na0, nq0, nr0, nw1, na1, nq1, nr1, bs, bp, bh, bf, bl, bg] f f3 from (k81.mono (fun x9 hx9 => by simp only [List.mem_cons, List.not_mem_nil, or_false] at hx9; rcases hx9 with hx9 | hx9 | hx9 <;> (rw [hx9]; simp)))).tr ((show hKp [xo, ez, eo, bu, nw0, na0, nq0, nr0, nw1, na1, nq1, nr1, bs, bp, bh, bf, bl, bg] f3 f98 from (by rw [ef98]; exact hKp.up h92 (Nat.ne_of_beq_eq_false rfl) (by simp))).tr (show hKp [xo, ez, eo, bu, nw0, na0, nq0, nr0, nw1, na1, nq1, nr1, bs, bp, bh, bf, bl, bg] f98 f111 from (k114.mono (fun x9 hx9 => by simp only [List.mem_cons, List.not_mem_nil, or_false] at hx9; rcases hx9 with hx9 | hx9 | hx9 <;> (rw [hx9]; simp))))))), (ftl1.kp ((show hKp [xo, ez, eo, bu, nw0, na0, nq0, nr0, nw1, na1, nq1, nr1, bs, bp, bh, bf, bl, bg] f f3 from (k81.mono (fun x9 hx9 => by simp only [List.mem_cons, List.not_mem_nil, or_false] at hx9; rcases hx9 with hx9 | hx9 | hx9 <;> (rw [hx9]; simp)))).tr ((show hKp [xo, ez, eo, bu, nw0, na0, nq0, nr0, nw1, na1, nq1, nr1, bs, bp, bh, bf, bl, bg] f3 f98 from (by rw [ef98]; exact hKp.up h92 (Nat.ne_of_beq_eq_false rfl) (by simp))).tr (show hKp [xo, ez, eo, bu, nw0, na0, nq0, nr0, nw1, na1, nq1, nr1, bs, bp, bh, bf, bl, bg] f98 f111 from (k114.mono (fun x9 hx9 => by simp only [List.mem_cons, List.not_mem_nil, or_false] at hx9; rcases hx9 with hx9 | hx9 | hx9 <;> (rw [hx9]; simp))))))), blp1⟩, h168, h169, h174, h179, h185, h191, h197, h203, h209, h215, h221, p113, hB9, hfl9, nd_ez_eo, nd_nr0_nr1, nd_nw0_na0, nd_nw0_nq0, nd_nw0_nw1, nd_nw0_na1, nd_nw0_nq1, nd_na0_nq0, nd_na0_nw1, nd_na0_na1, nd_na0_nq1, nd_nq0_nw1, nd_nq0_na1, nd_nq0_nq1, nd_nw1_na1, nd_nw1_nq1, nd_na1_nq1, nd_bh_bp, nd_bf_bl⟩, ((show hKp [xo, ez, eo, bu, nw0, na0, nq0, nr0, nw1, na1, nq1, nr1, bs, bp, bh, bf, bl, bg] f f3 from (k81.mono (fun x9 hx9 => by simp only [List.mem_cons, List.not_mem_nil, or_false] at hx9; rcases hx9 with hx9 | hx9 | hx9 <;> (rw [hx9]; simp)))).tr ((show hKp [xo, ez, eo, bu, nw0, na0, nq0, nr0, nw1, na1, nq1, nr1, bs, bp, bh, bf, bl, bg] f3 f98 from (by rw [ef98]; exact hKp.up h92 (Nat.ne_of_beq_eq_false rfl) (by simp))).tr (show hKp [xo, ez, eo, bu, nw0, na0, nq0, nr0, nw1, na1, nq1, nr1, bs, bp, bh, bf, bl, bg] f98 f111 from (k114.mono (fun x9 hx9 => by simp only [List.mem_cons, List.not_mem_nil, or_false] at hx9; rcases hx9 with hx9 | hx9 | hx9 <;> (rw [hx9]; simp))))))⟩)
    · subst ev9
      refine W.eq (g2 := F0 m 5 ls [.ref eo]) rfl ?_
      refine lv_astore_n (lv' := [(2, .ref eo), (0, .ref xo), (1, .int i)]) hx hb dX4_loop_5 rfl hl9 (by decide) rfl (fun ls hl9 => ?_)
      refine lv_aload_n hx hb dX4_loop_6 rfl (lv_at hl9 0 rfl) ?_
      refine hp_S (As := [.ref eo]) (rest := []) B0 hw hS (c_X4_takeFrame hl G f eo nw1 na1 nq1 nr1 mg1 ⟨_, _, _, _, _, _, _, _, _, _, k_eo, k_nq1, k_nr1, fhd1, ftl1, blp1⟩ hPx) mS_X4_takeFrame qM_X4_73 rfl rfl hl9.1 (Nat.le_of_ble_eq_true rfl) ⟨⟨Nat.le_of_ble_eq_true rfl, Nat.le_of_ble_eq_true rfl⟩, Nat.le_of_ble_eq_true rfl, Nat.le_of_ble_eq_true rfl⟩ dX4_loop_7 (fun E ce q9 f222 H locs hPX hw hS hce hcv hcl => ?_) (fun v f222 H locs hP hw hS => ?_)
      · have hP := hPX
        obtain ⟨eE9, h223, p224, k225⟩ := hP
        obtain ⟨st226, tm227, sr228, li229, lp230, mi231, cn232, gq233, hd234, tl235, h236, h237, h238, h239, h240, h241⟩ := h223
        subst eE9
        have n242 : ez ≠ nr1 := hne k_ez k_nr1 (Nat.ne_of_beq_eq_false rfl)
        have n243 : ez ≠ nq1 := hne k_ez k_nq1 (Nat.ne_of_beq_eq_false rfl)
        have h244 : f222 ez = some (.inr (1, [.ref nw0, .ref na0, .ref nq0, .ref nr0, .int mg0, .int st0, .int tm0, .int sr0, .int li0, .int lp0, .int mi0])) := k225.1 _ _ k_ez (Nat.ne_of_beq_eq_false rfl) (ninc nd_ez_eo (ninc n243 (ninc n242 nin0)))
        have n245 : nq0 ≠ nr1 := hne k_nq0 k_nr1 (Nat.ne_of_beq_eq_false rfl)
        have n246 : nq0 ≠ eo := hne k_nq0 k_eo (Nat.ne_of_beq_eq_false rfl)
        have h247 : f222 nq0 = some (.inl (cI G, 6, .inl gq0)) := k225.1 _ _ k_nq0 (Nat.ne_of_beq_eq_false rfl) (ninc n246 (ninc nd_nq0_nq1 (ninc n245 nin0)))
        have n248 : nr0 ≠ nq1 := hne k_nr0 k_nq1 (Nat.ne_of_beq_eq_false rfl)
        have n249 : nr0 ≠ eo := hne k_nr0 k_eo (Nat.ne_of_beq_eq_false rfl)
        have h250 : f222 nr0 = some (.inr (3, [hd0, tl0, .int cn0])) := k225.1 _ _ k_nr0 (Nat.ne_of_beq_eq_false rfl) (ninc n249 (ninc n248 (ninc nd_nr0_nr1 nin0)))
        have n251 : xo ≠ nr1 := hne k_xo k_nr1 (Nat.ne_of_beq_eq_false rfl)
        have n252 : xo ≠ nq1 := hne k_xo k_nq1 (Nat.ne_of_beq_eq_false rfl)
        have n253 : xo ≠ eo := hne k_xo k_eo (Nat.ne_of_beq_eq_false rfl)
        have h254 : f222 xo = some (.inr (4, [.ref ez, .ref eo, .ref bu])) := k225.1 _ _ k_xo (Nat.ne_of_beq_eq_false rfl) (ninc n253 (ninc n252 (ninc n251 nin0)))
        have n255 : nw0 ≠ nr1 := hne k_nw0 k_nr1 (Nat.ne_of_beq_eq_false rfl)
        have n256 : nw0 ≠ eo := hne k_nw0 k_eo (Nat.ne_of_beq_eq_false rfl)
        have h257 : f222 nw0 = some (.inl (cI G, 6, .inl gw0)) := k225.1 _ _ k_nw0 (Nat.ne_of_beq_eq_false rfl) (ninc n256 (ninc nd_nw0_nq1 (ninc n255 nin0)))
        have n258 : na0 ≠ nr1 := hne k_na0 k_nr1 (Nat.ne_of_beq_eq_false rfl)
        have n259 : na0 ≠ eo := hne k_na0 k_eo (Nat.ne_of_beq_eq_false rfl)
        have h260 : f222 na0 = some (.inl (cI G, 6, .inl ga0)) := k225.1 _ _ k_na0 (Nat.ne_of_beq_eq_false rfl) (ninc n259 (ninc nd_na0_nq1 (ninc n258 nin0)))
        have n261 : nw1 ≠ nr1 := hne k_nw1 k_nr1 (Nat.ne_of_beq_eq_false rfl)
        have n262 : nw1 ≠ eo := hne k_nw1 k_eo (Nat.ne_of_beq_eq_false rfl)
        have h263 : f222 nw1 = some (.inl (cI G, 6, .inl gw1)) := k225.1 _ _ k_nw1 (Nat.ne_of_beq_eq_false rfl) (ninc n262 (ninc nd_nw1_nq1 (ninc n261 nin0)))
        have n264 : na1 ≠ nr1 := hne k_na1 k_nr1 (Nat.ne_of_beq_eq_false rfl)
        have n265 : na1 ≠ eo := hne k_na1 k_eo (Nat.ne_of_beq_eq_false rfl)
        have h266 : f222 na1 = some (.inl (cI G, 6, .inl ga1)) := k225.1 _ _ k_na1 (Nat.ne_of_beq_eq_false rfl) (ninc n265 (ninc nd_na1_nq1 (ninc n264 nin0)))
        have n267 : bu ≠ nr1 := hne k_bu k_nr1 (Nat.ne_of_beq_eq_false rfl)
        have n268 : bu ≠ nq1 := hne k_bu k_nq1 (Nat.ne_of_beq_eq_false rfl)
        have n269 : bu ≠ eo := hne k_bu k_eo (Nat.ne_of_beq_eq_false rfl)
        have h270 : f222 bu = some (.inr (0, [.ref bs, .ref bp, .ref bh, .ref bf, .ref bl, .ref bg, .int (nI n), .int (nI cg), .int (nI x)])) := k225.1 _ _ k_bu (Nat.ne_of_beq_eq_false rfl) (ninc n269 (ninc n268 (ninc n267 nin0)))
        have n271 : bs ≠ nr1 := hne k_bs k_nr1 (Nat.ne_of_beq_eq_false rfl)
        have n272 : bs ≠ nq1 := hneL k_bs k_nq1 (Nat.ne_of_beq_eq_false rfl)
        have n273 : bs ≠ eo := hne k_bs k_eo (Nat.ne_of_beq_eq_false rfl)
        have h274 : f222 bs = some (.inl (cI G, 61, .inl (nf sa))) := k225.1 _ _ k_bs (Nat.ne_of_beq_eq_false rfl) (ninc n273 (ninc n272 (ninc n271 nin0)))
        have n275 : bp ≠ nr1 := hne k_bp k_nr1 (Nat.ne_of_beq_eq_false rfl)
        have n276 : bp ≠ nq1 := hneL k_bp k_nq1 (Nat.ne_of_beq_eq_false rfl)
        have n277 : bp ≠ eo := hne k_bp k_eo (Nat.ne_of_beq_eq_false rfl)
        have h278 : f222 bp = some (.inl (cI G, 240, .inl (nf pk))) := k225.1 _ _ k_bp (Nat.ne_of_beq_eq_false rfl) (ninc n277 (ninc n276 (ninc n275 nin0)))
        have n279 : bh ≠ nr1 := hne k_bh k_nr1 (Nat.ne_of_beq_eq_false rfl)
        have n280 : bh ≠ nq1 := hneL k_bh k_nq1 (Nat.ne_of_beq_eq_false rfl)
        have n281 : bh ≠ eo := hne k_bh k_eo (Nat.ne_of_beq_eq_false rfl)
        have h282 : f222 bh = some (.inl (cZ G, 240, .inl gh)) := k225.1 _ _ k_bh (Nat.ne_of_beq_eq_false rfl) (ninc n281 (ninc n280 (ninc n279 nin0)))
        have n283 : bf ≠ nr1 := hne k_bf k_nr1 (Nat.ne_of_beq_eq_false rfl)
        have n284 : bf ≠ nq1 := hneL k_bf k_nq1 (Nat.ne_of_beq_eq_false rfl)
        have n285 : bf ≠ eo := hne k_bf k_eo (Nat.ne_of_beq_eq_false rfl)
        have h286 : f222 bf = some (.inl (cI G, 3, .inl (nf fl))) := k225.1 _ _ k_bf (Nat.ne_of_beq_eq_false rfl) (ninc n285 (ninc n284 (ninc n283 nin0)))
        have n287 : bl ≠ nr1 := hne k_bl k_nr1 (Nat.ne_of_beq_eq_false rfl)
        have n288 : bl ≠ nq1 := hneL k_bl k_nq1 (Nat.ne_of_beq_eq_false rfl)
        have n289 : bl ≠ eo := hne k_bl k_eo (Nat.ne_of_beq_eq_false rfl)
        have h290 : f222 bl = some (.inl (cI G, 3, .inl gl)) := k225.1 _ _ k_bl (Nat.ne_of_beq_eq_false rfl) (ninc n289 (ninc n288 (ninc n287 nin0)))
        have n291 : bg ≠ nr1 := hne k_bg k_nr1 (Nat.ne_of_beq_eq_false rfl)
        have n292 : bg ≠ nq1 := hneL k_bg k_nq1 (Nat.ne_of_beq_eq_false rfl)
        have n293 : bg ≠ eo := hne k_bg k_eo (Nat.ne_of_beq_eq_false rfl)
        have h294 : f222 bg = some (.inl (cI G, 60, .inl (nf gv))) := k225.1 _ _ k_bg (Nat.ne_of_beq_eq_false rfl) (ninc n293 (ninc n292 (ninc n291 nin0)))
        exact hp_out B0 hw hS hout hce hcv hcl ⟨Nat.le_of_ble_eq_true rfl, Nat.le_of_ble_eq_true rfl⟩ (⟨(Or.inr rfl), ⟨h254, ⟨_, _, _, _, _, _, _, _, _, _, h244, h247, h250, (fhd0.kp (show hKp [xo, ez, eo, bu, nw0, na0, nq0, nr0, nw1, na1, nq1, nr1, bs, bp, bh, bf, bl, bg] f f222 from (k225.mono (fun x9 hx9 => by simp only [List.mem_cons, List.not_mem_nil, or_false] at hx9; rcases hx9 with hx9 | hx9 | hx9 <;> (rw [hx9]; simp))))), (ftl0.kp (show hKp [xo, ez, eo, bu, nw0, na0, nq0, nr0, nw1, na1, nq1, nr1, bs, bp, bh, bf, bl, bg] f f222 from (k225.mono (fun x9 hx9 => by simp only [List.mem_cons, List.not_mem_nil, or_false] at hx9; rcases hx9 with hx9 | hx9 | hx9 <;> (rw [hx9]; simp))))), blp0⟩, ⟨_, _, _, _, _, _, _, _, _, _, h236, h237, h238, h239, h240, h241⟩, h257, h260, h263, h266, h270, h274, h278, h282, h286, h290, h294, p224, hB9, hfl9, nd_ez_eo, nd_nr0_nr1, nd_nw0_na0, nd_nw0_nq0, nd_nw0_nw1, nd_nw0_na1, nd_nw0_nq1, nd_na0_nq0, nd_na0_nw1, nd_na0_na1, nd_na0_nq1, nd_nq0_nw1, nd_nq0_na1, nd_nq0_nq1, nd_nw1_na1, nd_nw1_nq1, nd_na1_nq1, nd_bh_bp, nd_bf_bl⟩, (show hKp [xo, ez, eo, bu, nw0, na0, nq0, nr0, nw1, na1, nq1, nr1, bs, bp, bh, bf, bl, bg] f f222 from (k225.mono (fun x9 hx9 => by simp only [List.mem_cons, List.not_mem_nil, or_false] at hx9; rcases hx9 with hx9 | hx9 | hx9 <;> (rw [hx9]; simp))))⟩)
      · obtain ⟨⟨t295, k296, ev9, h297⟩, h298, p299, k300⟩ := hP
        obtain ⟨st301, tm302, sr303, li304, lp305, mi306, cn307, gq308, hd309, tl310, h311, h312, h313, h314, h315, h316⟩ := h298
        subst ev9
        refine W.eq (g2 := F0 m 10 ls [.ref t295]) rfl ?_
        refine lv_astore_n (lv' := [(3, .ref t295), (2, .ref eo), (0, .ref xo), (1, .int i)]) hx hb dX4_loop_10 rfl hl9 (by decide) rfl (fun ls hl9 => ?_)
        refine lv_aload_n hx hb dX4_loop_11 rfl (lv_at hl9 1 rfl) ?_
        refine lv_dup hx hb dX4_loop_12 rfl ?_
        refine hp_getN B0 hw 1 rfl in_X1 h311 10 (by decide) oF_X4_86 rfl dX4_loop_13 ?_
        refine lv_iconst (v := 1) hx hb dX4_loop_16 (by decide) ?_
        refine lv_iadd hx hb dX4_loop_17 ?_
        refine hp_putN (fs1 := [.ref nw1, .ref na1, .ref nq1, .ref nr1, .int mg1, .int st301, .int tm302, .int sr303, .int li304, .int lp305, .int (mi306 + 1)]) (ty := .int) B0 hw hS 1 rfl in_X1 tyX1 tyX1_ok nmX1 h311 10 (by decide) oF_X4_86 rfl (by decide +kernel) rfl rfl (Nat.le_of_ble_eq_true rfl) rfl dX4_loop_18 (fun H locs f317 ef317 hw hS => ?_)
        have h318 : f317 eo = some (.inr (1, [.ref nw1, .ref na1, .ref nq1, .ref nr1, .int mg1, .int st301, .int tm302, .int sr303, .int li304, .int lp305, .int (mi306 + 1)])) := by rw [ef317, va_up_self]
        refine lv_aload_n hx hb dX4_loop_21 rfl (lv_at hl9 1 rfl) ?_
        refine lv_aload_n hx hb dX4_loop_22 rfl (lv_at hl9 0 rfl) ?_
        have n320 : nq1 ≠ eo := hne k_nq1 k_eo (Nat.ne_of_beq_eq_false rfl)
        have h319 : f317 nq1 = some (.inl (cI G, 6, .inl gq308)) := by rw [ef317, va_up_ne _ _ n320]; exact h312
        have n322 : nr1 ≠ eo := hne k_nr1 k_eo (Nat.ne_of_beq_eq_false rfl)
        have h321 : f317 nr1 = some (.inr (3, [hd309, tl310, .int cn307])) := by rw [ef317, va_up_ne _ _ n322]; exact h313
        have p323 : PoolX G [] f317 := by rw [ef317]; exact px_upd p299 h311 (Nat.ne_of_beq_eq_false rfl) (Nat.ne_of_beq_eq_false rfl) (fun g9 h9 => nomatch h9)
        have n325 : t295 ≠ eo := hne h297 h311 (Nat.ne_of_beq_eq_false rfl)
        have h324 : f317 t295 = some (.inr (2, k296)) := by rw [ef317, va_up_ne _ _ n325]; exact h297
        have n326 : na1 ≠ nr1 := hne k_na1 k_nr1 (Nat.ne_of_beq_eq_false rfl)
        have n327 : na1 ≠ eo := hne k_na1 k_eo (Nat.ne_of_beq_eq_false rfl)
        have h328 : f222 na1 = some (.inl (cI G, 6, .inl ga1)) := k300.1 _ _ k_na1 (Nat.ne_of_beq_eq_false rfl) (ninc n327 (ninc nd_na1_nq1 (ninc n326 nin0)))
        have h329 : f317 na1 = some (.inl (cI G, 6, .inl ga1)) := by rw [ef317, va_up_ne _ _ n327]; exact h328
        refine hp_V (ci := 1) (As := [.ref t295]) (rest := []) B0 hw hS (c_X1_hear hl G f317 eo nw1 na1 nq1 nr1 mg1 ⟨_, _, _, _, _, _, _, _, _, _, h318, h319, h321, (h314.kp (show hKp [xo, ez, eo, bu, nw0, na0, nq0, nr0, nw1, na1, nq1, nr1, bs, bp, bh, bf, bl, bg] f222 f317 from (by rw [ef317]; exact hKp.up h311 (Nat.ne_of_beq_eq_false rfl) (by simp)))), (h315.kp (show hKp [xo, ez, eo, bu, nw0, na0, nq0, nr0, nw1, na1, nq1, nr1, bs, bp, bh, bf, bl, bg] f222 f317 from (by rw [ef317]; exact hKp.up h311 (Nat.ne_of_beq_eq_false rfl) (by simp)))), h316⟩ p323 ga1 h329 nd_na1_nq1 t295 _ h324) mV_X1_hear qM_X4_77 rfl h318 rfl rfl hl9.1 (Nat.le_of_ble_eq_true rfl) ⟨⟨Nat.le_of_ble_eq_true rfl, Nat.le_of_ble_eq_true rfl⟩, Nat.le_of_ble_eq_true rfl, Nat.le_of_ble_eq_true rfl⟩ dX4_loop_23 (fun E ce q9 f330 H locs hPX hw hS hce hcv hcl => ?_) (fun v f330 H locs hP hw hS => ?_)
        · exact hPX.elim
        · obtain ⟨ev9, h331, p332, k333⟩ := hP
          obtain ⟨st334, tm335, sr336, li337, lp338, mi339, cn340, gq341, hd342, tl343, h344, h345, h346, h347, h348, h349⟩ := h331
          subst ev9
          refine W.eq (g2 := F0 m 26 ls []) rfl ?_
          refine lv_aload_n hx hb dX4_loop_26 rfl (lv_at hl9 0 rfl) ?_
          obtain ⟨k350, h351⟩ := k333.2 _ _ h324
          obtain ⟨x352, x353, x354, v355, y356, g357, e358, h359, h360⟩ := p332 _ _ h351 nin0
          rw [e358] at h351
          refine hp_get B0 hw 2 rfl in_X2 h351 0 (by decide) qF_X4_81 rfl dX4_loop_27 ?_
          have n362 : ez ≠ nr1 := hne k_ez k_nr1 (Nat.ne_of_beq_eq_false rfl)
          have n363 : ez ≠ nq1 := hne k_ez k_nq1 (Nat.ne_of_beq_eq_false rfl)
          have h364 : f222 ez = some (.inr (1, [.ref nw0, .ref na0, .ref nq0, .ref nr0, .int mg0, .int st0, .int tm0, .int sr0, .int li0, .int lp0, .int mi0])) := k300.1 _ _ k_ez (Nat.ne_of_beq_eq_false rfl) (ninc nd_ez_eo (ninc n363 (ninc n362 nin0)))
          have h365 : f317 ez = some (.inr (1, [.ref nw0, .ref na0, .ref nq0, .ref nr0, .int mg0, .int st0, .int tm0, .int sr0, .int li0, .int lp0, .int mi0])) := by rw [ef317, va_up_ne _ _ nd_ez_eo]; exact h364
          have h366 : f330 ez = some (.inr (1, [.ref nw0, .ref na0, .ref nq0, .ref nr0, .int mg0, .int st0, .int tm0, .int sr0, .int li0, .int lp0, .int mi0])) := k333.1 _ _ h365 (Nat.ne_of_beq_eq_false rfl) (ninc nd_ez_eo (ninc n363 (ninc n362 nin0)))
          have n367 : nq0 ≠ nr1 := hne k_nq0 k_nr1 (Nat.ne_of_beq_eq_false rfl)
          have n368 : nq0 ≠ eo := hne k_nq0 k_eo (Nat.ne_of_beq_eq_false rfl)
          have h369 : f222 nq0 = some (.inl (cI G, 6, .inl gq0)) := k300.1 _ _ k_nq0 (Nat.ne_of_beq_eq_false rfl) (ninc n368 (ninc nd_nq0_nq1 (ninc n367 nin0)))
          have h370 : f317 nq0 = some (.inl (cI G, 6, .inl gq0)) := by rw [ef317, va_up_ne _ _ n368]; exact h369
          have h371 : f330 nq0 = some (.inl (cI G, 6, .inl gq0)) := k333.1 _ _ h370 (Nat.ne_of_beq_eq_false rfl) (ninc n368 (ninc nd_nq0_nq1 (ninc n367 nin0)))
          have n372 : nr0 ≠ nq1 := hne k_nr0 k_nq1 (Nat.ne_of_beq_eq_false rfl)
          have n373 : nr0 ≠ eo := hne k_nr0 k_eo (Nat.ne_of_beq_eq_false rfl)
          have h374 : f222 nr0 = some (.inr (3, [hd0, tl0, .int cn0])) := k300.1 _ _ k_nr0 (Nat.ne_of_beq_eq_false rfl) (ninc n373 (ninc n372 (ninc nd_nr0_nr1 nin0)))
          have h375 : f317 nr0 = some (.inr (3, [hd0, tl0, .int cn0])) := by rw [ef317, va_up_ne _ _ n373]; exact h374
          have h376 : f330 nr0 = some (.inr (3, [hd0, tl0, .int cn0])) := k333.1 _ _ h375 (Nat.ne_of_beq_eq_false rfl) (ninc n373 (ninc n372 (ninc nd_nr0_nr1 nin0)))
          have n377 : xo ≠ nr1 := hne k_xo k_nr1 (Nat.ne_of_beq_eq_false rfl)
          have n378 : xo ≠ nq1 := hne k_xo k_nq1 (Nat.ne_of_beq_eq_false rfl)
          have n379 : xo ≠ eo := hne k_xo k_eo (Nat.ne_of_beq_eq_false rfl)
          have h380 : f222 xo = some (.inr (4, [.ref ez, .ref eo, .ref bu])) := k300.1 _ _ k_xo (Nat.ne_of_beq_eq_false rfl) (ninc n379 (ninc n378 (ninc n377 nin0)))
          have h381 : f317 xo = some (.inr (4, [.ref ez, .ref eo, .ref bu])) := by rw [ef317, va_up_ne _ _ n379]; exact h380
          have h382 : f330 xo = some (.inr (4, [.ref ez, .ref eo, .ref bu])) := k333.1 _ _ h381 (Nat.ne_of_beq_eq_false rfl) (ninc n379 (ninc n378 (ninc n377 nin0)))
          have n383 : nw0 ≠ nr1 := hne k_nw0 k_nr1 (Nat.ne_of_beq_eq_false rfl)
          have n384 : nw0 ≠ eo := hne k_nw0 k_eo (Nat.ne_of_beq_eq_false rfl)
          have h385 : f222 nw0 = some (.inl (cI G, 6, .inl gw0)) := k300.1 _ _ k_nw0 (Nat.ne_of_beq_eq_false rfl) (ninc n384 (ninc nd_nw0_nq1 (ninc n383 nin0)))
          have h386 : f317 nw0 = some (.inl (cI G, 6, .inl gw0)) := by rw [ef317, va_up_ne _ _ n384]; exact h385
          have h387 : f330 nw0 = some (.inl (cI G, 6, .inl gw0)) := k333.1 _ _ h386 (Nat.ne_of_beq_eq_false rfl) (ninc n384 (ninc nd_nw0_nq1 (ninc n383 nin0)))
          have n388 : na0 ≠ nr1 := hne k_na0 k_nr1 (Nat.ne_of_beq_eq_false rfl)
          have n389 : na0 ≠ eo := hne k_na0 k_eo (Nat.ne_of_beq_eq_false rfl)
          have h390 : f222 na0 = some (.inl (cI G, 6, .inl ga0)) := k300.1 _ _ k_na0 (Nat.ne_of_beq_eq_false rfl) (ninc n389 (ninc nd_na0_nq1 (ninc n388 nin0)))
          have h391 : f317 na0 = some (.inl (cI G, 6, .inl ga0)) := by rw [ef317, va_up_ne _ _ n389]; exact h390
          have h392 : f330 na0 = some (.inl (cI G, 6, .inl ga0)) := k333.1 _ _ h391 (Nat.ne_of_beq_eq_false rfl) (ninc n389 (ninc nd_na0_nq1 (ninc n388 nin0)))
          have n393 : nw1 ≠ nr1 := hne k_nw1 k_nr1 (Nat.ne_of_beq_eq_false rfl)
          have n394 : nw1 ≠ eo := hne k_nw1 k_eo (Nat.ne_of_beq_eq_false rfl)
          have h395 : f222 nw1 = some (.inl (cI G, 6, .inl gw1)) := k300.1 _ _ k_nw1 (Nat.ne_of_beq_eq_false rfl) (ninc n394 (ninc nd_nw1_nq1 (ninc n393 nin0)))
          have h396 : f317 nw1 = some (.inl (cI G, 6, .inl gw1)) := by rw [ef317, va_up_ne _ _ n394]; exact h395
          have h397 : f330 nw1 = some (.inl (cI G, 6, .inl gw1)) := k333.1 _ _ h396 (Nat.ne_of_beq_eq_false rfl) (ninc n394 (ninc nd_nw1_nq1 (ninc n393 nin0)))
          have h398 : f330 na1 = some (.inl (cI G, 6, .inl ga1)) := k333.1 _ _ h329 (Nat.ne_of_beq_eq_false rfl) (ninc n327 (ninc nd_na1_nq1 (ninc n326 nin0)))
          have n399 : bu ≠ nr1 := hne k_bu k_nr1 (Nat.ne_of_beq_eq_false rfl)
          have n400 : bu ≠ nq1 := hne k_bu k_nq1 (Nat.ne_of_beq_eq_false rfl)
          have n401 : bu ≠ eo := hne k_bu k_eo (Nat.ne_of_beq_eq_false rfl)
          have h402 : f222 bu = some (.inr (0, [.ref bs, .ref bp, .ref bh, .ref bf, .ref bl, .ref bg, .int (nI n), .int (nI cg), .int (nI x)])) := k300.1 _ _ k_bu (Nat.ne_of_beq_eq_false rfl) (ninc n401 (ninc n400 (ninc n399 nin0)))
          have h403 : f317 bu = some (.inr (0, [.ref bs, .ref bp, .ref bh, .ref bf, .ref bl, .ref bg, .int (nI n), .int (nI cg), .int (nI x)])) := by rw [ef317, va_up_ne _ _ n401]; exact h402
          have h404 : f330 bu = some (.inr (0, [.ref bs, .ref bp, .ref bh, .ref bf, .ref bl, .ref bg, .int (nI n), .int (nI cg), .int (nI x)])) := k333.1 _ _ h403 (Nat.ne_of_beq_eq_false rfl) (ninc n401 (ninc n400 (ninc n399 nin0)))
          have n405 : bs ≠ nr1 := hne k_bs k_nr1 (Nat.ne_of_beq_eq_false rfl)
          have n406 : bs ≠ nq1 := hneL k_bs k_nq1 (Nat.ne_of_beq_eq_false rfl)
          have n407 : bs ≠ eo := hne k_bs k_eo (Nat.ne_of_beq_eq_false rfl)
          have h408 : f222 bs = some (.inl (cI G, 61, .inl (nf sa))) := k300.1 _ _ k_bs (Nat.ne_of_beq_eq_false rfl) (ninc n407 (ninc n406 (ninc n405 nin0)))
          have h409 : f317 bs = some (.inl (cI G, 61, .inl (nf sa))) := by rw [ef317, va_up_ne _ _ n407]; exact h408
          have h410 : f330 bs = some (.inl (cI G, 61, .inl (nf sa))) := k333.1 _ _ h409 (Nat.ne_of_beq_eq_false rfl) (ninc n407 (ninc n406 (ninc n405 nin0)))
          have n411 : bp ≠ nr1 := hne k_bp k_nr1 (Nat.ne_of_beq_eq_false rfl)
          have n412 : bp ≠ nq1 := hneL k_bp k_nq1 (Nat.ne_of_beq_eq_false rfl)
          have n413 : bp ≠ eo := hne k_bp k_eo (Nat.ne_of_beq_eq_false rfl)
          have h414 : f222 bp = some (.inl (cI G, 240, .inl (nf pk))) := k300.1 _ _ k_bp (Nat.ne_of_beq_eq_false rfl) (ninc n413 (ninc n412 (ninc n411 nin0)))
          have h415 : f317 bp = some (.inl (cI G, 240, .inl (nf pk))) := by rw [ef317, va_up_ne _ _ n413]; exact h414
          have h416 : f330 bp = some (.inl (cI G, 240, .inl (nf pk))) := k333.1 _ _ h415 (Nat.ne_of_beq_eq_false rfl) (ninc n413 (ninc n412 (ninc n411 nin0)))
          have n417 : bh ≠ nr1 := hne k_bh k_nr1 (Nat.ne_of_beq_eq_false rfl)
          have n418 : bh ≠ nq1 := hneL k_bh k_nq1 (Nat.ne_of_beq_eq_false rfl)
          have n419 : bh ≠ eo := hne k_bh k_eo (Nat.ne_of_beq_eq_false rfl)
          have h420 : f222 bh = some (.inl (cZ G, 240, .inl gh)) := k300.1 _ _ k_bh (Nat.ne_of_beq_eq_false rfl) (ninc n419 (ninc n418 (ninc n417 nin0)))
          have h421 : f317 bh = some (.inl (cZ G, 240, .inl gh)) := by rw [ef317, va_up_ne _ _ n419]; exact h420
          have h422 : f330 bh = some (.inl (cZ G, 240, .inl gh)) := k333.1 _ _ h421 (Nat.ne_of_beq_eq_false rfl) (ninc n419 (ninc n418 (ninc n417 nin0)))
          have n423 : bf ≠ nr1 := hne k_bf k_nr1 (Nat.ne_of_beq_eq_false rfl)
          have n424 : bf ≠ nq1 := hneL k_bf k_nq1 (Nat.ne_of_beq_eq_false rfl)
          have n425 : bf ≠ eo := hne k_bf k_eo (Nat.ne_of_beq_eq_false rfl)
          have h426 : f222 bf = some (.inl (cI G, 3, .inl (nf fl))) := k300.1 _ _ k_bf (Nat.ne_of_beq_eq_false rfl) (ninc n425 (ninc n424 (ninc n423 nin0)))
          have h427 : f317 bf = some (.inl (cI G, 3, .inl (nf fl))) := by rw [ef317, va_up_ne _ _ n425]; exact h426
          have h428 : f330 bf = some (.inl (cI G, 3, .inl (nf fl))) := k333.1 _ _ h427 (Nat.ne_of_beq_eq_false rfl) (ninc n425 (ninc n424 (ninc n423 nin0)))
          have n429 : bl ≠ nr1 := hne k_bl k_nr1 (Nat.ne_of_beq_eq_false rfl)
          have n430 : bl ≠ nq1 := hneL k_bl k_nq1 (Nat.ne_of_beq_eq_false rfl)
          have n431 : bl ≠ eo := hne k_bl k_eo (Nat.ne_of_beq_eq_false rfl)
          have h432 : f222 bl = some (.inl (cI G, 3, .inl gl)) := k300.1 _ _ k_bl (Nat.ne_of_beq_eq_false rfl) (ninc n431 (ninc n430 (ninc n429 nin0)))
          have h433 : f317 bl = some (.inl (cI G, 3, .inl gl)) := by rw [ef317, va_up_ne _ _ n431]; exact h432
          have h434 : f330 bl = some (.inl (cI G, 3, .inl gl)) := k333.1 _ _ h433 (Nat.ne_of_beq_eq_false rfl) (ninc n431 (ninc n430 (ninc n429 nin0)))
          have n435 : bg ≠ nr1 := hne k_bg k_nr1 (Nat.ne_of_beq_eq_false rfl)
          have n436 : bg ≠ nq1 := hneL k_bg k_nq1 (Nat.ne_of_beq_eq_false rfl)
          have n437 : bg ≠ eo := hne k_bg k_eo (Nat.ne_of_beq_eq_false rfl)
          have h438 : f222 bg = some (.inl (cI G, 60, .inl (nf gv))) := k300.1 _ _ k_bg (Nat.ne_of_beq_eq_false rfl) (ninc n437 (ninc n436 (ninc n435 nin0)))
          have h439 : f317 bg = some (.inl (cI G, 60, .inl (nf gv))) := by rw [ef317, va_up_ne _ _ n437]; exact h438
          have h440 : f330 bg = some (.inl (cI G, 60, .inl (nf gv))) := k333.1 _ _ h439 (Nat.ne_of_beq_eq_false rfl) (ninc n437 (ninc n436 (ninc n435 nin0)))
          exact hp_iret (v := x352) B0 hw hS hr ⟨Nat.le_of_ble_eq_true rfl, Nat.le_of_ble_eq_true rfl⟩ dX4_loop_30 (⟨⟨_, rfl⟩, ⟨h382, ⟨_, _, _, _, _, _, _, _, _, _, h366, h371, h376, (fhd0.kp ((show hKp [xo, ez, eo, bu, nw0, na0, nq0, nr0, nw1, na1, nq1, nr1, bs, bp, bh, bf, bl, bg] f f222 from (k300.mono (fun x9 hx9 => by simp only [List.mem_cons, List.not_mem_nil, or_false] at hx9; rcases hx9 with hx9 | hx9 | hx9 <;> (rw [hx9]; simp)))).tr ((show hKp [xo, ez, eo, bu, nw0, na0, nq0, nr0, nw1, na1, nq1, nr1, bs, bp, bh, bf, bl, bg] f222 f317 from (by rw [ef317]; exact hKp.up h311 (Nat.ne_of_beq_eq_false rfl) (by simp))).tr (show hKp [xo, ez, eo, bu, nw0, na0, nq0, nr0, nw1, na1, nq1, nr1, bs, bp, bh, bf, bl, bg] f317 f330 from (k333.mono (fun x9 hx9 => by simp only [List.mem_cons, List.not_mem_nil, or_false] at hx9; rcases hx9 with hx9 | hx9 | hx9 <;> (rw [hx9]; simp))))))), (ftl0.kp ((show hKp [xo, ez, eo, bu, nw0, na0, nq0, nr0, nw1, na1, nq1, nr1, bs, bp, bh, bf, bl, bg] f f222 from (k300.mono (fun x9 hx9 => by simp only [List.mem_cons, List.not_mem_nil, or_false] at hx9; rcases hx9 with hx9 | hx9 | hx9 <;> (rw [hx9]; simp)))).tr ((show hKp [xo, ez, eo, bu, nw0, na0, nq0, nr0, nw1, na1, nq1, nr1, bs, bp, bh, bf, bl, bg] f222 f317 from (by rw [ef317]; exact hKp.up h311 (Nat.ne_of_beq_eq_false rfl) (by simp))).tr (show hKp [xo, ez, eo, bu, nw0, na0, nq0, nr0, nw1, na1, nq1, nr1, bs, bp, bh, bf, bl, bg] f317 f330 from (k333.mono (fun x9 hx9 => by simp only [List.mem_cons, List.not_mem_nil, or_false] at hx9; rcases hx9 with hx9 | hx9 | hx9 <;> (rw [hx9]; simp))))))), blp0⟩, ⟨_, _, _, _, _, _, _, _, _, _, h344, h345, h346, h347, h348, h349⟩, h387, h392, h397, h398, h404, h410, h416, h422, h428, h434, h440, p332, hB9, hfl9, nd_ez_eo, nd_nr0_nr1, nd_nw0_na0, nd_nw0_nq0, nd_nw0_nw1, nd_nw0_na1, nd_nw0_nq1, nd_na0_nq0, nd_na0_nw1, nd_na0_na1, nd_na0_nq1, nd_nq0_nw1, nd_nq0_na1, nd_nq0_nq1, nd_nw1_na1, nd_nw1_nq1, nd_na1_nq1, nd_bh_bp, nd_bf_bl⟩, ((show hKp [xo, ez, eo, bu, nw0, na0, nq0, nr0, nw1, na1, nq1, nr1, bs, bp, bh, bf, bl, bg] f f222 from (k300.mono (fun x9 hx9 => by simp only [List.mem_cons, List.not_mem_nil, or_false] at hx9; rcases hx9 with hx9 | hx9 | hx9 <;> (rw [hx9]; simp)))).tr ((show hKp [xo, ez, eo, bu, nw0, na0, nq0, nr0, nw1, na1, nq1, nr1, bs, bp, bh, bf, bl, bg] f222 f317 from (by rw [ef317]; exact hKp.up h311 (Nat.ne_of_beq_eq_false rfl) (by simp))).tr (show hKp [xo, ez, eo, bu, nw0, na0, nq0, nr0, nw1, na1, nq1, nr1, bs, bp, bh, bf, bl, bg] f317 f330 from (k333.mono (fun x9 hx9 => by simp only [List.mem_cons, List.not_mem_nil, or_false] at hx9; rcases hx9 with hx9 | hx9 | hx9 <;> (rw [hx9]; simp))))))⟩)

set_option maxHeartbeats 4000000 in
set_option maxRecDepth 100000 in
theorem c_X4_stateOf {l : Launch} (hl : l.stackTraces = false) (G : hG) (f : hM) (xo ez eo bu nw0 na0 nq0 nr0 nw1 na1 nq1 nr1 bs bp bh bf bl bg : Nat) (gw0 : Nat → Int32) (ga0 : Nat → Int32) (gw1 : Nat → Int32) (ga1 : Nat → Int32) (mg0 : Int32) (mg1 : Int32) (n : Nat) (a : Nat) (cg : Nat) (x : Nat) (sa : Nat → Nat) (pk : Nat → Nat) (fl : Nat → Nat) (gv : Nat → Nat) (gh : Nat → Int32) (gl : Nat → Int32) (hC : CW G f xo ez eo bu nw0 na0 nq0 nr0 nw1 na1 nq1 nr1 bs bp bh bf bl bg gw0 ga0 gw1 ga1 mg0 mg1 n a cg x sa pk fl gv gh gl) (i : Int32) : CT l yX4_stateOf (.code yX4_stateOf cX4_stateOf 2 (some .int)) 7 103 1 6 G [.ref xo, .int i] f (fun v f1 => (∃ r9 : Int32, v = some (.int r9)) ∧ CW G f1 xo ez eo bu nw0 na0 nq0 nr0 nw1 na1 nq1 nr1 bs bp bh bf bl bg gw0 ga0 gw1 ga1 mg0 mg1 n a cg x sa pk fl gv gh gl ∧ hKp [xo, ez, eo, bu, nw0, na0, nq0, nr0, nw1, na1, nq1, nr1, bs, bp, bh, bf, bl, bg] f f1) (fun E f1 => (E = eI) ∧ CW G f1 xo ez eo bu nw0 na0 nq0 nr0 nw1 na1 nq1 nr1 bs bp bh bf bl bg gw0 ga0 gw1 ga1 mg0 mg1 n a cg x sa pk fl gv gh gl ∧ hKp [xo, ez, eo, bu, nw0, na0, nq0, nr0, nw1, na1, nq1, nr1, bs, bp, bh, bf, bl, bg] f f1) := by
  refine hp_start hl (own := RX4) (by decide) rfl (Nat.le_of_ble_eq_true rfl) ?_
  intro p e s m args below meth c B0 hr hnm hout hw hS ls hl9
  have hx := B0.1
  have hb := B0.2.1
  have hl9 : lv_has ls 2 [(0, .ref xo), (1, .int i)] := hl9
  obtain ⟨k_xo, ⟨st0, tm0, sr0, li0, lp0, mi0, cn0, gq0, hd0, tl0, k_ez, k_nq0, k_nr0, fhd0, ftl0, blp0⟩, ⟨st1, tm1, sr1, li1, lp1, mi1, cn1, gq1, hd1, tl1, k_eo, k_nq1, k_nr1, fhd1, ftl1, blp1⟩, k_nw0, k_na0, k_nw1, k_na1, k_bu, k_bs, k_bp, k_bh, k_bf, k_bl, k_bg, hPx, hB9, hfl9, nd_ez_eo, nd_nr0_nr1, nd_nw0_na0, nd_nw0_nq0, nd_nw0_nw1, nd_nw0_na1, nd_nw0_nq1, nd_na0_nq0, nd_na0_nw1, nd_na0_na1, nd_na0_nq1, nd_nq0_nw1, nd_nq0_na1, nd_nq0_nq1, nd_nw1_na1, nd_nw1_nq1, nd_na1_nq1, nd_bh_bp, nd_bf_bl⟩ := hC
  refine lv_aload_n hx hb dX4_stateOf_0 rfl (lv_at hl9 0 rfl) ?_
  refine lv_iload_n hx hb dX4_stateOf_1 rfl (lv_at hl9 1 rfl) ?_
  refine hp_V (ci := 4) (As := [.int i]) (rest := []) B0 hw hS (c_X4_endAt hl G f xo ez eo bu k_xo i) mV_X4_endAt qM_X4_28 rfl k_xo rfl rfl hl9.1 (Nat.le_of_ble_eq_true rfl) ⟨⟨Nat.le_of_ble_eq_true rfl, Nat.le_of_ble_eq_true rfl⟩, Nat.le_of_ble_eq_true rfl, Nat.le_of_ble_eq_true rfl⟩ dX4_stateOf_2 (fun E ce q9 f1 H locs hPX hw hS hce hcv hcl => ?_) (fun v f1 H locs hP hw hS => ?_)
  · obtain ⟨ef9, eE9, hE9⟩ := hPX
    rw [ef9] at hw
    subst eE9
    exact hp_out B0 hw hS hout hce hcv hcl ⟨Nat.le_of_ble_eq_true rfl, Nat.le_of_ble_eq_true rfl⟩ (⟨rfl, ⟨k_xo, ⟨_, _, _, _, _, _, _, _, _, _, k_ez, k_nq0, k_nr0, fhd0, ftl0, blp0⟩, ⟨_, _, _, _, _, _, _, _, _, _, k_eo, k_nq1, k_nr1, fhd1, ftl1, blp1⟩, k_nw0, k_na0, k_nw1, k_na1, k_bu, k_bs, k_bp, k_bh, k_bf, k_bl, k_bg, hPx, hB9, hfl9, nd_ez_eo, nd_nr0_nr1, nd_nw0_na0, nd_nw0_nq0, nd_nw0_nw1, nd_nw0_na1, nd_nw0_nq1, nd_na0_nq0, nd_na0_nw1, nd_na0_na1, nd_na0_nq1, nd_nq0_nw1, nd_nq0_na1, nd_nq0_nq1, nd_nw1_na1, nd_nw1_nq1, nd_na1_nq1, nd_bh_bp, nd_bf_bl⟩, hKp.rf⟩)
  · obtain ⟨ef9, hv9⟩ := hP
    rw [ef9] at hw
    rcases hv9 with ⟨k2, ev9⟩ | ⟨k2, ev9⟩
    · subst ev9
      refine W.eq (g2 := F0 m 5 ls [.ref ez]) rfl ?_
      refine hp_getN B0 hw 1 rfl in_X1 k_ez 5 (by decide) oF_X4_55 rfl dX4_stateOf_5 ?_
      exact hp_iret (v := st0) B0 hw hS hr ⟨Nat.le_of_ble_eq_true rfl, Nat.le_of_ble_eq_true rfl⟩ dX4_stateOf_8 (⟨⟨_, rfl⟩, ⟨k_xo, ⟨_, _, _, _, _, _, _, _, _, _, k_ez, k_nq0, k_nr0, fhd0, ftl0, blp0⟩, ⟨_, _, _, _, _, _, _, _, _, _, k_eo, k_nq1, k_nr1, fhd1, ftl1, blp1⟩, k_nw0, k_na0, k_nw1, k_na1, k_bu, k_bs, k_bp, k_bh, k_bf, k_bl, k_bg, hPx, hB9, hfl9, nd_ez_eo, nd_nr0_nr1, nd_nw0_na0, nd_nw0_nq0, nd_nw0_nw1, nd_nw0_na1, nd_nw0_nq1, nd_na0_nq0, nd_na0_nw1, nd_na0_na1, nd_na0_nq1, nd_nq0_nw1, nd_nq0_na1, nd_nq0_nq1, nd_nw1_na1, nd_nw1_nq1, nd_na1_nq1, nd_bh_bp, nd_bf_bl⟩, hKp.rf⟩)
    · subst ev9
      refine W.eq (g2 := F0 m 5 ls [.ref eo]) rfl ?_
      refine hp_getN B0 hw 1 rfl in_X1 k_eo 5 (by decide) oF_X4_55 rfl dX4_stateOf_5 ?_
      exact hp_iret (v := st1) B0 hw hS hr ⟨Nat.le_of_ble_eq_true rfl, Nat.le_of_ble_eq_true rfl⟩ dX4_stateOf_8 (⟨⟨_, rfl⟩, ⟨k_xo, ⟨_, _, _, _, _, _, _, _, _, _, k_ez, k_nq0, k_nr0, fhd0, ftl0, blp0⟩, ⟨_, _, _, _, _, _, _, _, _, _, k_eo, k_nq1, k_nr1, fhd1, ftl1, blp1⟩, k_nw0, k_na0, k_nw1, k_na1, k_bu, k_bs, k_bp, k_bh, k_bf, k_bl, k_bg, hPx, hB9, hfl9, nd_ez_eo, nd_nr0_nr1, nd_nw0_na0, nd_nw0_nq0, nd_nw0_nw1, nd_nw0_na1, nd_nw0_nq1, nd_na0_nq0, nd_na0_nw1, nd_na0_na1, nd_na0_nq1, nd_nq0_nw1, nd_nq0_na1, nd_nq0_nq1, nd_nw1_na1, nd_nw1_nq1, nd_na1_nq1, nd_bh_bp, nd_bf_bl⟩, hKp.rf⟩)

set_option maxHeartbeats 4000000 in
set_option maxRecDepth 100000 in
theorem c_X4_requests {l : Launch} (hl : l.stackTraces = false) (G : hG) (f : hM) (xo ez eo bu nw0 na0 nq0 nr0 nw1 na1 nq1 nr1 bs bp bh bf bl bg : Nat) (gw0 : Nat → Int32) (ga0 : Nat → Int32) (gw1 : Nat → Int32) (ga1 : Nat → Int32) (mg0 : Int32) (mg1 : Int32) (n : Nat) (a : Nat) (cg : Nat) (x : Nat) (sa : Nat → Nat) (pk : Nat → Nat) (fl : Nat → Nat) (gv : Nat → Nat) (gh : Nat → Int32) (gl : Nat → Int32) (hC : CW G f xo ez eo bu nw0 na0 nq0 nr0 nw1 na1 nq1 nr1 bs bp bh bf bl bg gw0 ga0 gw1 ga1 mg0 mg1 n a cg x sa pk fl gv gh gl) (i : Int32) : CT l yX4_requests (.code yX4_requests cX4_requests 2 (some .int)) 7 103 1 6 G [.ref xo, .int i] f (fun v f1 => (∃ r9 : Int32, v = some (.int r9)) ∧ CW G f1 xo ez eo bu nw0 na0 nq0 nr0 nw1 na1 nq1 nr1 bs bp bh bf bl bg gw0 ga0 gw1 ga1 mg0 mg1 n a cg x sa pk fl gv gh gl ∧ hKp [xo, ez, eo, bu, nw0, na0, nq0, nr0, nw1, na1, nq1, nr1, bs, bp, bh, bf, bl, bg] f f1) (fun E f1 => (E = eI) ∧ CW G f1 xo ez eo bu nw0 na0 nq0 nr0 nw1 na1 nq1 nr1 bs bp bh bf bl bg gw0 ga0 gw1 ga1 mg0 mg1 n a cg x sa pk fl gv gh gl ∧ hKp [xo, ez, eo, bu, nw0, na0, nq0, nr0, nw1, na1, nq1, nr1, bs, bp, bh, bf, bl, bg] f f1) := by
  refine hp_start hl (own := RX4) (by decide) rfl (Nat.le_of_ble_eq_true rfl) ?_
  intro p e s m args below meth c B0 hr hnm hout hw hS ls hl9
  have hx := B0.1
  have hb := B0.2.1
  have hl9 : lv_has ls 2 [(0, .ref xo), (1, .int i)] := hl9
  obtain ⟨k_xo, ⟨st0, tm0, sr0, li0, lp0, mi0, cn0, gq0, hd0, tl0, k_ez, k_nq0, k_nr0, fhd0, ftl0, blp0⟩, ⟨st1, tm1, sr1, li1, lp1, mi1, cn1, gq1, hd1, tl1, k_eo, k_nq1, k_nr1, fhd1, ftl1, blp1⟩, k_nw0, k_na0, k_nw1, k_na1, k_bu, k_bs, k_bp, k_bh, k_bf, k_bl, k_bg, hPx, hB9, hfl9, nd_ez_eo, nd_nr0_nr1, nd_nw0_na0, nd_nw0_nq0, nd_nw0_nw1, nd_nw0_na1, nd_nw0_nq1, nd_na0_nq0, nd_na0_nw1, nd_na0_na1, nd_na0_nq1, nd_nq0_nw1, nd_nq0_na1, nd_nq0_nq1, nd_nw1_na1, nd_nw1_nq1, nd_na1_nq1, nd_bh_bp, nd_bf_bl⟩ := hC
  refine lv_aload_n hx hb dX4_requests_0 rfl (lv_at hl9 0 rfl) ?_
  refine lv_iload_n hx hb dX4_requests_1 rfl (lv_at hl9 1 rfl) ?_
  refine hp_V (ci := 4) (As := [.int i]) (rest := []) B0 hw hS (c_X4_endAt hl G f xo ez eo bu k_xo i) mV_X4_endAt qM_X4_28 rfl k_xo rfl rfl hl9.1 (Nat.le_of_ble_eq_true rfl) ⟨⟨Nat.le_of_ble_eq_true rfl, Nat.le_of_ble_eq_true rfl⟩, Nat.le_of_ble_eq_true rfl, Nat.le_of_ble_eq_true rfl⟩ dX4_requests_2 (fun E ce q9 f1 H locs hPX hw hS hce hcv hcl => ?_) (fun v f1 H locs hP hw hS => ?_)
  · obtain ⟨ef9, eE9, hE9⟩ := hPX
    rw [ef9] at hw
    subst eE9
    exact hp_out B0 hw hS hout hce hcv hcl ⟨Nat.le_of_ble_eq_true rfl, Nat.le_of_ble_eq_true rfl⟩ (⟨rfl, ⟨k_xo, ⟨_, _, _, _, _, _, _, _, _, _, k_ez, k_nq0, k_nr0, fhd0, ftl0, blp0⟩, ⟨_, _, _, _, _, _, _, _, _, _, k_eo, k_nq1, k_nr1, fhd1, ftl1, blp1⟩, k_nw0, k_na0, k_nw1, k_na1, k_bu, k_bs, k_bp, k_bh, k_bf, k_bl, k_bg, hPx, hB9, hfl9, nd_ez_eo, nd_nr0_nr1, nd_nw0_na0, nd_nw0_nq0, nd_nw0_nw1, nd_nw0_na1, nd_nw0_nq1, nd_na0_nq0, nd_na0_nw1, nd_na0_na1, nd_na0_nq1, nd_nq0_nw1, nd_nq0_na1, nd_nq0_nq1, nd_nw1_na1, nd_nw1_nq1, nd_na1_nq1, nd_bh_bp, nd_bf_bl⟩, hKp.rf⟩)
  · obtain ⟨ef9, hv9⟩ := hP
    rw [ef9] at hw
    rcases hv9 with ⟨k2, ev9⟩ | ⟨k2, ev9⟩
    · subst ev9
      refine W.eq (g2 := F0 m 5 ls [.ref ez]) rfl ?_
      refine hp_getN B0 hw 1 rfl in_X1 k_ez 7 (by decide) oF_X4_99 rfl dX4_requests_5 ?_
      exact hp_iret (v := sr0) B0 hw hS hr ⟨Nat.le_of_ble_eq_true rfl, Nat.le_of_ble_eq_true rfl⟩ dX4_requests_8 (⟨⟨_, rfl⟩, ⟨k_xo, ⟨_, _, _, _, _, _, _, _, _, _, k_ez, k_nq0, k_nr0, fhd0, ftl0, blp0⟩, ⟨_, _, _, _, _, _, _, _, _, _, k_eo, k_nq1, k_nr1, fhd1, ftl1, blp1⟩, k_nw0, k_na0, k_nw1, k_na1, k_bu, k_bs, k_bp, k_bh, k_bf, k_bl, k_bg, hPx, hB9, hfl9, nd_ez_eo, nd_nr0_nr1, nd_nw0_na0, nd_nw0_nq0, nd_nw0_nw1, nd_nw0_na1, nd_nw0_nq1, nd_na0_nq0, nd_na0_nw1, nd_na0_na1, nd_na0_nq1, nd_nq0_nw1, nd_nq0_na1, nd_nq0_nq1, nd_nw1_na1, nd_nw1_nq1, nd_na1_nq1, nd_bh_bp, nd_bf_bl⟩, hKp.rf⟩)
    · subst ev9
      refine W.eq (g2 := F0 m 5 ls [.ref eo]) rfl ?_
      refine hp_getN B0 hw 1 rfl in_X1 k_eo 7 (by decide) oF_X4_99 rfl dX4_requests_5 ?_
      exact hp_iret (v := sr1) B0 hw hS hr ⟨Nat.le_of_ble_eq_true rfl, Nat.le_of_ble_eq_true rfl⟩ dX4_requests_8 (⟨⟨_, rfl⟩, ⟨k_xo, ⟨_, _, _, _, _, _, _, _, _, _, k_ez, k_nq0, k_nr0, fhd0, ftl0, blp0⟩, ⟨_, _, _, _, _, _, _, _, _, _, k_eo, k_nq1, k_nr1, fhd1, ftl1, blp1⟩, k_nw0, k_na0, k_nw1, k_na1, k_bu, k_bs, k_bp, k_bh, k_bf, k_bl, k_bg, hPx, hB9, hfl9, nd_ez_eo, nd_nr0_nr1, nd_nw0_na0, nd_nw0_nq0, nd_nw0_nw1, nd_nw0_na1, nd_nw0_nq1, nd_na0_nq0, nd_na0_nw1, nd_na0_na1, nd_na0_nq1, nd_nq0_nw1, nd_nq0_na1, nd_nq0_nq1, nd_nw1_na1, nd_nw1_nq1, nd_na1_nq1, nd_bh_bp, nd_bf_bl⟩, hKp.rf⟩)

set_option maxHeartbeats 4000000 in
set_option maxRecDepth 100000 in
theorem c_X4_missed {l : Launch} (hl : l.stackTraces = false) (G : hG) (f : hM) (xo ez eo bu nw0 na0 nq0 nr0 nw1 na1 nq1 nr1 bs bp bh bf bl bg : Nat) (gw0 : Nat → Int32) (ga0 : Nat → Int32) (gw1 : Nat → Int32) (ga1 : Nat → Int32) (mg0 : Int32) (mg1 : Int32) (n : Nat) (a : Nat) (cg : Nat) (x : Nat) (sa : Nat → Nat) (pk : Nat → Nat) (fl : Nat → Nat) (gv : Nat → Nat) (gh : Nat → Int32) (gl : Nat → Int32) (hC : CW G f xo ez eo bu nw0 na0 nq0 nr0 nw1 na1 nq1 nr1 bs bp bh bf bl bg gw0 ga0 gw1 ga1 mg0 mg1 n a cg x sa pk fl gv gh gl) (i : Int32) : CT l yX4_missed (.code yX4_missed cX4_missed 2 (some .int)) 7 103 1 6 G [.ref xo, .int i] f (fun v f1 => (∃ r9 : Int32, v = some (.int r9)) ∧ CW G f1 xo ez eo bu nw0 na0 nq0 nr0 nw1 na1 nq1 nr1 bs bp bh bf bl bg gw0 ga0 gw1 ga1 mg0 mg1 n a cg x sa pk fl gv gh gl ∧ hKp [xo, ez, eo, bu, nw0, na0, nq0, nr0, nw1, na1, nq1, nr1, bs, bp, bh, bf, bl, bg] f f1) (fun E f1 => (E = eI) ∧ CW G f1 xo ez eo bu nw0 na0 nq0 nr0 nw1 na1 nq1 nr1 bs bp bh bf bl bg gw0 ga0 gw1 ga1 mg0 mg1 n a cg x sa pk fl gv gh gl ∧ hKp [xo, ez, eo, bu, nw0, na0, nq0, nr0, nw1, na1, nq1, nr1, bs, bp, bh, bf, bl, bg] f f1) := by
  refine hp_start hl (own := RX4) (by decide) rfl (Nat.le_of_ble_eq_true rfl) ?_
  intro p e s m args below meth c B0 hr hnm hout hw hS ls hl9
  have hx := B0.1
  have hb := B0.2.1
  have hl9 : lv_has ls 2 [(0, .ref xo), (1, .int i)] := hl9
  obtain ⟨k_xo, ⟨st0, tm0, sr0, li0, lp0, mi0, cn0, gq0, hd0, tl0, k_ez, k_nq0, k_nr0, fhd0, ftl0, blp0⟩, ⟨st1, tm1, sr1, li1, lp1, mi1, cn1, gq1, hd1, tl1, k_eo, k_nq1, k_nr1, fhd1, ftl1, blp1⟩, k_nw0, k_na0, k_nw1, k_na1, k_bu, k_bs, k_bp, k_bh, k_bf, k_bl, k_bg, hPx, hB9, hfl9, nd_ez_eo, nd_nr0_nr1, nd_nw0_na0, nd_nw0_nq0, nd_nw0_nw1, nd_nw0_na1, nd_nw0_nq1, nd_na0_nq0, nd_na0_nw1, nd_na0_na1, nd_na0_nq1, nd_nq0_nw1, nd_nq0_na1, nd_nq0_nq1, nd_nw1_na1, nd_nw1_nq1, nd_na1_nq1, nd_bh_bp, nd_bf_bl⟩ := hC
  refine lv_aload_n hx hb dX4_missed_0 rfl (lv_at hl9 0 rfl) ?_
  refine lv_iload_n hx hb dX4_missed_1 rfl (lv_at hl9 1 rfl) ?_
  refine hp_V (ci := 4) (As := [.int i]) (rest := []) B0 hw hS (c_X4_endAt hl G f xo ez eo bu k_xo i) mV_X4_endAt qM_X4_28 rfl k_xo rfl rfl hl9.1 (Nat.le_of_ble_eq_true rfl) ⟨⟨Nat.le_of_ble_eq_true rfl, Nat.le_of_ble_eq_true rfl⟩, Nat.le_of_ble_eq_true rfl, Nat.le_of_ble_eq_true rfl⟩ dX4_missed_2 (fun E ce q9 f1 H locs hPX hw hS hce hcv hcl => ?_) (fun v f1 H locs hP hw hS => ?_)
  · obtain ⟨ef9, eE9, hE9⟩ := hPX
    rw [ef9] at hw
    subst eE9
    exact hp_out B0 hw hS hout hce hcv hcl ⟨Nat.le_of_ble_eq_true rfl, Nat.le_of_ble_eq_true rfl⟩ (⟨rfl, ⟨k_xo, ⟨_, _, _, _, _, _, _, _, _, _, k_ez, k_nq0, k_nr0, fhd0, ftl0, blp0⟩, ⟨_, _, _, _, _, _, _, _, _, _, k_eo, k_nq1, k_nr1, fhd1, ftl1, blp1⟩, k_nw0, k_na0, k_nw1, k_na1, k_bu, k_bs, k_bp, k_bh, k_bf, k_bl, k_bg, hPx, hB9, hfl9, nd_ez_eo, nd_nr0_nr1, nd_nw0_na0, nd_nw0_nq0, nd_nw0_nw1, nd_nw0_na1, nd_nw0_nq1, nd_na0_nq0, nd_na0_nw1, nd_na0_na1, nd_na0_nq1, nd_nq0_nw1, nd_nq0_na1, nd_nq0_nq1, nd_nw1_na1, nd_nw1_nq1, nd_na1_nq1, nd_bh_bp, nd_bf_bl⟩, hKp.rf⟩)
  · obtain ⟨ef9, hv9⟩ := hP
    rw [ef9] at hw
    rcases hv9 with ⟨k2, ev9⟩ | ⟨k2, ev9⟩
    · subst ev9
      refine W.eq (g2 := F0 m 5 ls [.ref ez]) rfl ?_
      refine hp_getN B0 hw 1 rfl in_X1 k_ez 10 (by decide) oF_X4_86 rfl dX4_missed_5 ?_
      exact hp_iret (v := mi0) B0 hw hS hr ⟨Nat.le_of_ble_eq_true rfl, Nat.le_of_ble_eq_true rfl⟩ dX4_missed_8 (⟨⟨_, rfl⟩, ⟨k_xo, ⟨_, _, _, _, _, _, _, _, _, _, k_ez, k_nq0, k_nr0, fhd0, ftl0, blp0⟩, ⟨_, _, _, _, _, _, _, _, _, _, k_eo, k_nq1, k_nr1, fhd1, ftl1, blp1⟩, k_nw0, k_na0, k_nw1, k_na1, k_bu, k_bs, k_bp, k_bh, k_bf, k_bl, k_bg, hPx, hB9, hfl9, nd_ez_eo, nd_nr0_nr1, nd_nw0_na0, nd_nw0_nq0, nd_nw0_nw1, nd_nw0_na1, nd_nw0_nq1, nd_na0_nq0, nd_na0_nw1, nd_na0_na1, nd_na0_nq1, nd_nq0_nw1, nd_nq0_na1, nd_nq0_nq1, nd_nw1_na1, nd_nw1_nq1, nd_na1_nq1, nd_bh_bp, nd_bf_bl⟩, hKp.rf⟩)
    · subst ev9
      refine W.eq (g2 := F0 m 5 ls [.ref eo]) rfl ?_
      refine hp_getN B0 hw 1 rfl in_X1 k_eo 10 (by decide) oF_X4_86 rfl dX4_missed_5 ?_
      exact hp_iret (v := mi1) B0 hw hS hr ⟨Nat.le_of_ble_eq_true rfl, Nat.le_of_ble_eq_true rfl⟩ dX4_missed_8 (⟨⟨_, rfl⟩, ⟨k_xo, ⟨_, _, _, _, _, _, _, _, _, _, k_ez, k_nq0, k_nr0, fhd0, ftl0, blp0⟩, ⟨_, _, _, _, _, _, _, _, _, _, k_eo, k_nq1, k_nr1, fhd1, ftl1, blp1⟩, k_nw0, k_na0, k_nw1, k_na1, k_bu, k_bs, k_bp, k_bh, k_bf, k_bl, k_bg, hPx, hB9, hfl9, nd_ez_eo, nd_nr0_nr1, nd_nw0_na0, nd_nw0_nq0, nd_nw0_nw1, nd_nw0_na1, nd_nw0_nq1, nd_na0_nq0, nd_na0_nw1, nd_na0_na1, nd_na0_nq1, nd_nq0_nw1, nd_nq0_na1, nd_nq0_nq1, nd_nw1_na1, nd_nw1_nq1, nd_na1_nq1, nd_bh_bp, nd_bf_bl⟩, hKp.rf⟩)

set_option maxHeartbeats 4000000 in
set_option maxRecDepth 100000 in
theorem c_X4_isLooped {l : Launch} (hl : l.stackTraces = false) (G : hG) (f : hM) (xo ez eo bu nw0 na0 nq0 nr0 nw1 na1 nq1 nr1 bs bp bh bf bl bg : Nat) (gw0 : Nat → Int32) (ga0 : Nat → Int32) (gw1 : Nat → Int32) (ga1 : Nat → Int32) (mg0 : Int32) (mg1 : Int32) (n : Nat) (a : Nat) (cg : Nat) (x : Nat) (sa : Nat → Nat) (pk : Nat → Nat) (fl : Nat → Nat) (gv : Nat → Nat) (gh : Nat → Int32) (gl : Nat → Int32) (hC : CW G f xo ez eo bu nw0 na0 nq0 nr0 nw1 na1 nq1 nr1 bs bp bh bf bl bg gw0 ga0 gw1 ga1 mg0 mg1 n a cg x sa pk fl gv gh gl) (i : Int32) : CT l yX4_isLooped (.code yX4_isLooped cX4_isLooped 2 (some .boolean)) 7 103 1 6 G [.ref xo, .int i] f (fun v f1 => (∃ r9 : Int32, v = some (.int r9)) ∧ CW G f1 xo ez eo bu nw0 na0 nq0 nr0 nw1 na1 nq1 nr1 bs bp bh bf bl bg gw0 ga0 gw1 ga1 mg0 mg1 n a cg x sa pk fl gv gh gl ∧ hKp [xo, ez, eo, bu, nw0, na0, nq0, nr0, nw1, na1, nq1, nr1, bs, bp, bh, bf, bl, bg] f f1) (fun E f1 => (E = eI) ∧ CW G f1 xo ez eo bu nw0 na0 nq0 nr0 nw1 na1 nq1 nr1 bs bp bh bf bl bg gw0 ga0 gw1 ga1 mg0 mg1 n a cg x sa pk fl gv gh gl ∧ hKp [xo, ez, eo, bu, nw0, na0, nq0, nr0, nw1, na1, nq1, nr1, bs, bp, bh, bf, bl, bg] f f1) := by
  refine hp_start hl (own := RX4) (by decide) rfl (Nat.le_of_ble_eq_true rfl) ?_
  intro p e s m args below meth c B0 hr hnm hout hw hS ls hl9
  have hx := B0.1
  have hb := B0.2.1
  have hl9 : lv_has ls 2 [(0, .ref xo), (1, .int i)] := hl9
  obtain ⟨k_xo, ⟨st0, tm0, sr0, li0, lp0, mi0, cn0, gq0, hd0, tl0, k_ez, k_nq0, k_nr0, fhd0, ftl0, blp0⟩, ⟨st1, tm1, sr1, li1, lp1, mi1, cn1, gq1, hd1, tl1, k_eo, k_nq1, k_nr1, fhd1, ftl1, blp1⟩, k_nw0, k_na0, k_nw1, k_na1, k_bu, k_bs, k_bp, k_bh, k_bf, k_bl, k_bg, hPx, hB9, hfl9, nd_ez_eo, nd_nr0_nr1, nd_nw0_na0, nd_nw0_nq0, nd_nw0_nw1, nd_nw0_na1, nd_nw0_nq1, nd_na0_nq0, nd_na0_nw1, nd_na0_na1, nd_na0_nq1, nd_nq0_nw1, nd_nq0_na1, nd_nq0_nq1, nd_nw1_na1, nd_nw1_nq1, nd_na1_nq1, nd_bh_bp, nd_bf_bl⟩ := hC
  refine lv_aload_n hx hb dX4_isLooped_0 rfl (lv_at hl9 0 rfl) ?_
  refine lv_iload_n hx hb dX4_isLooped_1 rfl (lv_at hl9 1 rfl) ?_
  refine hp_V (ci := 4) (As := [.int i]) (rest := []) B0 hw hS (c_X4_endAt hl G f xo ez eo bu k_xo i) mV_X4_endAt qM_X4_28 rfl k_xo rfl rfl hl9.1 (Nat.le_of_ble_eq_true rfl) ⟨⟨Nat.le_of_ble_eq_true rfl, Nat.le_of_ble_eq_true rfl⟩, Nat.le_of_ble_eq_true rfl, Nat.le_of_ble_eq_true rfl⟩ dX4_isLooped_2 (fun E ce q9 f1 H locs hPX hw hS hce hcv hcl => ?_) (fun v f1 H locs hP hw hS => ?_)
  · obtain ⟨ef9, eE9, hE9⟩ := hPX
    rw [ef9] at hw
    subst eE9
    exact hp_out B0 hw hS hout hce hcv hcl ⟨Nat.le_of_ble_eq_true rfl, Nat.le_of_ble_eq_true rfl⟩ (⟨rfl, ⟨k_xo, ⟨_, _, _, _, _, _, _, _, _, _, k_ez, k_nq0, k_nr0, fhd0, ftl0, blp0⟩, ⟨_, _, _, _, _, _, _, _, _, _, k_eo, k_nq1, k_nr1, fhd1, ftl1, blp1⟩, k_nw0, k_na0, k_nw1, k_na1, k_bu, k_bs, k_bp, k_bh, k_bf, k_bl, k_bg, hPx, hB9, hfl9, nd_ez_eo, nd_nr0_nr1, nd_nw0_na0, nd_nw0_nq0, nd_nw0_nw1, nd_nw0_na1, nd_nw0_nq1, nd_na0_nq0, nd_na0_nw1, nd_na0_na1, nd_na0_nq1, nd_nq0_nw1, nd_nq0_na1, nd_nq0_nq1, nd_nw1_na1, nd_nw1_nq1, nd_na1_nq1, nd_bh_bp, nd_bf_bl⟩, hKp.rf⟩)
  · obtain ⟨ef9, hv9⟩ := hP
    rw [ef9] at hw
    rcases hv9 with ⟨k2, ev9⟩ | ⟨k2, ev9⟩
    · subst ev9
      refine W.eq (g2 := F0 m 5 ls [.ref ez]) rfl ?_
      refine hp_getN B0 hw 1 rfl in_X1 k_ez 9 (by decide) oF_X4_102 rfl dX4_isLooped_5 ?_
      exact hp_zret (v := lp0) B0 hw hS hr ⟨Nat.le_of_ble_eq_true rfl, Nat.le_of_ble_eq_true rfl⟩ (blp0) dX4_isLooped_8 (⟨⟨_, rfl⟩, ⟨k_xo, ⟨_, _, _, _, _, _, _, _, _, _, k_ez, k_nq0, k_nr0, fhd0, ftl0, blp0⟩, ⟨_, _, _, _, _, _, _, _, _, _, k_eo, k_nq1, k_nr1, fhd1, ftl1, blp1⟩, k_nw0, k_na0, k_nw1, k_na1, k_bu, k_bs, k_bp, k_bh, k_bf, k_bl, k_bg, hPx, hB9, hfl9, nd_ez_eo, nd_nr0_nr1, nd_nw0_na0, nd_nw0_nq0, nd_nw0_nw1, nd_nw0_na1, nd_nw0_nq1, nd_na0_nq0, nd_na0_nw1, nd_na0_na1, nd_na0_nq1, nd_nq0_nw1, nd_nq0_na1, nd_nq0_nq1, nd_nw1_na1, nd_nw1_nq1, nd_na1_nq1, nd_bh_bp, nd_bf_bl⟩, hKp.rf⟩)
    · subst ev9
      refine W.eq (g2 := F0 m 5 ls [.ref eo]) rfl ?_
      refine hp_getN B0 hw 1 rfl in_X1 k_eo 9 (by decide) oF_X4_102 rfl dX4_isLooped_5 ?_
      exact hp_zret (v := lp1) B0 hw hS hr ⟨Nat.le_of_ble_eq_true rfl, Nat.le_of_ble_eq_true rfl⟩ (blp1) dX4_isLooped_8 (⟨⟨_, rfl⟩, ⟨k_xo, ⟨_, _, _, _, _, _, _, _, _, _, k_ez, k_nq0, k_nr0, fhd0, ftl0, blp0⟩, ⟨_, _, _, _, _, _, _, _, _, _, k_eo, k_nq1, k_nr1, fhd1, ftl1, blp1⟩, k_nw0, k_na0, k_nw1, k_na1, k_bu, k_bs, k_bp, k_bh, k_bf, k_bl, k_bg, hPx, hB9, hfl9, nd_ez_eo, nd_nr0_nr1, nd_nw0_na0, nd_nw0_nq0, nd_nw0_nw1, nd_nw0_na1, nd_nw0_nq1, nd_na0_nq0, nd_na0_nw1, nd_na0_na1, nd_na0_nq1, nd_nq0_nw1, nd_nq0_na1, nd_nq0_nq1, nd_nw1_na1, nd_nw1_nq1, nd_na1_nq1, nd_bh_bp, nd_bf_bl⟩, hKp.rf⟩)

set_option maxHeartbeats 4000000 in
set_option maxRecDepth 100000 in
theorem c_X4_underWay {l : Launch} (hl : l.stackTraces = false) (G : hG) (f : hM) (xo ez eo bu nw0 na0 nq0 nr0 nw1 na1 nq1 nr1 bs bp bh bf bl bg : Nat) (gw0 : Nat → Int32) (ga0 : Nat → Int32) (gw1 : Nat → Int32) (ga1 : Nat → Int32) (mg0 : Int32) (mg1 : Int32) (n : Nat) (a : Nat) (cg : Nat) (x : Nat) (sa : Nat → Nat) (pk : Nat → Nat) (fl : Nat → Nat) (gv : Nat → Nat) (gh : Nat → Int32) (gl : Nat → Int32) (hC : CW G f xo ez eo bu nw0 na0 nq0 nr0 nw1 na1 nq1 nr1 bs bp bh bf bl bg gw0 ga0 gw1 ga1 mg0 mg1 n a cg x sa pk fl gv gh gl) (i : Int32) : CT l yX4_underWay (.code yX4_underWay cX4_underWay 2 (some .int)) 7 103 1 6 G [.ref xo, .int i] f (fun v f1 => (∃ r9 : Int32, v = some (.int r9)) ∧ CW G f1 xo ez eo bu nw0 na0 nq0 nr0 nw1 na1 nq1 nr1 bs bp bh bf bl bg gw0 ga0 gw1 ga1 mg0 mg1 n a cg x sa pk fl gv gh gl ∧ hKp [xo, ez, eo, bu, nw0, na0, nq0, nr0, nw1, na1, nq1, nr1, bs, bp, bh, bf, bl, bg] f f1) (fun E f1 => (E = eI) ∧ CW G f1 xo ez eo bu nw0 na0 nq0 nr0 nw1 na1 nq1 nr1 bs bp bh bf bl bg gw0 ga0 gw1 ga1 mg0 mg1 n a cg x sa pk fl gv gh gl ∧ hKp [xo, ez, eo, bu, nw0, na0, nq0, nr0, nw1, na1, nq1, nr1, bs, bp, bh, bf, bl, bg] f f1) := by
  refine hp_start hl (own := RX4) (by decide) rfl (Nat.le_of_ble_eq_true rfl) ?_
  intro p e s m args below meth c B0 hr hnm hout hw hS ls hl9
  have hx := B0.1
  have hb := B0.2.1
  have hl9 : lv_has ls 2 [(0, .ref xo), (1, .int i)] := hl9
  obtain ⟨k_xo, ⟨st0, tm0, sr0, li0, lp0, mi0, cn0, gq0, hd0, tl0, k_ez, k_nq0, k_nr0, fhd0, ftl0, blp0⟩, ⟨st1, tm1, sr1, li1, lp1, mi1, cn1, gq1, hd1, tl1, k_eo, k_nq1, k_nr1, fhd1, ftl1, blp1⟩, k_nw0, k_na0, k_nw1, k_na1, k_bu, k_bs, k_bp, k_bh, k_bf, k_bl, k_bg, hPx, hB9, hfl9, nd_ez_eo, nd_nr0_nr1, nd_nw0_na0, nd_nw0_nq0, nd_nw0_nw1, nd_nw0_na1, nd_nw0_nq1, nd_na0_nq0, nd_na0_nw1, nd_na0_na1, nd_na0_nq1, nd_nq0_nw1, nd_nq0_na1, nd_nq0_nq1, nd_nw1_na1, nd_nw1_nq1, nd_na1_nq1, nd_bh_bp, nd_bf_bl⟩ := hC
  refine lv_aload_n hx hb dX4_underWay_0 rfl (lv_at hl9 0 rfl) ?_
  refine lv_iload_n hx hb dX4_underWay_1 rfl (lv_at hl9 1 rfl) ?_
  refine hp_V (ci := 4) (As := [.int i]) (rest := []) B0 hw hS (c_X4_endAt hl G f xo ez eo bu k_xo i) mV_X4_endAt qM_X4_28 rfl k_xo rfl rfl hl9.1 (Nat.le_of_ble_eq_true rfl) ⟨⟨Nat.le_of_ble_eq_true rfl, Nat.le_of_ble_eq_true rfl⟩, Nat.le_of_ble_eq_true rfl, Nat.le_of_ble_eq_true rfl⟩ dX4_underWay_2 (fun E ce q9 f1 H locs hPX hw hS hce hcv hcl => ?_) (fun v f1 H locs hP hw hS => ?_)
  · obtain ⟨ef9, eE9, hE9⟩ := hPX
    rw [ef9] at hw
    subst eE9
    exact hp_out B0 hw hS hout hce hcv hcl ⟨Nat.le_of_ble_eq_true rfl, Nat.le_of_ble_eq_true rfl⟩ (⟨rfl, ⟨k_xo, ⟨_, _, _, _, _, _, _, _, _, _, k_ez, k_nq0, k_nr0, fhd0, ftl0, blp0⟩, ⟨_, _, _, _, _, _, _, _, _, _, k_eo, k_nq1, k_nr1, fhd1, ftl1, blp1⟩, k_nw0, k_na0, k_nw1, k_na1, k_bu, k_bs, k_bp, k_bh, k_bf, k_bl, k_bg, hPx, hB9, hfl9, nd_ez_eo, nd_nr0_nr1, nd_nw0_na0, nd_nw0_nq0, nd_nw0_nw1, nd_nw0_na1, nd_nw0_nq1, nd_na0_nq0, nd_na0_nw1, nd_na0_na1, nd_na0_nq1, nd_nq0_nw1, nd_nq0_na1, nd_nq0_nq1, nd_nw1_na1, nd_nw1_nq1, nd_na1_nq1, nd_bh_bp, nd_bf_bl⟩, hKp.rf⟩)
  · obtain ⟨ef9, hv9⟩ := hP
    rw [ef9] at hw
    rcases hv9 with ⟨k2, ev9⟩ | ⟨k2, ev9⟩
    · subst ev9
      refine W.eq (g2 := F0 m 5 ls [.ref ez]) rfl ?_
      refine hp_getN B0 hw 1 rfl in_X1 k_ez 3 (by decide) oF_X4_106 rfl dX4_underWay_5 ?_
      refine hp_getN B0 hw 3 rfl in_X3 k_nr0 2 (by decide) oF_X4_110 rfl dX4_underWay_8 ?_
      exact hp_iret (v := cn0) B0 hw hS hr ⟨Nat.le_of_ble_eq_true rfl, Nat.le_of_ble_eq_true rfl⟩ dX4_underWay_11 (⟨⟨_, rfl⟩, ⟨k_xo, ⟨_, _, _, _, _, _, _, _, _, _, k_ez, k_nq0, k_nr0, fhd0, ftl0, blp0⟩, ⟨_, _, _, _, _, _, _, _, _, _, k_eo, k_nq1, k_nr1, fhd1, ftl1, blp1⟩, k_nw0, k_na0, k_nw1, k_na1, k_bu, k_bs, k_bp, k_bh, k_bf, k_bl, k_bg, hPx, hB9, hfl9, nd_ez_eo, nd_nr0_nr1, nd_nw0_na0, nd_nw0_nq0, nd_nw0_nw1, nd_nw0_na1, nd_nw0_nq1, nd_na0_nq0, nd_na0_nw1, nd_na0_na1, nd_na0_nq1, nd_nq0_nw1, nd_nq0_na1, nd_nq0_nq1, nd_nw1_na1, nd_nw1_nq1, nd_na1_nq1, nd_bh_bp, nd_bf_bl⟩, hKp.rf⟩)
    · subst ev9
      refine W.eq (g2 := F0 m 5 ls [.ref eo]) rfl ?_
      refine hp_getN B0 hw 1 rfl in_X1 k_eo 3 (by decide) oF_X4_106 rfl dX4_underWay_5 ?_
      refine hp_getN B0 hw 3 rfl in_X3 k_nr1 2 (by decide) oF_X4_110 rfl dX4_underWay_8 ?_
      exact hp_iret (v := cn1) B0 hw hS hr ⟨Nat.le_of_ble_eq_true rfl, Nat.le_of_ble_eq_true rfl⟩ dX4_underWay_11 (⟨⟨_, rfl⟩, ⟨k_xo, ⟨_, _, _, _, _, _, _, _, _, _, k_ez, k_nq0, k_nr0, fhd0, ftl0, blp0⟩, ⟨_, _, _, _, _, _, _, _, _, _, k_eo, k_nq1, k_nr1, fhd1, ftl1, blp1⟩, k_nw0, k_na0, k_nw1, k_na1, k_bu, k_bs, k_bp, k_bh, k_bf, k_bl, k_bg, hPx, hB9, hfl9, nd_ez_eo, nd_nr0_nr1, nd_nw0_na0, nd_nw0_nq0, nd_nw0_nw1, nd_nw0_na1, nd_nw0_nq1, nd_na0_nq0, nd_na0_nw1, nd_na0_na1, nd_na0_nq1, nd_nq0_nw1, nd_nq0_na1, nd_nq0_nq1, nd_nw1_na1, nd_nw1_nq1, nd_na1_nq1, nd_bh_bp, nd_bf_bl⟩, hKp.rf⟩)

set_option maxHeartbeats 4000000 in
set_option maxRecDepth 100000 in
theorem c_X4_asked {l : Launch} (hl : l.stackTraces = false) (G : hG) (f : hM) (xo ez eo bu nw0 na0 nq0 nr0 nw1 na1 nq1 nr1 bs bp bh bf bl bg : Nat) (gw0 : Nat → Int32) (ga0 : Nat → Int32) (gw1 : Nat → Int32) (ga1 : Nat → Int32) (mg0 : Int32) (mg1 : Int32) (n : Nat) (a : Nat) (cg : Nat) (x : Nat) (sa : Nat → Nat) (pk : Nat → Nat) (fl : Nat → Nat) (gv : Nat → Nat) (gh : Nat → Int32) (gl : Nat → Int32) (hC : CW G f xo ez eo bu nw0 na0 nq0 nr0 nw1 na1 nq1 nr1 bs bp bh bf bl bg gw0 ga0 gw1 ga1 mg0 mg1 n a cg x sa pk fl gv gh gl) (i o : Int32) : CT l yX4_asked (.code yX4_asked cX4_asked 4 (some .int)) 7 103 2 12 G [.ref xo, .int i, .int o] f (fun v f1 => (∃ r9 : Int32, v = some (.int r9)) ∧ CW G f1 xo ez eo bu nw0 na0 nq0 nr0 nw1 na1 nq1 nr1 bs bp bh bf bl bg gw0 ga0 gw1 ga1 mg0 mg1 n a cg x sa pk fl gv gh gl ∧ hKp [xo, ez, eo, bu, nw0, na0, nq0, nr0, nw1, na1, nq1, nr1, bs, bp, bh, bf, bl, bg] f f1) (fun E f1 => (E = eI) ∧ CW G f1 xo ez eo bu nw0 na0 nq0 nr0 nw1 na1 nq1 nr1 bs bp bh bf bl bg gw0 ga0 gw1 ga1 mg0 mg1 n a cg x sa pk fl gv gh gl ∧ hKp [xo, ez, eo, bu, nw0, na0, nq0, nr0, nw1, na1, nq1, nr1, bs, bp, bh, bf, bl, bg] f f1) := by
  refine hp_start hl (own := RX4) (by decide) rfl (Nat.le_of_ble_eq_true rfl) ?_
  intro p e s m args below meth c B0 hr hnm hout hw hS ls hl9
  have hx := B0.1
  have hb := B0.2.1
  have hl9 : lv_has ls 4 [(0, .ref xo), (1, .int i), (2, .int o)] := hl9
  obtain ⟨k_xo, ⟨st0, tm0, sr0, li0, lp0, mi0, cn0, gq0, hd0, tl0, k_ez, k_nq0, k_nr0, fhd0, ftl0, blp0⟩, ⟨st1, tm1, sr1, li1, lp1, mi1, cn1, gq1, hd1, tl1, k_eo, k_nq1, k_nr1, fhd1, ftl1, blp1⟩, k_nw0, k_na0, k_nw1, k_na1, k_bu, k_bs, k_bp, k_bh, k_bf, k_bl, k_bg, hPx, hB9, hfl9, nd_ez_eo, nd_nr0_nr1, nd_nw0_na0, nd_nw0_nq0, nd_nw0_nw1, nd_nw0_na1, nd_nw0_nq1, nd_na0_nq0, nd_na0_nw1, nd_na0_na1, nd_na0_nq1, nd_nq0_nw1, nd_nq0_na1, nd_nq0_nq1, nd_nw1_na1, nd_nw1_nq1, nd_na1_nq1, nd_bh_bp, nd_bf_bl⟩ := hC
  refine lv_aload_n hx hb dX4_asked_0 rfl (lv_at hl9 0 rfl) ?_
  refine lv_iload_n hx hb dX4_asked_1 rfl (lv_at hl9 1 rfl) ?_
  refine hp_V (ci := 4) (As := [.int i]) (rest := []) B0 hw hS (c_X4_endAt hl G f xo ez eo bu k_xo i) mV_X4_endAt qM_X4_28 rfl k_xo rfl rfl hl9.1 (Nat.le_of_ble_eq_true rfl) ⟨⟨Nat.le_of_ble_eq_true rfl, Nat.le_of_ble_eq_true rfl⟩, Nat.le_of_ble_eq_true rfl, Nat.le_of_ble_eq_true rfl⟩ dX4_asked_2 (fun E ce q9 f1 H locs hPX hw hS hce hcv hcl => ?_) (fun v f1 H locs hP hw hS => ?_)
  · obtain ⟨ef9, eE9, hE9⟩ := hPX
    rw [ef9] at hw
    subst eE9
    exact hp_out B0 hw hS hout hce hcv hcl ⟨Nat.le_of_ble_eq_true rfl, Nat.le_of_ble_eq_true rfl⟩ (⟨rfl, ⟨k_xo, ⟨_, _, _, _, _, _, _, _, _, _, k_ez, k_nq0, k_nr0, fhd0, ftl0, blp0⟩, ⟨_, _, _, _, _, _, _, _, _, _, k_eo, k_nq1, k_nr1, fhd1, ftl1, blp1⟩, k_nw0, k_na0, k_nw1, k_na1, k_bu, k_bs, k_bp, k_bh, k_bf, k_bl, k_bg, hPx, hB9, hfl9, nd_ez_eo, nd_nr0_nr1, nd_nw0_na0, nd_nw0_nq0, nd_nw0_nw1, nd_nw0_na1, nd_nw0_nq1, nd_na0_nq0, nd_na0_nw1, nd_na0_na1, nd_na0_nq1, nd_nq0_nw1, nd_nq0_na1, nd_nq0_nq1, nd_nw1_na1, nd_nw1_nq1, nd_na1_nq1, nd_bh_bp, nd_bf_bl⟩, hKp.rf⟩)
  · obtain ⟨ef9, hv9⟩ := hP
    rw [ef9] at hw
    rcases hv9 with ⟨k2, ev9⟩ | ⟨k2, ev9⟩
    · subst ev9
      refine W.eq (g2 := F0 m 5 ls [.ref ez]) rfl ?_
      refine lv_astore_n (lv' := [(3, .ref ez), (0, .ref xo), (1, .int i), (2, .int o)]) hx hb dX4_asked_5 rfl hl9 (by decide) rfl (fun ls hl9 => ?_)
      refine lv_iload_n hx hb dX4_asked_6 rfl (lv_at hl9 3 rfl) ?_
      refine hp_S (As := [.int o]) (rest := []) B0 hw hS (c_X4_refuseNoOption hl G f o) mS_X4_refuseNoOption qM_X4_32 rfl rfl hl9.1 (Nat.le_of_ble_eq_true rfl) ⟨⟨Nat.le_of_ble_eq_true rfl, Nat.le_of_ble_eq_true rfl⟩, Nat.le_of_ble_eq_true rfl, Nat.le_of_ble_eq_true rfl⟩ dX4_asked_7 (fun E ce q9 f3 H locs hPX hw hS hce hcv hcl => ?_) (fun v f3 H locs hP hw hS => ?_)
      · obtain ⟨ef9, eE9, hE9⟩ := hPX
        rw [ef9] at hw
        subst eE9
        exact hp_out B0 hw hS hout hce hcv hcl ⟨Nat.le_of_ble_eq_true rfl, Nat.le_of_ble_eq_true rfl⟩ (⟨rfl, ⟨k_xo, ⟨_, _, _, _, _, _, _, _, _, _, k_ez, k_nq0, k_nr0, fhd0, ftl0, blp0⟩, ⟨_, _, _, _, _, _, _, _, _, _, k_eo, k_nq1, k_nr1, fhd1, ftl1, blp1⟩, k_nw0, k_na0, k_nw1, k_na1, k_bu, k_bs, k_bp, k_bh, k_bf, k_bl, k_bg, hPx, hB9, hfl9, nd_ez_eo, nd_nr0_nr1, nd_nw0_na0, nd_nw0_nq0, nd_nw0_nw1, nd_nw0_na1, nd_nw0_nq1, nd_na0_nq0, nd_na0_nw1, nd_na0_na1, nd_na0_nq1, nd_nq0_nw1, nd_nq0_na1, nd_nq0_nq1, nd_nw1_na1, nd_nw1_nq1, nd_na1_nq1, nd_bh_bp, nd_bf_bl⟩, hKp.rf⟩)
      · obtain ⟨ef9, ev9, ho4⟩ := hP
        rw [ef9] at hw
        subst ev9
        refine W.eq (g2 := F0 m 10 ls []) rfl ?_
        refine lv_aload_n hx hb dX4_asked_10 rfl (lv_at hl9 0 rfl) ?_
        refine hp_getN B0 hw 1 rfl in_X1 k_ez 2 (by decide) oF_X4_95 rfl dX4_asked_11 ?_
        refine lv_iload_n hx hb dX4_asked_14 rfl (lv_at hl9 3 rfl) ?_
        refine hp_iald B0 hw k_nq0 (vin6 ho4) dX4_asked_15 ?_
        exact hp_iret (v := (gq0 (o : Int32).toNatClampNeg)) B0 hw hS hr ⟨Nat.le_of_ble_eq_true rfl, Nat.le_of_ble_eq_true rfl⟩ dX4_asked_16 (⟨⟨_, rfl⟩, ⟨k_xo, ⟨_, _, _, _, _, _, _, _, _, _, k_ez, k_nq0, k_nr0, fhd0, ftl0, blp0⟩, ⟨_, _, _, _, _, _, _, _, _, _, k_eo, k_nq1, k_nr1, fhd1, ftl1, blp1⟩, k_nw0, k_na0, k_nw1, k_na1, k_bu, k_bs, k_bp, k_bh, k_bf, k_bl, k_bg, hPx, hB9, hfl9, nd_ez_eo, nd_nr0_nr1, nd_nw0_na0, nd_nw0_nq0, nd_nw0_nw1, nd_nw0_na1, nd_nw0_nq1, nd_na0_nq0, nd_na0_nw1, nd_na0_na1, nd_na0_nq1, nd_nq0_nw1, nd_nq0_na1, nd_nq0_nq1, nd_nw1_na1, nd_nw1_nq1, nd_na1_nq1, nd_bh_bp, nd_bf_bl⟩, hKp.rf⟩)
    · subst ev9
      refine W.eq (g2 := F0 m 5 ls [.ref eo]) rfl ?_
      refine lv_astore_n (lv' := [(3, .ref eo), (0, .ref xo), (1, .int i), (2, .int o)]) hx hb dX4_asked_5 rfl hl9 (by decide) rfl (fun ls hl9 => ?_)
      refine lv_iload_n hx hb dX4_asked_6 rfl (lv_at hl9 3 rfl) ?_
      refine hp_S (As := [.int o]) (rest := []) B0 hw hS (c_X4_refuseNoOption hl G f o) mS_X4_refuseNoOption qM_X4_32 rfl rfl hl9.1 (Nat.le_of_ble_eq_true rfl) ⟨⟨Nat.le_of_ble_eq_true rfl, Nat.le_of_ble_eq_true rfl⟩, Nat.le_of_ble_eq_true rfl, Nat.le_of_ble_eq_true rfl⟩ dX4_asked_7 (fun E ce q9 f5 H locs hPX hw hS hce hcv hcl => ?_) (fun v f5 H locs hP hw hS => ?_)
      · obtain ⟨ef9, eE9, hE9⟩ := hPX
        rw [ef9] at hw
        subst eE9
        exact hp_out B0 hw hS hout hce hcv hcl ⟨Nat.le_of_ble_eq_true rfl, Nat.le_of_ble_eq_true rfl⟩ (⟨rfl, ⟨k_xo, ⟨_, _, _, _, _, _, _, _, _, _, k_ez, k_nq0, k_nr0, fhd0, ftl0, blp0⟩, ⟨_, _, _, _, _, _, _, _, _, _, k_eo, k_nq1, k_nr1, fhd1, ftl1, blp1⟩, k_nw0, k_na0, k_nw1, k_na1, k_bu, k_bs, k_bp, k_bh, k_bf, k_bl, k_bg, hPx, hB9, hfl9, nd_ez_eo, nd_nr0_nr1, nd_nw0_na0, nd_nw0_nq0, nd_nw0_nw1, nd_nw0_na1, nd_nw0_nq1, nd_na0_nq0, nd_na0_nw1, nd_na0_na1, nd_na0_nq1, nd_nq0_nw1, nd_nq0_na1, nd_nq0_nq1, nd_nw1_na1, nd_nw1_nq1, nd_na1_nq1, nd_bh_bp, nd_bf_bl⟩, hKp.rf⟩)
      · obtain ⟨ef9, ev9, ho6⟩ := hP
        rw [ef9] at hw
        subst ev9
        refine W.eq (g2 := F0 m 10 ls []) rfl ?_
        refine lv_aload_n hx hb dX4_asked_10 rfl (lv_at hl9 0 rfl) ?_
        refine hp_getN B0 hw 1 rfl in_X1 k_eo 2 (by decide) oF_X4_95 rfl dX4_asked_11 ?_
        refine lv_iload_n hx hb dX4_asked_14 rfl (lv_at hl9 3 rfl) ?_
        refine hp_iald B0 hw k_nq1 (vin6 ho6) dX4_asked_15 ?_
        exact hp_iret (v := (gq1 (o : Int32).toNatClampNeg)) B0 hw hS hr ⟨Nat.le_of_ble_eq_true rfl, Nat.le_of_ble_eq_true rfl⟩ dX4_asked_16 (⟨⟨_, rfl⟩, ⟨k_xo, ⟨_, _, _, _, _, _, _, _, _, _, k_ez, k_nq0, k_nr0, fhd0, ftl0, blp0⟩, ⟨_, _, _, _, _, _, _, _, _, _, k_eo, k_nq1, k_nr1, fhd1, ftl1, blp1⟩, k_nw0, k_na0, k_nw1, k_na1, k_bu, k_bs, k_bp, k_bh, k_bf, k_bl, k_bg, hPx, hB9, hfl9, nd_ez_eo, nd_nr0_nr1, nd_nw0_na0, nd_nw0_nq0, nd_nw0_nw1, nd_nw0_na1, nd_nw0_nq1, nd_na0_nq0, nd_na0_nw1, nd_na0_na1, nd_na0_nq1, nd_nq0_nw1, nd_nq0_na1, nd_nq0_nq1, nd_nw1_na1, nd_nw1_nq1, nd_na1_nq1, nd_bh_bp, nd_bf_bl⟩, hKp.rf⟩)

