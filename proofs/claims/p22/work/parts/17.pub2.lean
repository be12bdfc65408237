/-- the whole of an object of the class, its links as far as they matter -/
def CW (G : hG) (f : hM) (xo ez eo bu nw0 na0 nq0 nr0 nw1 na1 nq1 nr1 bs bp bh bf bl bg : Nat) (gw0 : Nat → Int32) (ga0 : Nat → Int32) (gw1 : Nat → Int32) (ga1 : Nat → Int32) (mg0 : Int32) (mg1 : Int32) (n : Nat) (a : Nat) (cg : Nat) (x : Nat) (sa : Nat → Nat) (pk : Nat → Nat) (fl : Nat → Nat) (gv : Nat → Nat) (gh : Nat → Int32) (gl : Nat → Int32) : Prop := f xo = some (.inr (4, [.ref ez, .ref eo, .ref bu])) ∧ EF G f ez nw0 na0 nq0 nr0 mg0 ∧ EF G f eo nw1 na1 nq1 nr1 mg1 ∧ f nw0 = some (.inl (cI G, 6, .inl gw0)) ∧ f na0 = some (.inl (cI G, 6, .inl ga0)) ∧ f nw1 = some (.inl (cI G, 6, .inl gw1)) ∧ f na1 = some (.inl (cI G, 6, .inl ga1)) ∧ f bu = some (.inr (0, [.ref bs, .ref bp, .ref bh, .ref bf, .ref bl, .ref bg, .int (nI n), .int (nI cg), .int (nI x)])) ∧ f bs = some (.inl (cI G, 61, .inl (nf sa))) ∧ f bp = some (.inl (cI G, 240, .inl (nf pk))) ∧ f bh = some (.inl (cZ G, 240, .inl gh)) ∧ f bf = some (.inl (cI G, 3, .inl (nf fl))) ∧ f bl = some (.inl (cI G, 3, .inl gl)) ∧ f bg = some (.inl (cI G, 60, .inl (nf gv))) ∧ PoolX G [] f ∧ BOK n a cg x sa pk ∧ (∀ k, k < 3 → fl k < 243) ∧ ez ≠ eo ∧ nr0 ≠ nr1 ∧ nw0 ≠ na0 ∧ nw0 ≠ nq0 ∧ nw0 ≠ nw1 ∧ nw0 ≠ na1 ∧ nw0 ≠ nq1 ∧ na0 ≠ nq0 ∧ na0 ≠ nw1 ∧ na0 ≠ na1 ∧ na0 ≠ nq1 ∧ nq0 ≠ nw1 ∧ nq0 ≠ na1 ∧ nq0 ≠ nq1 ∧ nw1 ≠ na1 ∧ nw1 ≠ nq1 ∧ na1 ≠ nq1 ∧ bh ≠ bp ∧ bf ≠ bl
def updE (b : Prop) [Decidable b] (g : Nat → Int32) (o : Nat) (x : Int32) : Nat → Int32 := if b then upd g o x else g
theorem updE_1 {b : Prop} [Decidable b] (h : b) (g : Nat → Int32) (o : Nat) (x : Int32) : updE b g o x = upd g o x := if_pos h
theorem updE_0 {b : Prop} [Decidable b] (h : ¬ b) (g : Nat → Int32) (o : Nat) (x : Int32) : updE b g o x = g := if_neg h
theorem hp_cs {p : Program} {l : Launch} {e : Env} {R : Room} {s : State} {m : MethodId} {args : Array Value} {below : List Frame} {meth : Method} {c : Code} {H : Heap} {locs : List Loc} {cells slots c2 s2 : Nat} {Q : State → Prop} {F : JFrame} (h1 : cells = c2) (h2 : slots = s2) (k : W p l e R s m args below meth c H locs c2 s2 Q F) : W p l e R s m args below meth c H locs cells slots Q F := by
  subst h1 h2; exact k
theorem lt3 {x : Int32} (h : vp_in x 3) : x.toNatClampNeg < 3 := Nat.not_le.mp (fun q => h (Or.inr q))
set_option maxHeartbeats 4000000 in
set_option maxRecDepth 100000 in
theorem c_X4_takeFrame {l : Launch} (hl : l.stackTraces = false) (G : hG) (f : hM) (en nw na nq nr : Nat) (mg : Int32) (hE : EF G f en nw na nq nr mg) (hPx : PoolX G [] f) : CT l yX4_takeFrame (.code yX4_takeFrame cX4_takeFrame 2 (some (.object "OptionLine$Frame"))) 6 82 1 6 G [.ref en] f (fun v f1 => (∃ (t9 : Nat) (k9 : List Value), v = some (.ref t9) ∧ f1 t9 = some (.inr (2, k9))) ∧ EF G f1 en nw na nq nr mg ∧ PoolX G [] f1 ∧ hKp [en, nq, nr] f f1) (fun E f1 => E = eS ∧ EF G f1 en nw na nq nr mg ∧ PoolX G [] f1 ∧ hKp [en, nq, nr] f f1) := by
  refine hp_start hl (own := RX4) (by decide) rfl (Nat.le_of_ble_eq_true rfl) ?_
  intro p e s m args below meth c B0 hr hnm hout hw hS ls hl9
  have hx := B0.1
  have hb := B0.2.1
  have hl9 : lv_has ls 2 [(0, .ref en)] := hl9
  obtain ⟨st, tm, sr, li, lp, mi, cn, gq, hd, tl, k_en, k_nq, k_nr, fhd, ftl, blp⟩ := hE
  refine lv_aload_n hx hb dX4_takeFrame_0 rfl (lv_at hl9 0 rfl) ?_
  refine hp_getN B0 hw 1 rfl in_X1 k_en 3 (by decide) oF_X4_106 rfl dX4_takeFrame_1 ?_
  refine hp_V (ci := 3) (As := []) (rest := []) B0 hw hS (c_X3_take hl G f nr hd tl cn k_nr fhd ftl hPx) mV_X3_takeFirst qM_X4_152 rfl k_nr rfl rfl hl9.1 (Nat.le_of_ble_eq_true rfl) ⟨⟨Nat.le_of_ble_eq_true rfl, Nat.le_of_ble_eq_true rfl⟩, Nat.le_of_ble_eq_true rfl, Nat.le_of_ble_eq_true rfl⟩ dX4_takeFrame_4 (fun E ce q9 f1 H locs hPX hw hS hce hcv hcl => ?_) (fun v f1 H locs hP hw hS => ?_)
  · exact hPX.elim
  · obtain ⟨hv9, hr9⟩ := hP
    rcases hv9 with ev9 | ⟨t9, k9, ev9, ht9⟩
    · have hP := And.intro ev9 hr9
      obtain ⟨ev8, ⟨hd2, tl3, cn4, h5, h6, h7⟩, h8, h9⟩ := hP
      subst ev8
      refine W.eq (g2 := F0 m 7 ls [.null]) rfl ?_
      refine lv_astore_nN (lv' := [(1, .null), (0, .ref en)]) hx hb dX4_takeFrame_7 rfl hl9 (by decide) rfl (fun ls hl9 => ?_)
      refine lv_aload_nN hx hb dX4_takeFrame_8 rfl (lv_at hl9 0 rfl) ?_
      refine lv_ifnonnullN hx hb dX4_takeFrame_9 ?_
      have n10 : en ≠ nr := hne k_en k_nr (Nat.ne_of_beq_eq_false rfl)
      have h11 : f1 en = some (.inr (1, [.ref nw, .ref na, .ref nq, .ref nr, .int mg, .int st, .int tm, .int sr, .int li, .int lp, .int mi])) := h9.1 _ _ k_en (Nat.ne_of_beq_eq_false rfl) (ninc n10 nin0)
      have n12 : nq ≠ nr := hne k_nq k_nr (Nat.ne_of_beq_eq_false rfl)
      have h13 : f1 nq = some (.inl (cI G, 6, .inl gq)) := h9.1 _ _ k_nq (Nat.ne_of_beq_eq_false rfl) (ninc n12 nin0)
      exact hp_throw (cls := eS) (names := tNm) B0 hw hS hout tF_eS qC_X4_59 qN_java_lang_IllegalStateException sR_X4_156 tA_eS tB_eS tG_eS hl9.1 dX4_takeFrame_12 dX4_takeFrame_15 dX4_takeFrame_16 dX4_takeFrame_18 dX4_takeFrame_21 ⟨⟨Nat.le_of_ble_eq_true rfl, Nat.le_of_ble_eq_true rfl⟩, Nat.le_of_ble_eq_true rfl, Nat.le_of_ble_eq_true rfl⟩ ⟨Nat.le_of_ble_eq_true rfl, Nat.le_of_ble_eq_true rfl⟩ (⟨rfl, ⟨_, _, _, _, _, _, _, _, _, _, h11, h13, h5, h6, h7, blp⟩, h8, (show hKp [en, nq, nr] f f1 from (h9.mono (fun x9 hx9 => by simp only [List.mem_cons, List.not_mem_nil, or_false] at hx9; rcases hx9 with hx9 <;> (rw [hx9]; simp))))⟩)
    · have hP := And.intro ev9 hr9
      obtain ⟨ev8, ⟨hd14, tl15, cn16, h17, h18, h19⟩, h20, h21⟩ := hP
      subst ev8
      refine W.eq (g2 := F0 m 7 ls [.ref t9]) rfl ?_
      refine lv_astore_n (lv' := [(1, .ref t9), (0, .ref en)]) hx hb dX4_takeFrame_7 rfl hl9 (by decide) rfl (fun ls hl9 => ?_)
      refine lv_aload_n hx hb dX4_takeFrame_8 rfl (lv_at hl9 0 rfl) ?_
      refine lv_ifnonnull (tgt := 22) hx hb dX4_takeFrame_9 (by decide) ?_
      refine lv_aload_n hx hb dX4_takeFrame_22 rfl (lv_at hl9 0 rfl) ?_
      have n22 : en ≠ nr := hne k_en k_nr (Nat.ne_of_beq_eq_false rfl)
      have h23 : f1 en = some (.inr (1, [.ref nw, .ref na, .ref nq, .ref nr, .int mg, .int st, .int tm, .int sr, .int li, .int lp, .int mi])) := h21.1 _ _ k_en (Nat.ne_of_beq_eq_false rfl) (ninc n22 nin0)
      have n24 : nq ≠ nr := hne k_nq k_nr (Nat.ne_of_beq_eq_false rfl)
      have h25 : f1 nq = some (.inl (cI G, 6, .inl gq)) := h21.1 _ _ k_nq (Nat.ne_of_beq_eq_false rfl) (ninc n24 nin0)
      exact hp_aret (v := .ref t9) B0 hw hS hr (Or.inl ⟨_, rfl⟩) (Or.inr ⟨_, rfl⟩) ⟨Nat.le_of_ble_eq_true rfl, Nat.le_of_ble_eq_true rfl⟩ dX4_takeFrame_23 (⟨⟨_, _, rfl, ht9⟩, ⟨_, _, _, _, _, _, _, _, _, _, h23, h25, h17, h18, h19, blp⟩, h20, (show hKp [en, nq, nr] f f1 from (h21.mono (fun x9 hx9 => by simp only [List.mem_cons, List.not_mem_nil, or_false] at hx9; rcases hx9 with hx9 <;> (rw [hx9]; simp))))⟩)

set_option maxHeartbeats 4000000 in
set_option maxRecDepth 100000 in
theorem c_W4_open {l : Launch} (hl : l.stackTraces = false) (G : hG) (f : hM) (xo ez eo bu nw0 na0 nq0 nr0 nw1 na1 nq1 nr1 bs bp bh bf bl bg : Nat) (gw0 : Nat → Int32) (ga0 : Nat → Int32) (gw1 : Nat → Int32) (ga1 : Nat → Int32) (mg0 : Int32) (mg1 : Int32) (n : Nat) (a : Nat) (cg : Nat) (x : Nat) (sa : Nat → Nat) (pk : Nat → Nat) (fl : Nat → Nat) (gv : Nat → Nat) (gh : Nat → Int32) (gl : Nat → Int32) (hC : CW G f xo ez eo bu nw0 na0 nq0 nr0 nw1 na1 nq1 nr1 bs bp bh bf bl bg gw0 ga0 gw1 ga1 mg0 mg1 n a cg x sa pk fl gv gh gl) (i : Int32) : CT l yX4_open (.code yX4_open cX4_open 3 (some .int)) 7 103 3 17 G [.ref xo, .int i] f (fun v f1 => (∃ r9 : Int32, v = some (.int r9)) ∧ CW G f1 xo ez eo bu nw0 na0 nq0 nr0 nw1 na1 nq1 nr1 bs bp bh bf bl bg gw0 ga0 gw1 ga1 mg0 mg1 n a cg x sa pk fl gv gh gl ∧ hKp [xo, ez, eo, bu, nw0, na0, nq0, nr0, nw1, na1, nq1, nr1, bs, bp, bh, bf, bl, bg] f f1) (fun E f1 => (E = eI ∨ E = eS) ∧ CW G f1 xo ez eo bu nw0 na0 nq0 nr0 nw1 na1 nq1 nr1 bs bp bh bf bl bg gw0 ga0 gw1 ga1 mg0 mg1 n a cg x sa pk fl gv gh gl ∧ hKp [xo, ez, eo, bu, nw0, na0, nq0, nr0, nw1, na1, nq1, nr1, bs, bp, bh, bf, bl, bg] f f1) := by
  refine hp_start hl (own := RX4) (by decide) rfl (Nat.le_of_ble_eq_true rfl) ?_
  intro p e s m args below meth c B0 hr hnm hout hw hS ls hl9
  have hx := B0.1
  have hb := B0.2.1
  have hl9 : lv_has ls 3 [(0, .ref xo), (1, .int i)] := hl9
  obtain ⟨k_xo, ⟨st0, tm0, sr0, li0, lp0, mi0, cn0, gq0, hd0, tl0, k_ez, k_nq0, k_nr0, fhd0, ftl0, blp0⟩, ⟨st1, tm1, sr1, li1, lp1, mi1, cn1, gq1, hd1, tl1, k_eo, k_nq1, k_nr1, fhd1, ftl1, blp1⟩, k_nw0, k_na0, k_nw1, k_na1, k_bu, k_bs, k_bp, k_bh, k_bf, k_bl, k_bg, hPx, hB9, hfl9, nd_ez_eo, nd_nr0_nr1, nd_nw0_na0, nd_nw0_nq0, nd_nw0_nw1, nd_nw0_na1, nd_nw0_nq1, nd_na0_nq0, nd_na0_nw1, nd_na0_na1, nd_na0_nq1, nd_nq0_nw1, nd_nq0_na1, nd_nq0_nq1, nd_nw1_na1, nd_nw1_nq1, nd_na1_nq1, nd_bh_bp, nd_bf_bl⟩ := id hC
  refine lv_aload_n hx hb dX4_open_0 rfl (lv_at hl9 0 rfl) ?_
  refine lv_iload_n hx hb dX4_open_1 rfl (lv_at hl9 1 rfl) ?_
  refine hp_V (ci := 4) (As := [.int i]) (rest := []) B0 hw hS (c_X4_endAt hl G f xo ez eo bu k_xo i) mV_X4_endAt qM_X4_28 rfl k_xo rfl rfl hl9.1 (Nat.le_of_ble_eq_true rfl) ⟨⟨Nat.le_of_ble_eq_true rfl, Nat.le_of_ble_eq_true rfl⟩, Nat.le_of_ble_eq_true rfl, Nat.le_of_ble_eq_true rfl⟩ dX4_open_2 (fun E ce q9 f1 H locs hPX hw hS hce hcv hcl => ?_) (fun v f1 H locs hP hw hS => ?_)
  · obtain ⟨ef9, eE9, hE9⟩ := hPX
    rw [ef9] at hw
    subst eE9
    exact hp_out B0 hw hS hout hce hcv hcl ⟨Nat.le_of_ble_eq_true rfl, Nat.le_of_ble_eq_true rfl⟩ (⟨(Or.inl rfl), ⟨k_xo, ⟨_, _, _, _, _, _, _, _, _, _, k_ez, k_nq0, k_nr0, fhd0, ftl0, blp0⟩, ⟨_, _, _, _, _, _, _, _, _, _, k_eo, k_nq1, k_nr1, fhd1, ftl1, blp1⟩, k_nw0, k_na0, k_nw1, k_na1, k_bu, k_bs, k_bp, k_bh, k_bf, k_bl, k_bg, hPx, hB9, hfl9, nd_ez_eo, nd_nr0_nr1, nd_nw0_na0, nd_nw0_nq0, nd_nw0_nw1, nd_nw0_na1, nd_nw0_nq1, nd_na0_nq0, nd_na0_nw1, nd_na0_na1, nd_na0_nq1, nd_nq0_nw1, nd_nq0_na1, nd_nq0_nq1, nd_nw1_na1, nd_nw1_nq1, nd_na1_nq1, nd_bh_bp, nd_bf_bl⟩, hKp.rf⟩)
  · obtain ⟨ef9, hv9⟩ := hP
    rw [ef9] at hw
    rcases hv9 with ⟨k2, ev9⟩ | ⟨k2, ev9⟩
    · subst ev9
      refine W.eq (g2 := F0 m 5 ls [.ref ez]) rfl ?_
      refine lv_astore_n (lv' := [(2, .ref ez), (0, .ref xo), (1, .int i)]) hx hb dX4_open_5 rfl hl9 (by decide) rfl (fun ls hl9 => ?_)
      refine lv_aload_n hx hb dX4_open_6 rfl (lv_at hl9 0 rfl) ?_
      refine hp_getN B0 hw 1 rfl in_X1 k_ez 5 (by decide) oF_X4_55 rfl dX4_open_7 ?_
      refine lv_if_eq (tgt := 23) hx hb dX4_open_10 (by decide) (fun c3 => ?_) (fun c3 => ?_)
      · refine lv_aload_n hx hb dX4_open_23 rfl (lv_at hl9 0 rfl) ?_
        refine hp_V (ci := 1) (As := []) (rest := []) B0 hw hS (c_X1_begin hl G f ez nw0 na0 nq0 nr0 mg0 ⟨_, _, _, _, _, _, _, _, _, _, k_ez, k_nq0, k_nr0, fhd0, ftl0, blp0⟩ hPx gw0 k_nw0 nd_nw0_nq0) mV_X1_begin qM_X4_64 rfl k_ez rfl rfl hl9.1 (Nat.le_of_ble_eq_true rfl) ⟨⟨Nat.le_of_ble_eq_true rfl, Nat.le_of_ble_eq_true rfl⟩, Nat.le_of_ble_eq_true rfl, Nat.le_of_ble_eq_true rfl⟩ dX4_open_24 (fun E ce q9 f4 H locs hPX hw hS hce hcv hcl => ?_) (fun v f4 H locs hP hw hS => ?_)
        · exact hPX.elim
        · obtain ⟨⟨r5, ev9⟩, h6, p7, k8⟩ := hP
          obtain ⟨st9, tm10, sr11, li12, lp13, mi14, cn15, gq16, hd17, tl18, h19, h20, h21, h22, h23, h24⟩ := h6
          subst ev9
          refine W.eq (g2 := F0 m 27 ls [.int r5]) rfl ?_
          have n25 : eo ≠ nr0 := hne k_eo k_nr0 (Nat.ne_of_beq_eq_false rfl)
          have n26 : eo ≠ nq0 := hne k_eo k_nq0 (Nat.ne_of_beq_eq_false rfl)
          have h27 : f4 eo = some (.inr (1, [.ref nw1, .ref na1, .ref nq1, .ref nr1, .int mg1, .int st1, .int tm1, .int sr1, .int li1, .int lp1, .int mi1])) := k8.1 _ _ k_eo (Nat.ne_of_beq_eq_false rfl) (ninc (Ne.symm nd_ez_eo) (ninc n26 (ninc n25 nin0)))
          have n28 : nq1 ≠ nr0 := hne k_nq1 k_nr0 (Nat.ne_of_beq_eq_false rfl)
          have n29 : nq1 ≠ ez := hne k_nq1 k_ez (Nat.ne_of_beq_eq_false rfl)
          have h30 : f4 nq1 = some (.inl (cI G, 6, .inl gq1)) := k8.1 _ _ k_nq1 (Nat.ne_of_beq_eq_false rfl) (ninc n29 (ninc (Ne.symm nd_nq0_nq1) (ninc n28 nin0)))
          have n31 : nr1 ≠ nq0 := hne k_nr1 k_nq0 (Nat.ne_of_beq_eq_false rfl)
          have n32 : nr1 ≠ ez := hne k_nr1 k_ez (Nat.ne_of_beq_eq_false rfl)
          have h33 : f4 nr1 = some (.inr (3, [hd1, tl1, .int cn1])) := k8.1 _ _ k_nr1 (Nat.ne_of_beq_eq_false rfl) (ninc n32 (ninc n31 (ninc (Ne.symm nd_nr0_nr1) nin0)))
          have n34 : xo ≠ nr0 := hne k_xo k_nr0 (Nat.ne_of_beq_eq_false rfl)
          have n35 : xo ≠ nq0 := hne k_xo k_nq0 (Nat.ne_of_beq_eq_false rfl)
          have n36 : xo ≠ ez := hne k_xo k_ez (Nat.ne_of_beq_eq_false rfl)
          have h37 : f4 xo = some (.inr (4, [.ref ez, .ref eo, .ref bu])) := k8.1 _ _ k_xo (Nat.ne_of_beq_eq_false rfl) (ninc n36 (ninc n35 (ninc n34 nin0)))
          have n38 : nw0 ≠ nr0 := hne k_nw0 k_nr0 (Nat.ne_of_beq_eq_false rfl)
          have n39 : nw0 ≠ ez := hne k_nw0 k_ez (Nat.ne_of_beq_eq_false rfl)
          have h40 : f4 nw0 = some (.inl (cI G, 6, .inl gw0)) := k8.1 _ _ k_nw0 (Nat.ne_of_beq_eq_false rfl) (ninc n39 (ninc nd_nw0_nq0 (ninc n38 nin0)))
          have n41 : na0 ≠ nr0 := hne k_na0 k_nr0 (Nat.ne_of_beq_eq_false rfl)
          have n42 : na0 ≠ ez := hne k_na0 k_ez (Nat.ne_of_beq_eq_false rfl)
          have h43 : f4 na0 = some (.inl (cI G, 6, .inl ga0)) := k8.1 _ _ k_na0 (Nat.ne_of_beq_eq_false rfl) (ninc n42 (ninc nd_na0_nq0 (ninc n41 nin0)))
          have n44 : nw1 ≠ nr0 := hne k_nw1 k_nr0 (Nat.ne_of_beq_eq_false rfl)
          have n45 : nw1 ≠ ez := hne k_nw1 k_ez (Nat.ne_of_beq_eq_false rfl)
          have h46 : f4 nw1 = some (.inl (cI G, 6, .inl gw1)) := k8.1 _ _ k_nw1 (Nat.ne_of_beq_eq_false rfl) (ninc n45 (ninc (Ne.symm nd_nq0_nw1) (ninc n44 nin0)))
          have n47 : na1 ≠ nr0 := hne k_na1 k_nr0 (Nat.ne_of_beq_eq_false rfl)
          have n48 : na1 ≠ ez := hne k_na1 k_ez (Nat.ne_of_beq_eq_false rfl)
          have h49 : f4 na1 = some (.inl (cI G, 6, .inl ga1)) := k8.1 _ _ k_na1 (Nat.ne_of_beq_eq_false rfl) (ninc n48 (ninc (Ne.symm nd_nq0_na1) (ninc n47 nin0)))
          have n50 : bu ≠ nr0 := hne k_bu k_nr0 (Nat.ne_of_beq_eq_false rfl)
          have n51 : bu ≠ nq0 := hne k_bu k_nq0 (Nat.ne_of_beq_eq_false rfl)
          have n52 : bu ≠ ez := hne k_bu k_ez (Nat.ne_of_beq_eq_false rfl)
          have h53 : f4 bu = some (.inr (0, [.ref bs, .ref bp, .ref bh, .ref bf, .ref bl, .ref bg, .int (nI n), .int (nI cg), .int (nI x)])) := k8.1 _ _ k_bu (Nat.ne_of_beq_eq_false rfl) (ninc n52 (ninc n51 (ninc n50 nin0)))
          have n54 : bs ≠ nr0 := hne k_bs k_nr0 (Nat.ne_of_beq_eq_false rfl)
          have n55 : bs ≠ nq0 := hneL k_bs k_nq0 (Nat.ne_of_beq_eq_false rfl)
          have n56 : bs ≠ ez := hne k_bs k_ez (Nat.ne_of_beq_eq_false rfl)
          have h57 : f4 bs = some (.inl (cI G, 61, .inl (nf sa))) := k8.1 _ _ k_bs (Nat.ne_of_beq_eq_false rfl) (ninc n56 (ninc n55 (ninc n54 nin0)))
          have n58 : bp ≠ nr0 := hne k_bp k_nr0 (Nat.ne_of_beq_eq_false rfl)
          have n59 : bp ≠ nq0 := hneL k_bp k_nq0 (Nat.ne_of_beq_eq_false rfl)
          have n60 : bp ≠ ez := hne k_bp k_ez (Nat.ne_of_beq_eq_false rfl)
          have h61 : f4 bp = some (.inl (cI G, 240, .inl (nf pk))) := k8.1 _ _ k_bp (Nat.ne_of_beq_eq_false rfl) (ninc n60 (ninc n59 (ninc n58 nin0)))
          have n62 : bh ≠ nr0 := hne k_bh k_nr0 (Nat.ne_of_beq_eq_false rfl)
          have n63 : bh ≠ nq0 := hneL k_bh k_nq0 (Nat.ne_of_beq_eq_false rfl)
          have n64 : bh ≠ ez := hne k_bh k_ez (Nat.ne_of_beq_eq_false rfl)
          have h65 : f4 bh = some (.inl (cZ G, 240, .inl gh)) := k8.1 _ _ k_bh (Nat.ne_of_beq_eq_false rfl) (ninc n64 (ninc n63 (ninc n62 nin0)))
          have n66 : bf ≠ nr0 := hne k_bf k_nr0 (Nat.ne_of_beq_eq_false rfl)
          have n67 : bf ≠ nq0 := hneL k_bf k_nq0 (Nat.ne_of_beq_eq_false rfl)
          have n68 : bf ≠ ez := hne k_bf k_ez (Nat.ne_of_beq_eq_false rfl)
          have h69 : f4 bf = some (.inl (cI G, 3, .inl (nf fl))) := k8.1 _ _ k_bf (Nat.ne_of_beq_eq_false rfl) (ninc n68 (ninc n67 (ninc n66 nin0)))
          have n70 : bl ≠ nr0 := hne k_bl k_nr0 (Nat.ne_of_beq_eq_false rfl)
          have n71 : bl ≠ nq0 := hneL k_bl k_nq0 (Nat.ne_of_beq_eq_false rfl)
          have n72 : bl ≠ ez := hne k_bl k_ez (Nat.ne_of_beq_eq_false rfl)
          have h73 : f4 bl = some (.inl (cI G, 3, .inl gl)) := k8.1 _ _ k_bl (Nat.ne_of_beq_eq_false rfl) (ninc n72 (ninc n71 (ninc n70 nin0)))
          have n74 : bg ≠ nr0 := hne k_bg k_nr0 (Nat.ne_of_beq_eq_false rfl)
          have n75 : bg ≠ nq0 := hneL k_bg k_nq0 (Nat.ne_of_beq_eq_false rfl)
          have n76 : bg ≠ ez := hne k_bg k_ez (Nat.ne_of_beq_eq_false rfl)
          have h77 : f4 bg = some (.inl (cI G, 60, .inl (nf gv))) := k8.1 _ _ k_bg (Nat.ne_of_beq_eq_false rfl) (ninc n76 (ninc n75 (ninc n74 nin0)))
          exact hp_iret (v := r5) B0 hw hS hr ⟨Nat.le_of_ble_eq_true rfl, Nat.le_of_ble_eq_true rfl⟩ dX4_open_27 (⟨⟨_, rfl⟩, ⟨h37, ⟨_, _, _, _, _, _, _, _, _, _, h19, h20, h21, h22, h23, h24⟩, ⟨_, _, _, _, _, _, _, _, _, _, h27, h30, h33, (fhd1.kp (show hKp [xo, ez, eo, bu, nw0, na0, nq0, nr0, nw1, na1, nq1, nr1, bs, bp, bh, bf, bl, bg] f f4 from (k8.mono (fun x9 hx9 => by simp only [List.mem_cons, List.not_mem_nil, or_false] at hx9; rcases hx9 with hx9 | hx9 | hx9 <;> (rw [hx9]; simp))))), (ftl1.kp (show hKp [xo, ez, eo, bu, nw0, na0, nq0, nr0, nw1, na1, nq1, nr1, bs, bp, bh, bf, bl, bg] f f4 from (k8.mono (fun x9 hx9 => by simp only [List.mem_cons, List.not_mem_nil, or_false] at hx9; rcases hx9 with hx9 | hx9 | hx9 <;> (rw [hx9]; simp))))), blp1⟩, h40, h43, h46, h49, h53, h57, h61, h65, h69, h73, h77, p7, hB9, hfl9, nd_ez_eo, nd_nr0_nr1, nd_nw0_na0, nd_nw0_nq0, nd_nw0_nw1, nd_nw0_na1, nd_nw0_nq1, nd_na0_nq0, nd_na0_nw1, nd_na0_na1, nd_na0_nq1, nd_nq0_nw1, nd_nq0_na1, nd_nq0_nq1, nd_nw1_na1, nd_nw1_nq1, nd_na1_nq1, nd_bh_bp, nd_bf_bl⟩, (show hKp [xo, ez, eo, bu, nw0, na0, nq0, nr0, nw1, na1, nq1, nr1, bs, bp, bh, bf, bl, bg] f f4 from (k8.mono (fun x9 hx9 => by simp only [List.mem_cons, List.not_mem_nil, or_false] at hx9; rcases hx9 with hx9 | hx9 | hx9 <;> (rw [hx9]; simp))))⟩)
      · exact hp_throw (cls := eS) (names := tNm) B0 hw hS hout tF_eS qC_X4_59 qN_java_lang_IllegalStateException sR_X4_61 tA_eS tB_eS tG_eS hl9.1 dX4_open_13 dX4_open_16 dX4_open_17 dX4_open_19 dX4_open_22 ⟨⟨Nat.le_of_ble_eq_true rfl, Nat.le_of_ble_eq_true rfl⟩, Nat.le_of_ble_eq_true rfl, Nat.le_of_ble_eq_true rfl⟩ ⟨Nat.le_of_ble_eq_true rfl, Nat.le_of_ble_eq_true rfl⟩ (⟨(Or.inr rfl), ⟨k_xo, ⟨_, _, _, _, _, _, _, _, _, _, k_ez, k_nq0, k_nr0, fhd0, ftl0, blp0⟩, ⟨_, _, _, _, _, _, _, _, _, _, k_eo, k_nq1, k_nr1, fhd1, ftl1, blp1⟩, k_nw0, k_na0, k_nw1, k_na1, k_bu, k_bs, k_bp, k_bh, k_bf, k_bl, k_bg, hPx, hB9, hfl9, nd_ez_eo, nd_nr0_nr1, nd_nw0_na0, nd_nw0_nq0, nd_nw0_nw1, nd_nw0_na1, nd_nw0_nq1, nd_na0_nq0, nd_na0_nw1, nd_na0_na1, nd_na0_nq1, nd_nq0_nw1, nd_nq0_na1, nd_nq0_nq1, nd_nw1_na1, nd_nw1_nq1, nd_na1_nq1, nd_bh_bp, nd_bf_bl⟩, hKp.rf⟩)
    · subst ev9
      refine W.eq (g2 := F0 m 5 ls [.ref eo]) rfl ?_
      refine lv_astore_n (lv' := [(2, .ref eo), (0, .ref xo), (1, .int i)]) hx hb dX4_open_5 rfl hl9 (by decide) rfl (fun ls hl9 => ?_)
      refine lv_aload_n hx hb dX4_open_6 rfl (lv_at hl9 0 rfl) ?_
      refine hp_getN B0 hw 1 rfl in_X1 k_eo 5 (by decide) oF_X4_55 rfl dX4_open_7 ?_
      refine lv_if_eq (tgt := 23) hx hb dX4_open_10 (by decide) (fun c78 => ?_) (fun c78 => ?_)
      · refine lv_aload_n hx hb dX4_open_23 rfl (lv_at hl9 0 rfl) ?_
        refine hp_V (ci := 1) (As := []) (rest := []) B0 hw hS (c_X1_begin hl G f eo nw1 na1 nq1 nr1 mg1 ⟨_, _, _, _, _, _, _, _, _, _, k_eo, k_nq1, k_nr1, fhd1, ftl1, blp1⟩ hPx gw1 k_nw1 nd_nw1_nq1) mV_X1_begin qM_X4_64 rfl k_eo rfl rfl hl9.1 (Nat.le_of_ble_eq_true rfl) ⟨⟨Nat.le_of_ble_eq_true rfl, Nat.le_of_ble_eq_true rfl⟩, Nat.le_of_ble_eq_true rfl, Nat.le_of_ble_eq_true rfl⟩ dX4_open_24 (fun E ce q9 f79 H locs hPX hw hS hce hcv hcl => ?_) (fun v f79 H locs hP hw hS => ?_)
        · exact hPX.elim
        · obtain ⟨⟨r80, ev9⟩, h81, p82, k83⟩ := hP
          obtain ⟨st84, tm85, sr86, li87, lp88, mi89, cn90, gq91, hd92, tl93, h94, h95, h96, h97, h98, h99⟩ := h81
          subst ev9
          refine W.eq (g2 := F0 m 27 ls [.int r80]) rfl ?_
          have n100 : ez ≠ nr1 := hne k_ez k_nr1 (Nat.ne_of_beq_eq_false rfl)
          have n101 : ez ≠ nq1 := hne k_ez k_nq1 (Nat.ne_of_beq_eq_false rfl)
          have h102 : f79 ez = some (.inr (1, [.ref nw0, .ref na0, .ref nq0, .ref nr0, .int mg0, .int st0, .int tm0, .int sr0, .int li0, .int lp0, .int mi0])) := k83.1 _ _ k_ez (Nat.ne_of_beq_eq_false rfl) (ninc nd_ez_eo (ninc n101 (ninc n100 nin0)))
          have n103 : nq0 ≠ nr1 := hne k_nq0 k_nr1 (Nat.ne_of_beq_eq_false rfl)
          have n104 : nq0 ≠ eo := hne k_nq0 k_eo (Nat.ne_of_beq_eq_false rfl)
          have h105 : f79 nq0 = some (.inl (cI G, 6, .inl gq0)) := k83.1 _ _ k_nq0 (Nat.ne_of_beq_eq_false rfl) (ninc n104 (ninc nd_nq0_nq1 (ninc n103 nin0)))
          have n106 : nr0 ≠ nq1 := hne k_nr0 k_nq1 (Nat.ne_of_beq_eq_false rfl)
          have n107 : nr0 ≠ eo := hne k_nr0 k_eo (Nat.ne_of_beq_eq_false rfl)
          have h108 : f79 nr0 = some (.inr (3, [hd0, tl0, .int cn0])) := k83.1 _ _ k_nr0 (Nat.ne_of_beq_eq_false rfl) (ninc n107 (ninc n106 (ninc nd_nr0_nr1 nin0)))
          have n109 : xo ≠ nr1 := hne k_xo k_nr1 (Nat.ne_of_beq_eq_false rfl)
          have n110 : xo ≠ nq1 := hne k_xo k_nq1 (Nat.ne_of_beq_eq_false rfl)
          have n111 : xo ≠ eo := hne k_xo k_eo (Nat.ne_of_beq_eq_false rfl)
          have h112 : f79 xo = some (.inr (4, [.ref ez, .ref eo, .ref bu])) := k83.1 _ _ k_xo (Nat.ne_of_beq_eq_false rfl) (ninc n111 (ninc n110 (ninc n109 nin0)))
          have n113 : nw0 ≠ nr1 := hne k_nw0 k_nr1 (Nat.ne_of_beq_eq_false rfl)
          have n114 : nw0 ≠ eo := hne k_nw0 k_eo (Nat.ne_of_beq_eq_false rfl)
          have h115 : f79 nw0 = some (.inl (cI G, 6, .inl gw0)) := k83.1 _ _ k_nw0 (Nat.ne_of_beq_eq_false rfl) (ninc n114 (ninc nd_nw0_nq1 (ninc n113 nin0)))
          have n116 : na0 ≠ nr1 := hne k_na0 k_nr1 (Nat.ne_of_beq_eq_false rfl)
          have n117 : na0 ≠ eo := hne k_na0 k_eo (Nat.ne_of_beq_eq_false rfl)
          have h118 : f79 na0 = some (.inl (cI G, 6, .inl ga0)) := k83.1 _ _ k_na0 (Nat.ne_of_beq_eq_false rfl) (ninc n117 (ninc nd_na0_nq1 (ninc n116 nin0)))
          have n119 : nw1 ≠ nr1 := hne k_nw1 k_nr1 (Nat.ne_of_beq_eq_false rfl)
          have n120 : nw1 ≠ eo := hne k_nw1 k_eo (Nat.ne_of_beq_eq_false rfl)
          have h121 : f79 nw1 = some (.inl (cI G, 6, .inl gw1)) := k83.1 _ _ k_nw1 (Nat.ne_of_beq_eq_false rfl) (ninc n120 (ninc nd_nw1_nq1 (ninc n119 nin0)))
          have n122 : na1 ≠ nr1 := hne k_na1 k_nr1 (Nat.ne_of_beq_eq_false rfl)
          have n123 : na1 ≠ eo := hne k_na1 k_eo (Nat.ne_of_beq_eq_false rfl)
          have h124 : f79 na1 = some (.inl (cI G, 6, .inl ga1)) := k83.1 _ _ k_na1 (Nat.ne_of_beq_eq_false rfl) (ninc n123 (ninc nd_na1_nq1 (ninc n122 nin0)))
          have n125 : bu ≠ nr1 := hne k_bu k_nr1 (Nat.ne_of_beq_eq_false rfl)
          have n126 : bu ≠ nq1 := hne k_bu k_nq1 (Nat.ne_of_beq_eq_false rfl)
          have n127 : bu ≠ eo := hne k_bu k_eo (Nat.ne_of_beq_eq_false rfl)
          have h128 : f79 bu = some (.inr (0, [.ref bs, .ref bp, .ref bh, .ref bf, .ref bl, .ref bg, .int (nI n), .int (nI cg), .int (nI x)])) := k83.1 _ _ k_bu (Nat.ne_of_beq_eq_false rfl) (ninc n127 (ninc n126 (ninc n125 nin0)))
          have n129 : bs ≠ nr1 := hne k_bs k_nr1 (Nat.ne_of_beq_eq_false rfl)
          have n130 : bs ≠ nq1 := hneL k_bs k_nq1 (Nat.ne_of_beq_eq_false rfl)
          have n131 : bs ≠ eo := hne k_bs k_eo (Nat.ne_of_beq_eq_false rfl)
          have h132 : f79 bs = some (.inl (cI G, 61, .inl (nf sa))) := k83.1 _ _ k_bs (Nat.ne_of_beq_eq_false rfl) (ninc n131 (ninc n130 (ninc n129 nin0)))
          have n133 : bp ≠ nr1 := hne k_bp k_nr1 (Nat.ne_of_beq_eq_false rfl)
          have n134 : bp ≠ nq1 := hneL k_bp k_nq1 (Nat.ne_of_beq_eq_false rfl)
          have n135 : bp ≠ eo := hne k_bp k_eo (Nat.ne_of_beq_eq_false rfl)
          have h136 : f79 bp = some (.inl (cI G, 240, .inl (nf pk))) := k83.1 _ _ k_bp (Nat.ne_of_beq_eq_false rfl) (ninc n135 (ninc n134 (ninc n133 nin0)))
          have n137 : bh ≠ nr1 := hne k_bh k_nr1 (Nat.ne_of_beq_eq_false rfl)
          have n138 : bh ≠ nq1 := hneL k_bh k_nq1 (Nat.ne_of_beq_eq_false rfl)
          have n139 : bh ≠ eo := hne k_bh k_eo (Nat.ne_of_beq_eq_false rfl)
          have h140 : f79 bh = some (.inl (cZ G, 240, .inl gh)) := k83.1 _ _ k_bh (Nat.ne_of_beq_eq_false rfl) (ninc n139 (ninc n138 (ninc n137 nin0)))
          have n141 : bf ≠ nr1 := hne k_bf k_nr1 (Nat.ne_of_beq_eq_false rfl)
          have n142 : bf ≠ nq1 := hneL k_bf k_nq1 (Nat.ne_of_beq_eq_false rfl)
          have n143 : bf ≠ eo := hne k_bf k_eo (Nat.ne_of_beq_eq_false rfl)
          have h144 : f79 bf = some (.inl (cI G, 3, .inl (nf fl))) := k83.1 _ _ k_bf (Nat.ne_of_beq_eq_false rfl) (ninc n143 (ninc n142 (ninc n141 nin0)))
          have n145 : bl ≠ nr1 := hne k_bl k_nr1 (Nat.ne_of_beq_eq_false rfl)
          have n146 : bl ≠ nq1 := hneL k_bl k_nq1 (Nat.ne_of_beq_eq_false rfl)
          have n147 : bl ≠ eo := hne k_bl k_eo (Nat.ne_of_beq_eq_false rfl)
          have h148 : f79 bl = some (.inl (cI G, 3, .inl gl)) := k83.1 _ _ k_bl (Nat.ne_of_beq_eq_false rfl) (ninc n147 (ninc n146 (ninc n145 nin0)))
          have n149 : bg ≠ nr1 := hne k_bg k_nr1 (Nat.ne_of_beq_eq_false rfl)
          have n150 : bg ≠ nq1 := hneL k_bg k_nq1 (Nat.ne_of_beq_eq_false rfl)
          have n151 : bg ≠ eo := hne k_bg k_eo (Nat.ne_of_beq_eq_false rfl)
          have h152 : f79 bg = some (.inl (cI G, 60, .inl (nf gv))) := k83.1 _ _ k_bg (Nat.ne_of_beq_eq_false rfl) (ninc n151 (ninc n150 (ninc n149 nin0)))
          exact hp_iret (v := r80) B0 hw hS hr ⟨Nat.le_of_ble_eq_true rfl, Nat.le_of_ble_eq_true rfl⟩ dX4_open_27 (⟨⟨_, rfl⟩, ⟨h112, ⟨_, _, _, _, _, _, _, _, _, _, h102, h105, h108, (fhd0.kp (show hKp [xo, ez, eo, bu, nw0, na0, nq0, nr0, nw1, na1, nq1, nr1, bs, bp, bh, bf, bl, bg] f f79 from (k83.mono (fun x9 hx9 => by simp only [List.mem_cons, List.not_mem_nil, or_false] at hx9; rcases hx9 with hx9 | hx9 | hx9 <;> (rw [hx9]; simp))))), (ftl0.kp (show hKp [xo, ez, eo, bu, nw0, na0, nq0, nr0, nw1, na1, nq1, nr1, bs, bp, bh, bf, bl, bg] f f79 from (k83.mono (fun x9 hx9 => by simp only [List.mem_cons, List.not_mem_nil, or_false] at hx9; rcases hx9 with hx9 | hx9 | hx9 <;> (rw [hx9]; simp))))), blp0⟩, ⟨_, _, _, _, _, _, _, _, _, _, h94, h95, h96, h97, h98, h99⟩, h115, h118, h121, h124, h128, h132, h136, h140, h144, h148, h152, p82, hB9, hfl9, nd_ez_eo, nd_nr0_nr1, nd_nw0_na0, nd_nw0_nq0, nd_nw0_nw1, nd_nw0_na1, nd_nw0_nq1, nd_na0_nq0, nd_na0_nw1, nd_na0_na1, nd_na0_nq1, nd_nq0_nw1, nd_nq0_na1, nd_nq0_nq1, nd_nw1_na1, nd_nw1_nq1, nd_na1_nq1, nd_bh_bp, nd_bf_bl⟩, (show hKp [xo, ez, eo, bu, nw0, na0, nq0, nr0, nw1, na1, nq1, nr1, bs, bp, bh, bf, bl, bg] f f79 from (k83.mono (fun x9 hx9 => by simp only [List.mem_cons, List.not_mem_nil, or_false] at hx9; rcases hx9 with hx9 | hx9 | hx9 <;> (rw [hx9]; simp))))⟩)
      · exact hp_throw (cls := eS) (names := tNm) B0 hw hS hout tF_eS qC_X4_59 qN_java_lang_IllegalStateException sR_X4_61 tA_eS tB_eS tG_eS hl9.1 dX4_open_13 dX4_open_16 dX4_open_17 dX4_open_19 dX4_open_22 ⟨⟨Nat.le_of_ble_eq_true rfl, Nat.le_of_ble_eq_true rfl⟩, Nat.le_of_ble_eq_true rfl, Nat.le_of_ble_eq_true rfl⟩ ⟨Nat.le_of_ble_eq_true rfl, Nat.le_of_ble_eq_true rfl⟩ (⟨(Or.inr rfl), ⟨k_xo, ⟨_, _, _, _, _, _, _, _, _, _, k_ez, k_nq0, k_nr0, fhd0, ftl0, blp0⟩, ⟨_, _, _, _, _, _, _, _, _, _, k_eo, k_nq1, k_nr1, fhd1, ftl1, blp1⟩, k_nw0, k_na0, k_nw1, k_na1, k_bu, k_bs, k_bp, k_bh, k_bf, k_bl, k_bg, hPx, hB9, hfl9, nd_ez_eo, nd_nr0_nr1, nd_nw0_na0, nd_nw0_nq0, nd_nw0_nw1, nd_nw0_na1, nd_nw0_nq1, nd_na0_nq0, nd_na0_nw1, nd_na0_na1, nd_na0_nq1, nd_nq0_nw1, nd_nq0_na1, nd_nq0_nq1, nd_nw1_na1, nd_nw1_nq1, nd_na1_nq1, nd_bh_bp, nd_bf_bl⟩, hKp.rf⟩)

set_option maxHeartbeats 4000000 in
set_option maxRecDepth 100000 in
theorem c_W4_close {l : Launch} (hl : l.stackTraces = false) (G : hG) (f : hM) (xo ez eo bu nw0 na0 nq0 nr0 nw1 na1 nq1 nr1 bs bp bh bf bl bg : Nat) (gw0 : Nat → Int32) (ga0 : Nat → Int32) (gw1 : Nat → Int32) (ga1 : Nat → Int32) (mg0 : Int32) (mg1 : Int32) (n : Nat) (a : Nat) (cg : Nat) (x : Nat) (sa : Nat → Nat) (pk : Nat → Nat) (fl : Nat → Nat) (gv : Nat → Nat) (gh : Nat → Int32) (gl : Nat → Int32) (hC : CW G f xo ez eo bu nw0 na0 nq0 nr0 nw1 na1 nq1 nr1 bs bp bh bf bl bg gw0 ga0 gw1 ga1 mg0 mg1 n a cg x sa pk fl gv gh gl) (i : Int32) : CT l yX4_close (.code yX4_close cX4_close 3 (some .int)) 7 103 3 17 G [.ref xo, .int i] f (fun v f1 => (∃ r9 : Int32, v = some (.int r9)) ∧ CW G f1 xo ez eo bu nw0 na0 nq0 nr0 nw1 na1 nq1 nr1 bs bp bh bf bl bg gw0 ga0 gw1 ga1 mg0 mg1 n a cg x sa pk fl gv gh gl ∧ hKp [xo, ez, eo, bu, nw0, na0, nq0, nr0, nw1, na1, nq1, nr1, bs, bp, bh, bf, bl, bg] f f1) (fun E f1 => (E = eI ∨ E = eS) ∧ CW G f1 xo ez eo bu nw0 na0 nq0 nr0 nw1 na1 nq1 nr1 bs bp bh bf bl bg gw0 ga0 gw1 ga1 mg0 mg1 n a cg x sa pk fl gv gh gl ∧ hKp [xo, ez, eo, bu, nw0, na0, nq0, nr0, nw1, na1, nq1, nr1, bs, bp, bh, bf, bl, bg] f f1) := by
  refine hp_start hl (own := RX4) (by decide) rfl (Nat.le_of_ble_eq_true rfl) ?_
  intro p e s m args below meth c B0 hr hnm hout hw hS ls hl9
  have hx := B0.1
  have hb := B0.2.1
  have hl9 : lv_has ls 3 [(0, .ref xo), (1, .int i)] := hl9
  obtain ⟨k_xo, ⟨st0, tm0, sr0, li0, lp0, mi0, cn0, gq0, hd0, tl0, k_ez, k_nq0, k_nr0, fhd0, ftl0, blp0⟩, ⟨st1, tm1, sr1, li1, lp1, mi1, cn1, gq1, hd1, tl1, k_eo, k_nq1, k_nr1, fhd1, ftl1, blp1⟩, k_nw0, k_na0, k_nw1, k_na1, k_bu, k_bs, k_bp, k_bh, k_bf, k_bl, k_bg, hPx, hB9, hfl9, nd_ez_eo, nd_nr0_nr1, nd_nw0_na0, nd_nw0_nq0, nd_nw0_nw1, nd_nw0_na1, nd_nw0_nq1, nd_na0_nq0, nd_na0_nw1, nd_na0_na1, nd_na0_nq1, nd_nq0_nw1, nd_nq0_na1, nd_nq0_nq1, nd_nw1_na1, nd_nw1_nq1, nd_na1_nq1, nd_bh_bp, nd_bf_bl⟩ := id hC
  refine lv_aload_n hx hb dX4_close_0 rfl (lv_at hl9 0 rfl) ?_
  refine lv_iload_n hx hb dX4_close_1 rfl (lv_at hl9 1 rfl) ?_
  refine hp_V (ci := 4) (As := [.int i]) (rest := []) B0 hw hS (c_X4_endAt hl G f xo ez eo bu k_xo i) mV_X4_endAt qM_X4_28 rfl k_xo rfl rfl hl9.1 (Nat.le_of_ble_eq_true rfl) ⟨⟨Nat.le_of_ble_eq_true rfl, Nat.le_of_ble_eq_true rfl⟩, Nat.le_of_ble_eq_true rfl, Nat.le_of_ble_eq_true rfl⟩ dX4_close_2 (fun E ce q9 f1 H locs hPX hw hS hce hcv hcl => ?_) (fun v f1 H locs hP hw hS => ?_)
  · obtain ⟨ef9, eE9, hE9⟩ := hPX
    rw [ef9] at hw
    subst eE9
    exact hp_out B0 hw hS hout hce hcv hcl ⟨Nat.le_of_ble_eq_true rfl, Nat.le_of_ble_eq_true rfl⟩ (⟨(Or.inl rfl), ⟨k_xo, ⟨_, _, _, _, _, _, _, _, _, _, k_ez, k_nq0, k_nr0, fhd0, ftl0, blp0⟩, ⟨_, _, _, _, _, _, _, _, _, _, k_eo, k_nq1, k_nr1, fhd1, ftl1, blp1⟩, k_nw0, k_na0, k_nw1, k_na1, k_bu, k_bs, k_bp, k_bh, k_bf, k_bl, k_bg, hPx, hB9, hfl9, nd_ez_eo, nd_nr0_nr1, nd_nw0_na0, nd_nw0_nq0, nd_nw0_nw1, nd_nw0_na1, nd_nw0_nq1, nd_na0_nq0, nd_na0_nw1, nd_na0_na1, nd_na0_nq1, nd_nq0_nw1, nd_nq0_na1, nd_nq0_nq1, nd_nw1_na1, nd_nw1_nq1, nd_na1_nq1, nd_bh_bp, nd_bf_bl⟩, hKp.rf⟩)
  · obtain ⟨ef9, hv9⟩ := hP
    rw [ef9] at hw
    rcases hv9 with ⟨k2, ev9⟩ | ⟨k2, ev9⟩
    · subst ev9
      refine W.eq (g2 := F0 m 5 ls [.ref ez]) rfl ?_
      refine lv_astore_n (lv' := [(2, .ref ez), (0, .ref xo), (1, .int i)]) hx hb dX4_close_5 rfl hl9 (by decide) rfl (fun ls hl9 => ?_)
      refine lv_aload_n hx hb dX4_close_6 rfl (lv_at hl9 0 rfl) ?_
      refine hp_getN B0 hw 1 rfl in_X1 k_ez 5 (by decide) oF_X4_55 rfl dX4_close_7 ?_
      refine lv_if_ne (tgt := 23) hx hb dX4_close_10 (by decide) (fun c3 => ?_) (fun c3 => ?_)
      · refine lv_aload_n hx hb dX4_close_23 rfl (lv_at hl9 0 rfl) ?_
        refine hp_V (ci := 1) (As := []) (rest := []) B0 hw hS (c_X1_finish hl G f ez nw0 na0 nq0 nr0 mg0 ⟨_, _, _, _, _, _, _, _, _, _, k_ez, k_nq0, k_nr0, fhd0, ftl0, blp0⟩ hPx ) mV_X1_finish qM_X4_70 rfl k_ez rfl rfl hl9.1 (Nat.le_of_ble_eq_true rfl) ⟨⟨Nat.le_of_ble_eq_true rfl, Nat.le_of_ble_eq_true rfl⟩, Nat.le_of_ble_eq_true rfl, Nat.le_of_ble_eq_true rfl⟩ dX4_close_24 (fun E ce q9 f4 H locs hPX hw hS hce hcv hcl => ?_) (fun v f4 H locs hP hw hS => ?_)
        · exact hPX.elim
        · obtain ⟨⟨r5, ev9⟩, h6, p7, k8⟩ := hP
          obtain ⟨st9, tm10, sr11, li12, lp13, mi14, cn15, gq16, hd17, tl18, h19, h20, h21, h22, h23, h24⟩ := h6
          subst ev9
          refine W.eq (g2 := F0 m 27 ls [.int r5]) rfl ?_
          have n25 : eo ≠ nr0 := hne k_eo k_nr0 (Nat.ne_of_beq_eq_false rfl)
          have n26 : eo ≠ nq0 := hne k_eo k_nq0 (Nat.ne_of_beq_eq_false rfl)
          have h27 : f4 eo = some (.inr (1, [.ref nw1, .ref na1, .ref nq1, .ref nr1, .int mg1, .int st1, .int tm1, .int sr1, .int li1, .int lp1, .int mi1])) := k8.1 _ _ k_eo (Nat.ne_of_beq_eq_false rfl) (ninc (Ne.symm nd_ez_eo) (ninc n26 (ninc n25 nin0)))
          have n28 : nq1 ≠ nr0 := hne k_nq1 k_nr0 (Nat.ne_of_beq_eq_false rfl)
          have n29 : nq1 ≠ ez := hne k_nq1 k_ez (Nat.ne_of_beq_eq_false rfl)
          have h30 : f4 nq1 = some (.inl (cI G, 6, .inl gq1)) := k8.1 _ _ k_nq1 (Nat.ne_of_beq_eq_false rfl) (ninc n29 (ninc (Ne.symm nd_nq0_nq1) (ninc n28 nin0)))
          have n31 : nr1 ≠ nq0 := hne k_nr1 k_nq0 (Nat.ne_of_beq_eq_false rfl)
          have n32 : nr1 ≠ ez := hne k_nr1 k_ez (Nat.ne_of_beq_eq_false rfl)
          have h33 : f4 nr1 = some (.inr (3, [hd1, tl1, .int cn1])) := k8.1 _ _ k_nr1 (Nat.ne_of_beq_eq_false rfl) (ninc n32 (ninc n31 (ninc (Ne.symm nd_nr0_nr1) nin0)))
          have n34 : xo ≠ nr0 := hne k_xo k_nr0 (Nat.ne_of_beq_eq_false rfl)
          have n35 : xo ≠ nq0 := hne k_xo k_nq0 (Nat.ne_of_beq_eq_false rfl)
          have n36 : xo ≠ ez := hne k_xo k_ez (Nat.ne_of_beq_eq_false rfl)
          have h37 : f4 xo = some (.inr (4, [.ref ez, .ref eo, .ref bu])) := k8.1 _ _ k_xo (Nat.ne_of_beq_eq_false rfl) (ninc n36 (ninc n35 (ninc n34 nin0)))
          have n38 : nw0 ≠ nr0 := hne k_nw0 k_nr0 (Nat.ne_of_beq_eq_false rfl)
          have n39 : nw0 ≠ ez := hne k_nw0 k_ez (Nat.ne_of_beq_eq_false rfl)
          have h40 : f4 nw0 = some (.inl (cI G, 6, .inl gw0)) := k8.1 _ _ k_nw0 (Nat.ne_of_beq_eq_false rfl) (ninc n39 (ninc nd_nw0_nq0 (ninc n38 nin0)))
          have n41 : na0 ≠ nr0 := hne k_na0 k_nr0 (Nat.ne_of_beq_eq_false rfl)
          have n42 : na0 ≠ ez := hne k_na0 k_ez (Nat.ne_of_beq_eq_false rfl)
          have h43 : f4 na0 = some (.inl (cI G, 6, .inl ga0)) := k8.1 _ _ k_na0 (Nat.ne_of_beq_eq_false rfl) (ninc n42 (ninc nd_na0_nq0 (ninc n41 nin0)))
          have n44 : nw1 ≠ nr0 := hne k_nw1 k_nr0 (Nat.ne_of_beq_eq_false rfl)
          have n45 : nw1 ≠ ez := hne k_nw1 k_ez (Nat.ne_of_beq_eq_false rfl)
          have h46 : f4 nw1 = some (.inl (cI G, 6, .inl gw1)) := k8.1 _ _ k_nw1 (Nat.ne_of_beq_eq_false rfl) (ninc n45 (ninc (Ne.symm nd_nq0_nw1) (ninc n44 nin0)))
          have n47 : na1 ≠ nr0 := hne k_na1 k_nr0 (Nat.ne_of_beq_eq_false rfl)
          have n48 : na1 ≠ ez := hne k_na1 k_ez (Nat.ne_of_beq_eq_false rfl)
          have h49 : f4 na1 = some (.inl (cI G, 6, .inl ga1)) := k8.1 _ _ k_na1 (Nat.ne_of_beq_eq_false rfl) (ninc n48 (ninc (Ne.symm nd_nq0_na1) (ninc n47 nin0)))
          have n50 : bu ≠ nr0 := hne k_bu k_nr0 (Nat.ne_of_beq_eq_false rfl)
          have n51 : bu ≠ nq0 := hne k_bu k_nq0 (Nat.ne_of_beq_eq_false rfl)
          have n52 : bu ≠ ez := hne k_bu k_ez (Nat.ne_of_beq_eq_false rfl)
          have h53 : f4 bu = some (.inr (0, [.ref bs, .ref bp, .ref bh, .ref bf, .ref bl, .ref bg, .int (nI n), .int (nI cg), .int (nI x)])) := k8.1 _ _ k_bu (Nat.ne_of_beq_eq_false rfl) (ninc n52 (ninc n51 (ninc n50 nin0)))
          have n54 : bs ≠ nr0 := hne k_bs k_nr0 (Nat.ne_of_beq_eq_false rfl)
          have n55 : bs ≠ nq0 := hneL k_bs k_nq0 (Nat.ne_of_beq_eq_false rfl)
          have n56 : bs ≠ ez := hne k_bs k_ez (Nat.ne_of_beq_eq_false rfl)
          have h57 : f4 bs = some (.inl (cI G, 61, .inl (nf sa))) := k8.1 _ _ k_bs (Nat.ne_of_beq_eq_false rfl) (ninc n56 (ninc n55 (ninc n54 nin0)))
          have n58 : bp ≠ nr0 := hne k_bp k_nr0 (Nat.ne_of_beq_eq_false rfl)
          have n59 : bp ≠ nq0 := hneL k_bp k_nq0 (Nat.ne_of_beq_eq_false rfl)
          have n60 : bp ≠ ez := hne k_bp k_ez (Nat.ne_of_beq_eq_false rfl)
          have h61 : f4 bp = some (.inl (cI G, 240, .inl (nf pk))) := k8.1 _ _ k_bp (Nat.ne_of_beq_eq_false rfl) (ninc n60 (ninc n59 (ninc n58 nin0)))
          have n62 : bh ≠ nr0 := hne k_bh k_nr0 (Nat.ne_of_beq_eq_false rfl)
          have n63 : bh ≠ nq0 := hneL k_bh k_nq0 (Nat.ne_of_beq_eq_false rfl)
          have n64 : bh ≠ ez := hne k_bh k_ez (Nat.ne_of_beq_eq_false rfl)
          have h65 : f4 bh = some (.inl (cZ G, 240, .inl gh)) := k8.1 _ _ k_bh (Nat.ne_of_beq_eq_false rfl) (ninc n64 (ninc n63 (ninc n62 nin0)))
          have n66 : bf ≠ nr0 := hne k_bf k_nr0 (Nat.ne_of_beq_eq_false rfl)
          have n67 : bf ≠ nq0 := hneL k_bf k_nq0 (Nat.ne_of_beq_eq_false rfl)
          have n68 : bf ≠ ez := hne k_bf k_ez (Nat.ne_of_beq_eq_false rfl)
          have h69 : f4 bf = some (.inl (cI G, 3, .inl (nf fl))) := k8.1 _ _ k_bf (Nat.ne_of_beq_eq_false rfl) (ninc n68 (ninc n67 (ninc n66 nin0)))
          have n70 : bl ≠ nr0 := hne k_bl k_nr0 (Nat.ne_of_beq_eq_false rfl)
          have n71 : bl ≠ nq0 := hneL k_bl k_nq0 (Nat.ne_of_beq_eq_false rfl)
          have n72 : bl ≠ ez := hne k_bl k_ez (Nat.ne_of_beq_eq_false rfl)
          have h73 : f4 bl = some (.inl (cI G, 3, .inl gl)) := k8.1 _ _ k_bl (Nat.ne_of_beq_eq_false rfl) (ninc n72 (ninc n71 (ninc n70 nin0)))
          have n74 : bg ≠ nr0 := hne k_bg k_nr0 (Nat.ne_of_beq_eq_false rfl)
          have n75 : bg ≠ nq0 := hneL k_bg k_nq0 (Nat.ne_of_beq_eq_false rfl)
          have n76 : bg ≠ ez := hne k_bg k_ez (Nat.ne_of_beq_eq_false rfl)
          have h77 : f4 bg = some (.inl (cI G, 60, .inl (nf gv))) := k8.1 _ _ k_bg (Nat.ne_of_beq_eq_false rfl) (ninc n76 (ninc n75 (ninc n74 nin0)))
          exact hp_iret (v := r5) B0 hw hS hr ⟨Nat.le_of_ble_eq_true rfl, Nat.le_of_ble_eq_true rfl⟩ dX4_close_27 (⟨⟨_, rfl⟩, ⟨h37, ⟨_, _, _, _, _, _, _, _, _, _, h19, h20, h21, h22, h23, h24⟩, ⟨_, _, _, _, _, _, _, _, _, _, h27, h30, h33, (fhd1.kp (show hKp [xo, ez, eo, bu, nw0, na0, nq0, nr0, nw1, na1, nq1, nr1, bs, bp, bh, bf, bl, bg] f f4 from (k8.mono (fun x9 hx9 => by simp only [List.mem_cons, List.not_mem_nil, or_false] at hx9; rcases hx9 with hx9 | hx9 | hx9 <;> (rw [hx9]; simp))))), (ftl1.kp (show hKp [xo, ez, eo, bu, nw0, na0, nq0, nr0, nw1, na1, nq1, nr1, bs, bp, bh, bf, bl, bg] f f4 from (k8.mono (fun x9 hx9 => by simp only [List.mem_cons, List.not_mem_nil, or_false] at hx9; rcases hx9 with hx9 | hx9 | hx9 <;> (rw [hx9]; simp))))), blp1⟩, h40, h43, h46, h49, h53, h57, h61, h65, h69, h73, h77, p7, hB9, hfl9, nd_ez_eo, nd_nr0_nr1, nd_nw0_na0, nd_nw0_nq0, nd_nw0_nw1, nd_nw0_na1, nd_nw0_nq1, nd_na0_nq0, nd_na0_nw1, nd_na0_na1, nd_na0_nq1, nd_nq0_nw1, nd_nq0_na1, nd_nq0_nq1, nd_nw1_na1, nd_nw1_nq1, nd_na1_nq1, nd_bh_bp, nd_bf_bl⟩, (show hKp [xo, ez, eo, bu, nw0, na0, nq0, nr0, nw1, na1, nq1, nr1, bs, bp, bh, bf, bl, bg] f f4 from (k8.mono (fun x9 hx9 => by simp only [List.mem_cons, List.not_mem_nil, or_false] at hx9; rcases hx9 with hx9 | hx9 | hx9 <;> (rw [hx9]; simp))))⟩)
      · exact hp_throw (cls := eS) (names := tNm) B0 hw hS hout tF_eS qC_X4_59 qN_java_lang_IllegalStateException sR_X4_68 tA_eS tB_eS tG_eS hl9.1 dX4_close_13 dX4_close_16 dX4_close_17 dX4_close_19 dX4_close_22 ⟨⟨Nat.le_of_ble_eq_true rfl, Nat.le_of_ble_eq_true rfl⟩, Nat.le_of_ble_eq_true rfl, Nat.le_of_ble_eq_true rfl⟩ ⟨Nat.le_of_ble_eq_true rfl, Nat.le_of_ble_eq_true rfl⟩ (⟨(Or.inr rfl), ⟨k_xo, ⟨_, _, _, _, _, _, _, _, _, _, k_ez, k_nq0, k_nr0, fhd0, ftl0, blp0⟩, ⟨_, _, _, _, _, _, _, _, _, _, k_eo, k_nq1, k_nr1, fhd1, ftl1, blp1⟩, k_nw0, k_na0, k_nw1, k_na1, k_bu, k_bs, k_bp, k_bh, k_bf, k_bl, k_bg, hPx, hB9, hfl9, nd_ez_eo, nd_nr0_nr1, nd_nw0_na0, nd_nw0_nq0, nd_nw0_nw1, nd_nw0_na1, nd_nw0_nq1, nd_na0_nq0, nd_na0_nw1, nd_na0_na1, nd_na0_nq1, nd_nq0_nw1, nd_nq0_na1, nd_nq0_nq1, nd_nw1_na1, nd_nw1_nq1, nd_na1_nq1, nd_bh_bp, nd_bf_bl⟩, hKp.rf⟩)
    · subst ev9
      refine W.eq (g2 := F0 m 5 ls [.ref eo]) rfl ?_
      refine lv_astore_n (lv' := [(2, .ref eo), (0, .ref xo), (1, .int i)]) hx hb dX4_close_5 rfl hl9 (by decide) rfl (fun ls hl9 => ?_)
      refine lv_aload_n hx hb dX4_close_6 rfl (lv_at hl9 0 rfl) ?_
      refine hp_getN B0 hw 1 rfl in_X1 k_eo 5 (by decide) oF_X4_55 rfl dX4_close_7 ?_
      refine lv_if_ne (tgt := 23) hx hb dX4_close_10 (by decide) (fun c78 => ?_) (fun c78 => ?_)
      · refine lv_aload_n hx hb dX4_close_23 rfl (lv_at hl9 0 rfl) ?_
        refine hp_V (ci := 1) (As := []) (rest := []) B0 hw hS (c_X1_finish hl G f eo nw1 na1 nq1 nr1 mg1 ⟨_, _, _, _, _, _, _, _, _, _, k_eo, k_nq1, k_nr1, fhd1, ftl1, blp1⟩ hPx ) mV_X1_finish qM_X4_70 rfl k_eo rfl rfl hl9.1 (Nat.le_of_ble_eq_true rfl) ⟨⟨Nat.le_of_ble_eq_true rfl, Nat.le_of_ble_eq_true rfl⟩, Nat.le_of_ble_eq_true rfl, Nat.le_of_ble_eq_true rfl⟩ dX4_close_24 (fun E ce q9 f79 H locs hPX hw hS hce hcv hcl => ?_) (fun v f79 H locs hP hw hS => ?_)
        · exact hPX.elim
        · obtain ⟨⟨r80, ev9⟩, h81, p82, k83⟩ := hP
          obtain ⟨st84, tm85, sr86, li87, lp88, mi89, cn90, gq91, hd92, tl93, h94, h95, h96, h97, h98, h99⟩ := h81
          subst ev9
          refine W.eq (g2 := F0 m 27 ls [.int r80]) rfl ?_
          have n100 : ez ≠ nr1 := hne k_ez k_nr1 (Nat.ne_of_beq_eq_false rfl)
          have n101 : ez ≠ nq1 := hne k_ez k_nq1 (Nat.ne_of_beq_eq_false rfl)
          have h102 : f79 ez = some (.inr (1, [.ref nw0, .ref na0, .ref nq0, .ref nr0, .int mg0, .int st0, .int tm0, .int sr0, .int li0, .int lp0, .int mi0])) := k83.1 _ _ k_ez (Nat.ne_of_beq_eq_false rfl) (ninc nd_ez_eo (ninc n101 (ninc n100 nin0)))
          have n103 : nq0 ≠ nr1 := hne k_nq0 k_nr1 (Nat.ne_of_beq_eq_false rfl)
          have n104 : nq0 ≠ eo := hne k_nq0 k_eo (Nat.ne_of_beq_eq_false rfl)
          have h105 : f79 nq0 = some (.inl (cI G, 6, .inl gq0)) := k83.1 _ _ k_nq0 (Nat.ne_of_beq_eq_false rfl) (ninc n104 (ninc nd_nq0_nq1 (ninc n103 nin0)))
          have n106 : nr0 ≠ nq1 := hne k_nr0 k_nq1 (Nat.ne_of_beq_eq_false rfl)
          have n107 : nr0 ≠ eo := hne k_nr0 k_eo (Nat.ne_of_beq_eq_false rfl)
          have h108 : f79 nr0 = some (.inr (3, [hd0, tl0, .int cn0])) := k83.1 _ _ k_nr0 (Nat.ne_of_beq_eq_false rfl) (ninc n107 (ninc n106 (ninc nd_nr0_nr1 nin0)))
          have n109 : xo ≠ nr1 := hne k_xo k_nr1 (Nat.ne_of_beq_eq_false rfl)
          have n110 : xo ≠ nq1 := hne k_xo k_nq1 (Nat.ne_of_beq_eq_false rfl)
          have n111 : xo ≠ eo := hne k_xo k_eo (Nat.ne_of_beq_eq_false rfl)
          have h112 : f79 xo = some (.inr (4, [.ref ez, .ref eo, .ref bu])) := k83.1 _ _ k_xo (Nat.ne_of_beq_eq_false rfl) (ninc n111 (ninc n110 (ninc n109 nin0)))
          have n113 : nw0 ≠ nr1 := hne k_nw0 k_nr1 (Nat.ne_of_beq_eq_false rfl)
          have n114 : nw0 ≠ eo := hne k_nw0 k_eo (Nat.ne_of_beq_eq_false rfl)
          have h115 : f79 nw0 = some (.inl (cI G, 6, .inl gw0)) := k83.1 _ _ k_nw0 (Nat.ne_of_beq_eq_false rfl) (ninc n114 (ninc nd_nw0_nq1 (ninc n113 nin0)))
          have n116 : na0 ≠ nr1 := hne k_na0 k_nr1 (Nat.ne_of_beq_eq_false rfl)
          have n117 : na0 ≠ eo := hne k_na0 k_eo (Nat.ne_of_beq_eq_false rfl)
          have h118 : f79 na0 = some (.inl (cI G, 6, .inl ga0)) := k83.1 _ _ k_na0 (Nat.ne_of_beq_eq_false rfl) (ninc n117 (ninc nd_na0_nq1 (ninc n116 nin0)))
          have n119 : nw1 ≠ nr1 := hne k_nw1 k_nr1 (Nat.ne_of_beq_eq_false rfl)
          have n120 : nw1 ≠ eo := hne k_nw1 k_eo (Nat.ne_of_beq_eq_false rfl)
          have h121 : f79 nw1 = some (.inl (cI G, 6, .inl gw1)) := k83.1 _ _ k_nw1 (Nat.ne_of_beq_eq_false rfl) (ninc n120 (ninc nd_nw1_nq1 (ninc n119 nin0)))
          have n122 : na1 ≠ nr1 := hne k_na1 k_nr1 (Nat.ne_of_beq_eq_false rfl)
          have n123 : na1 ≠ eo := hne k_na1 k_eo (Nat.ne_of_beq_eq_false rfl)
          have h124 : f79 na1 = some (.inl (cI G, 6, .inl ga1)) := k83.1 _ _ k_na1 (Nat.ne_of_beq_eq_false rfl) (ninc n123 (ninc nd_na1_nq1 (ninc n122 nin0)))
          have n125 : bu ≠ nr1 := hne k_bu k_nr1 (Nat.ne_of_beq_eq_false rfl)
          have n126 : bu ≠ nq1 := hne k_bu k_nq1 (Nat.ne_of_beq_eq_false rfl)
          have n127 : bu ≠ eo := hne k_bu k_eo (Nat.ne_of_beq_eq_false rfl)
          have h128 : f79 bu = some (.inr (0, [.ref bs, .ref bp, .ref bh, .ref bf, .ref bl, .ref bg, .int (nI n), .int (nI cg), .int (nI x)])) := k83.1 _ _ k_bu (Nat.ne_of_beq_eq_false rfl) (ninc n127 (ninc n126 (ninc n125 nin0)))
          have n129 : bs ≠ nr1 := hne k_bs k_nr1 (Nat.ne_of_beq_eq_false rfl)
          have n130 : bs ≠ nq1 := hneL k_bs k_nq1 (Nat.ne_of_beq_eq_false rfl)
          have n131 : bs ≠ eo := hne k_bs k_eo (Nat.ne_of_beq_eq_false rfl)
          have h132 : f79 bs = some (.inl (cI G, 61, .inl (nf sa))) := k83.1 _ _ k_bs (Nat.ne_of_beq_eq_false rfl) (ninc n131 (ninc n130 (ninc n129 nin0)))
          have n133 : bp ≠ nr1 := hne k_bp k_nr1 (Nat.ne_of_beq_eq_false rfl)
          have n134 : bp ≠ nq1 := hneL k_bp k_nq1 (Nat.ne_of_beq_eq_false rfl)
          have n135 : bp ≠ eo := hne k_bp k_eo (Nat.ne_of_beq_eq_false rfl)
          have h136 : f79 bp = some (.inl (cI G, 240, .inl (nf pk))) := k83.1 _ _ k_bp (Nat.ne_of_beq_eq_false rfl) (ninc n135 (ninc n134 (ninc n133 nin0)))
          have n137 : bh ≠ nr1 := hne k_bh k_nr1 (Nat.ne_of_beq_eq_false rfl)
          have n138 : bh ≠ nq1 := hneL k_bh k_nq1 (Nat.ne_of_beq_eq_false rfl)
          have n139 : bh ≠ eo := hne k_bh k_eo (Nat.ne_of_beq_eq_false rfl)
          have h140 : f79 bh = some (.inl (cZ G, 240, .inl gh)) := k83.1 _ _ k_bh (Nat.ne_of_beq_eq_false rfl) (ninc n139 (ninc n138 (ninc n137 nin0)))
          have n141 : bf ≠ nr1 := hne k_bf k_nr1 (Nat.ne_of_beq_eq_false rfl)
          have n142 : bf ≠ nq1 := hneL k_bf k_nq1 (Nat.ne_of_beq_eq_false rfl)
          have n143 : bf ≠ eo := hne k_bf k_eo (Nat.ne_of_beq_eq_false rfl)
          have h144 : f79 bf = some (.inl (cI G, 3, .inl (nf fl))) := k83.1 _ _ k_bf (Nat.ne_of_beq_eq_false rfl) (ninc n143 (ninc n142 (ninc n141 nin0)))
          have n145 : bl ≠ nr1 := hne k_bl k_nr1 (Nat.ne_of_beq_eq_false rfl)
          have n146 : bl ≠ nq1 := hneL k_bl k_nq1 (Nat.ne_of_beq_eq_false rfl)
          have n147 : bl ≠ eo := hne k_bl k_eo (Nat.ne_of_beq_eq_false rfl)
          have h148 : f79 bl = some (.inl (cI G, 3, .inl gl)) := k83.1 _ _ k_bl (Nat.ne_of_beq_eq_false rfl) (ninc n147 (ninc n146 (ninc n145 nin0)))
          have n149 : bg ≠ nr1 := hne k_bg k_nr1 (Nat.ne_of_beq_eq_false rfl)
          have n150 : bg ≠ nq1 := hneL k_bg k_nq1 (Nat.ne_of_beq_eq_false rfl)
          have n151 : bg ≠ eo := hne k_bg k_eo (Nat.ne_of_beq_eq_false rfl)
          have h152 : f79 bg = some (.inl (cI G, 60, .inl (nf gv))) := k83.1 _ _ k_bg (Nat.ne_of_beq_eq_false rfl) (ninc n151 (ninc n150 (ninc n149 nin0)))
          exact hp_iret (v := r80) B0 hw hS hr ⟨Nat.le_of_ble_eq_true rfl, Nat.le_of_ble_eq_true rfl⟩ dX4_close_27 (⟨⟨_, rfl⟩, ⟨h112, ⟨_, _, _, _, _, _, _, _, _, _, h102, h105, h108, (fhd0.kp (show hKp [xo, ez, eo, bu, nw0, na0, nq0, nr0, nw1, na1, nq1, nr1, bs, bp, bh, bf, bl, bg] f f79 from (k83.mono (fun x9 hx9 => by simp only [List.mem_cons, List.not_mem_nil, or_false] at hx9; rcases hx9 with hx9 | hx9 | hx9 <;> (rw [hx9]; simp))))), (ftl0.kp (show hKp [xo, ez, eo, bu, nw0, na0, nq0, nr0, nw1, na1, nq1, nr1, bs, bp, bh, bf, bl, bg] f f79 from (k83.mono (fun x9 hx9 => by simp only [List.mem_cons, List.not_mem_nil, or_false] at hx9; rcases hx9 with hx9 | hx9 | hx9 <;> (rw [hx9]; simp))))), blp0⟩, ⟨_, _, _, _, _, _, _, _, _, _, h94, h95, h96, h97, h98, h99⟩, h115, h118, h121, h124, h128, h132, h136, h140, h144, h148, h152, p82, hB9, hfl9, nd_ez_eo, nd_nr0_nr1, nd_nw0_na0, nd_nw0_nq0, nd_nw0_nw1, nd_nw0_na1, nd_nw0_nq1, nd_na0_nq0, nd_na0_nw1, nd_na0_na1, nd_na0_nq1, nd_nq0_nw1, nd_nq0_na1, nd_nq0_nq1, nd_nw1_na1, nd_nw1_nq1, nd_na1_nq1, nd_bh_bp, nd_bf_bl⟩, (show hKp [xo, ez, eo, bu, nw0, na0, nq0, nr0, nw1, na1, nq1, nr1, bs, bp, bh, bf, bl, bg] f f79 from (k83.mono (fun x9 hx9 => by simp only [List.mem_cons, List.not_mem_nil, or_false] at hx9; rcases hx9 with hx9 | hx9 | hx9 <;> (rw [hx9]; simp))))⟩)
      · exact hp_throw (cls := eS) (names := tNm) B0 hw hS hout tF_eS qC_X4_59 qN_java_lang_IllegalStateException sR_X4_68 tA_eS tB_eS tG_eS hl9.1 dX4_close_13 dX4_close_16 dX4_close_17 dX4_close_19 dX4_close_22 ⟨⟨Nat.le_of_ble_eq_true rfl, Nat.le_of_ble_eq_true rfl⟩, Nat.le_of_ble_eq_true rfl, Nat.le_of_ble_eq_true rfl⟩ ⟨Nat.le_of_ble_eq_true rfl, Nat.le_of_ble_eq_true rfl⟩ (⟨(Or.inr rfl), ⟨k_xo, ⟨_, _, _, _, _, _, _, _, _, _, k_ez, k_nq0, k_nr0, fhd0, ftl0, blp0⟩, ⟨_, _, _, _, _, _, _, _, _, _, k_eo, k_nq1, k_nr1, fhd1, ftl1, blp1⟩, k_nw0, k_na0, k_nw1, k_na1, k_bu, k_bs, k_bp, k_bh, k_bf, k_bl, k_bg, hPx, hB9, hfl9, nd_ez_eo, nd_nr0_nr1, nd_nw0_na0, nd_nw0_nq0, nd_nw0_nw1, nd_nw0_na1, nd_nw0_nq1, nd_na0_nq0, nd_na0_nw1, nd_na0_na1, nd_na0_nq1, nd_nq0_nw1, nd_nq0_na1, nd_nq0_nq1, nd_nw1_na1, nd_nw1_nq1, nd_na1_nq1, nd_bh_bp, nd_bf_bl⟩, hKp.rf⟩)

set_option maxHeartbeats 4000000 in
set_option maxRecDepth 100000 in
theorem c_W4_deliver {l : Launch} (hl : l.stackTraces = false) (G : hG) (f : hM) (xo ez eo bu nw0 na0 nq0 nr0 nw1 na1 nq1 nr1 bs bp bh bf bl bg : Nat) (gw0 : Nat → Int32) (ga0 : Nat → Int32) (gw1 : Nat → Int32) (ga1 : Nat → Int32) (mg0 : Int32) (mg1 : Int32) (n : Nat) (a : Nat) (cg : Nat) (x : Nat) (sa : Nat → Nat) (pk : Nat → Nat) (fl : Nat → Nat) (gv : Nat → Nat) (gh : Nat → Int32) (gl : Nat → Int32) (hC : CW G f xo ez eo bu nw0 na0 nq0 nr0 nw1 na1 nq1 nr1 bs bp bh bf bl bg gw0 ga0 gw1 ga1 mg0 mg1 n a cg x sa pk fl gv gh gl) (i : Int32) : CT l yX4_deliver (.code yX4_deliver cX4_deliver 3 (some .int)) 7 132 7 40 G [.ref xo, .int i] f (fun v f1 => (∃ r9 : Int32, v = some (.int r9)) ∧ CW G f1 xo ez eo bu nw0 na0 nq0 nr0 nw1 na1 nq1 nr1 bs bp bh bf bl bg gw0 ga0 gw1 ga1 mg0 mg1 n a cg x sa pk fl gv gh gl ∧ hKp [xo, ez, eo, bu, nw0, na0, nq0, nr0, nw1, na1, nq1, nr1, bs, bp, bh, bf, bl, bg] f f1) (fun E f1 => (E = eI ∨ E = eS) ∧ CW G f1 xo ez eo bu nw0 na0 nq0 nr0 nw1 na1 nq1 nr1 bs bp bh bf bl bg gw0 ga0 gw1 ga1 mg0 mg1 n a cg x sa pk fl gv gh gl ∧ hKp [xo, ez, eo, bu, nw0, na0, nq0, nr0, nw1, na1, nq1, nr1, bs, bp, bh, bf, bl, bg] f f1) := by
  refine hp_start hl (own := RX4) (by decide) rfl (Nat.le_of_ble_eq_true rfl) ?_
  intro p e s m args below meth c B0 hr hnm hout hw hS ls hl9
  have hx := B0.1
  have hb := B0.2.1
  have hl9 : lv_has ls 3 [(0, .ref xo), (1, .int i)] := hl9
  obtain ⟨k_xo, ⟨st0, tm0, sr0, li0, lp0, mi0, cn0, gq0, hd0, tl0, k_ez, k_nq0, k_nr0, fhd0, ftl0, blp0⟩, ⟨st1, tm1, sr1, li1, lp1, mi1, cn1, gq1, hd1, tl1, k_eo, k_nq1, k_nr1, fhd1, ftl1, blp1⟩, k_nw0, k_na0, k_nw1, k_na1, k_bu, k_bs, k_bp, k_bh, k_bf, k_bl, k_bg, hPx, hB9, hfl9, nd_ez_eo, nd_nr0_nr1, nd_nw0_na0, nd_nw0_nq0, nd_nw0_nw1, nd_nw0_na1, nd_nw0_nq1, nd_na0_nq0, nd_na0_nw1, nd_na0_na1, nd_na0_nq1, nd_nq0_nw1, nd_nq0_na1, nd_nq0_nq1, nd_nw1_na1, nd_nw1_nq1, nd_na1_nq1, nd_bh_bp, nd_bf_bl⟩ := id hC
  refine lv_aload_n hx hb dX4_deliver_0 rfl (lv_at hl9 0 rfl) ?_
  refine lv_iload_n hx hb dX4_deliver_1 rfl (lv_at hl9 1 rfl) ?_
  refine hp_V (ci := 4) (As := [.int i]) (rest := []) B0 hw hS (c_X4_endAt hl G f xo ez eo bu k_xo i) mV_X4_endAt qM_X4_28 rfl k_xo rfl rfl hl9.1 (Nat.le_of_ble_eq_true rfl) ⟨⟨Nat.le_of_ble_eq_true rfl, Nat.le_of_ble_eq_true rfl⟩, Nat.le_of_ble_eq_true rfl, Nat.le_of_ble_eq_true rfl⟩ dX4_deliver_2 (fun E ce q9 f1 H locs hPX hw hS hce hcv hcl => ?_) (fun v f1 H locs hP hw hS => ?_)
  · obtain ⟨ef9, eE9, hE9⟩ := hPX
    rw [ef9] at hw
    subst eE9
    exact hp_out B0 hw hS hout hce hcv hcl ⟨Nat.le_of_ble_eq_true rfl, Nat.le_of_ble_eq_true rfl⟩ (⟨(Or.inl rfl), ⟨k_xo, ⟨_, _, _, _, _, _, _, _, _, _, k_ez, k_nq0, k_nr0, fhd0, ftl0, blp0⟩, ⟨_, _, _, _, _, _, _, _, _, _, k_eo, k_nq1, k_nr1, fhd1, ftl1, blp1⟩, k_nw0, k_na0, k_nw1, k_na1, k_bu, k_bs, k_bp, k_bh, k_bf, k_bl, k_bg, hPx, hB9, hfl9, nd_ez_eo, nd_nr0_nr1, nd_nw0_na0, nd_nw0_nq0, nd_nw0_nw1, nd_nw0_na1, nd_nw0_nq1, nd_na0_nq0, nd_na0_nw1, nd_na0_na1, nd_na0_nq1, nd_nq0_nw1, nd_nq0_na1, nd_nq0_nq1, nd_nw1_na1, nd_nw1_nq1, nd_na1_nq1, nd_bh_bp, nd_bf_bl⟩, hKp.rf⟩)
  · obtain ⟨ef9, hv9⟩ := hP
    rw [ef9] at hw
    rcases hv9 with ⟨k2, ev9⟩ | ⟨k2, ev9⟩
    · subst ev9
      refine W.eq (g2 := F0 m 5 ls [.ref ez]) rfl ?_
      refine hp_S (As := [.ref ez]) (rest := []) B0 hw hS (c_X4_takeFrame hl G f ez nw0 na0 nq0 nr0 mg0 ⟨_, _, _, _, _, _, _, _, _, _, k_ez, k_nq0, k_nr0, fhd0, ftl0, blp0⟩ hPx) mS_X4_takeFrame qM_X4_73 rfl rfl hl9.1 (Nat.le_of_ble_eq_true rfl) ⟨⟨Nat.le_of_ble_eq_true rfl, Nat.le_of_ble_eq_true rfl⟩, Nat.le_of_ble_eq_true rfl, Nat.le_of_ble_eq_true rfl⟩ dX4_deliver_5 (fun E ce q9 f3 H locs hPX hw hS hce hcv hcl => ?_) (fun v f3 H locs hP hw hS => ?_)
      · have hP := hPX
        obtain ⟨eE9, h4, p5, k6⟩ := hP
        obtain ⟨st7, tm8, sr9, li10, lp11, mi12, cn13, gq14, hd15, tl16, h17, h18, h19, h20, h21, h22⟩ := h4
        subst eE9
        have n23 : eo ≠ nr0 := hne k_eo k_nr0 (Nat.ne_of_beq_eq_false rfl)
        have n24 : eo ≠ nq0 := hne k_eo k_nq0 (Nat.ne_of_beq_eq_false rfl)
        have h25 : f3 eo = some (.inr (1, [.ref nw1, .ref na1, .ref nq1, .ref nr1, .int mg1, .int st1, .int tm1, .int sr1, .int li1, .int lp1, .int mi1])) := k6.1 _ _ k_eo (Nat.ne_of_beq_eq_false rfl) (ninc (Ne.symm nd_ez_eo) (ninc n24 (ninc n23 nin0)))
        have n26 : nq1 ≠ nr0 := hne k_nq1 k_nr0 (Nat.ne_of_beq_eq_false rfl)
        have n27 : nq1 ≠ ez := hne k_nq1 k_ez (Nat.ne_of_beq_eq_false rfl)
        have h28 : f3 nq1 = some (.inl (cI G, 6, .inl gq1)) := k6.1 _ _ k_nq1 (Nat.ne_of_beq_eq_false rfl) (ninc n27 (ninc (Ne.symm nd_nq0_nq1) (ninc n26 nin0)))
        have n29 : nr1 ≠ nq0 := hne k_nr1 k_nq0 (Nat.ne_of_beq_eq_false rfl)
        have n30 : nr1 ≠ ez := hne k_nr1 k_ez (Nat.ne_of_beq_eq_false rfl)
        have h31 : f3 nr1 = some (.inr (3, [hd1, tl1, .int cn1])) := k6.1 _ _ k_nr1 (Nat.ne_of_beq_eq_false rfl) (ninc n30 (ninc n29 (ninc (Ne.symm nd_nr0_nr1) nin0)))
        have n32 : xo ≠ nr0 := hne k_xo k_nr0 (Nat.ne_of_beq_eq_false rfl)
        have n33 : xo ≠ nq0 := hne k_xo k_nq0 (Nat.ne_of_beq_eq_false rfl)
        have n34 : xo ≠ ez := hne k_xo k_ez (Nat.ne_of_beq_eq_false rfl)
        have h35 : f3 xo = some (.inr (4, [.ref ez, .ref eo, .ref bu])) := k6.1 _ _ k_xo (Nat.ne_of_beq_eq_false rfl) (ninc n34 (ninc n33 (ninc n32 nin0)))
        have n36 : nw0 ≠ nr0 := hne k_nw0 k_nr0 (Nat.ne_of_beq_eq_false rfl)
        have n37 : nw0 ≠ ez := hne k_nw0 k_ez (Nat.ne_of_beq_eq_false rfl)
        have h38 : f3 nw0 = some (.inl (cI G, 6, .inl gw0)) := k6.1 _ _ k_nw0 (Nat.ne_of_beq_eq_false rfl) (ninc n37 (ninc nd_nw0_nq0 (ninc n36 nin0)))
        have n39 : na0 ≠ nr0 := hne k_na0 k_nr0 (Nat.ne_of_beq_eq_false rfl)
        have n40 : na0 ≠ ez := hne k_na0 k_ez (Nat.ne_of_beq_eq_false rfl)
        have h41 : f3 na0 = some (.inl (cI G, 6, .inl ga0)) := k6.1 _ _ k_na0 (Nat.ne_of_beq_eq_false rfl) (ninc n40 (ninc nd_na0_nq0 (ninc n39 nin0)))
        have n42 : nw1 ≠ nr0 := hne k_nw1 k_nr0 (Nat.ne_of_beq_eq_false rfl)
        have n43 : nw1 ≠ ez := hne k_nw1 k_ez (Nat.ne_of_beq_eq_false rfl)
        have h44 : f3 nw1 = some (.inl (cI G, 6, .inl gw1)) := k6.1 _ _ k_nw1 (Nat.ne_of_beq_eq_false rfl) (ninc n43 (ninc (Ne.symm nd_nq0_nw1) (ninc n42 nin0)))
        have n45 : na1 ≠ nr0 := hne k_na1 k_nr0 (Nat.ne_of_beq_eq_false rfl)
        have n46 : na1 ≠ ez := hne k_na1 k_ez (Nat.ne_of_beq_eq_false rfl)
        have h47 : f3 na1 = some (.inl (cI G, 6, .inl ga1)) := k6.1 _ _ k_na1 (Nat.ne_of_beq_eq_false rfl) (ninc n46 (ninc (Ne.symm nd_nq0_na1) (ninc n45 nin0)))
        have n48 : bu ≠ nr0 := hne k_bu k_nr0 (Nat.ne_of_beq_eq_false rfl)
        have n49 : bu ≠ nq0 := hne k_bu k_nq0 (Nat.ne_of_beq_eq_false rfl)
        have n50 : bu ≠ ez := hne k_bu k_ez (Nat.ne_of_beq_eq_false rfl)
        have h51 : f3 bu = some (.inr (0, [.ref bs, .ref bp, .ref bh, .ref bf, .ref bl, .ref bg, .int (nI n), .int (nI cg), .int (nI x)])) := k6.1 _ _ k_bu (Nat.ne_of_beq_eq_false rfl) (ninc n50 (ninc n49 (ninc n48 nin0)))
        have n52 : bs ≠ nr0 := hne k_bs k_nr0 (Nat.ne_of_beq_eq_false rfl)
        have n53 : bs ≠ nq0 := hneL k_bs k_nq0 (Nat.ne_of_beq_eq_false rfl)
        have n54 : bs ≠ ez := hne k_bs k_ez (Nat.ne_of_beq_eq_false rfl)
        have h55 : f3 bs = some (.inl (cI G, 61, .inl (nf sa))) := k6.1 _ _ k_bs (Nat.ne_of_beq_eq_false rfl) (ninc n54 (ninc n53 (ninc n52 nin0)))
        have n56 : bp ≠ nr0 := hne k_bp k_nr0 (Nat.ne_of_beq_eq_false rfl)
        have n57 : bp ≠ nq0 := hneL k_bp k_nq0 (Nat.ne_of_beq_eq_false rfl)
        have n58 : bp ≠ ez := hne k_bp k_ez (Nat.ne_of_beq_eq_false rfl)
        have h59 : f3 bp = some (.inl (cI G, 240, .inl (nf pk))) := k6.1 _ _ k_bp (Nat.ne_of_beq_eq_false rfl) (ninc n58 (ninc n57 (ninc n56 nin0)))
        have n60 : bh ≠ nr0 := hne k_bh k_nr0 (Nat.ne_of_beq_eq_false rfl)
        have n61 : bh ≠ nq0 := hneL k_bh k_nq0 (Nat.ne_of_beq_eq_false rfl)
        have n62 : bh ≠ ez := hne k_bh k_ez (Nat.ne_of_beq_eq_false rfl)
        have h63 : f3 bh = some (.inl (cZ G, 240, .inl gh)) := k6.1 _ _ k_bh (Nat.ne_of_beq_eq_false rfl) (ninc n62 (ninc n61 (ninc n60 nin0)))
        have n64 : bf ≠ nr0 := hne k_bf k_nr0 (Nat.ne_of_beq_eq_false rfl)
        have n65 : bf ≠ nq0 := hneL k_bf k_nq0 (Nat.ne_of_beq_eq_false rfl)
        have n66 : bf ≠ ez := hne k_bf k_ez (Nat.ne_of_beq_eq_false rfl)
        have h67 : f3 bf = some (.inl (cI G, 3, .inl (nf fl))) := k6.1 _ _ k_bf (Nat.ne_of_beq_eq_false rfl) (ninc n66 (ninc n65 (ninc n64 nin0)))
        have n68 : bl ≠ nr0 := hne k_bl k_nr0 (Nat.ne_of_beq_eq_false rfl)
        have n69 : bl ≠ nq0 := hneL k_bl k_nq0 (Nat.ne_of_beq_eq_false rfl)
        have n70 : bl ≠ ez := hne k_bl k_ez (Nat.ne_of_beq_eq_false rfl)
        have h71 : f3 bl = some (.inl (cI G, 3, .inl gl)) := k6.1 _ _ k_bl (Nat.ne_of_beq_eq_false rfl) (ninc n70 (ninc n69 (ninc n68 nin0)))
        have n72 : bg ≠ nr0 := hne k_bg k_nr0 (Nat.ne_of_beq_eq_false rfl)
        have n73 : bg ≠ nq0 := hneL k_bg k_nq0 (Nat.ne_of_beq_eq_false rfl)
        have n74 : bg ≠ ez := hne k_bg k_ez (Nat.ne_of_beq_eq_false rfl)
        have h75 : f3 bg = some (.inl (cI G, 60, .inl (nf gv))) := k6.1 _ _ k_bg (Nat.ne_of_beq_eq_false rfl) (ninc n74 (ninc n73 (ninc n72 nin0)))
        exact hp_out B0 hw hS hout hce hcv hcl ⟨Nat.le_of_ble_eq_true rfl, Nat.le_of_ble_eq_true rfl⟩ (⟨(Or.inr rfl), ⟨h35, ⟨_, _, _, _, _, _, _, _, _, _, h17, h18, h19, h20, h21, h22⟩, ⟨_, _, _, _, _, _, _, _, _, _, h25, h28, h31, (fhd1.kp (show hKp [xo, ez, eo, bu, nw0, na0, nq0, nr0, nw1, na1, nq1, nr1, bs, bp, bh, bf, bl, bg] f f3 from (k6.mono (fun x9 hx9 => by simp only [List.mem_cons, List.not_mem_nil, or_false] at hx9; rcases hx9 with hx9 | hx9 | hx9 <;> (rw [hx9]; simp))))), (ftl1.kp (show hKp [xo, ez, eo, bu, nw0, na0, nq0, nr0, nw1, na1, nq1, nr1, bs, bp, bh, bf, bl, bg] f f3 from (k6.mono (fun x9 hx9 => by simp only [List.mem_cons, List.not_mem_nil, or_false] at hx9; rcases hx9 with hx9 | hx9 | hx9 <;> (rw [hx9]; simp))))), blp1⟩, h38, h41, h44, h47, h51, h55, h59, h63, h67, h71, h75, p5, hB9, hfl9, nd_ez_eo, nd_nr0_nr1, nd_nw0_na0, nd_nw0_nq0, nd_nw0_nw1, nd_nw0_na1, nd_nw0_nq1, nd_na0_nq0, nd_na0_nw1, nd_na0_na1, nd_na0_nq1, nd_nq0_nw1, nd_nq0_na1, nd_nq0_nq1, nd_nw1_na1, nd_nw1_nq1, nd_na1_nq1, nd_bh_bp, nd_bf_bl⟩, (show hKp [xo, ez, eo, bu, nw0, na0, nq0, nr0, nw1, na1, nq1, nr1, bs, bp, bh, bf, bl, bg] f f3 from (k6.mono (fun x9 hx9 => by simp only [List.mem_cons, List.not_mem_nil, or_false] at hx9; rcases hx9 with hx9 | hx9 | hx9 <;> (rw [hx9]; simp))))⟩)
      · obtain ⟨⟨t76, k77, ev9, h78⟩, h79, p80, k81⟩ := hP
        obtain ⟨st82, tm83, sr84, li85, lp86, mi87, cn88, gq89, hd90, tl91, h92, h93, h94, h95, h96, h97⟩ := h79
        subst ev9
        refine W.eq (g2 := F0 m 8 ls [.ref t76]) rfl ?_
        refine lv_astore_n (lv' := [(2, .ref t76), (0, .ref xo), (1, .int i)]) hx hb dX4_deliver_8 rfl hl9 (by decide) rfl (fun ls hl9 => ?_)
        refine lv_aload_n hx hb dX4_deliver_9 rfl (lv_at hl9 1 rfl) ?_
        refine lv_iconst (v := 1) hx hb dX4_deliver_10 (by decide) ?_
        refine lv_iload_n hx hb dX4_deliver_11 rfl (lv_at hl9 2 rfl) ?_
        refine lv_isub hx hb dX4_deliver_12 ?_
        refine hp_c (v := 1) (by rw [k2]; rfl) ?_
        have n98 : xo ≠ nr0 := hne k_xo k_nr0 (Nat.ne_of_beq_eq_false rfl)
        have n99 : xo ≠ nq0 := hne k_xo k_nq0 (Nat.ne_of_beq_eq_false rfl)
        have n100 : xo ≠ ez := hne k_xo k_ez (Nat.ne_of_beq_eq_false rfl)
        have h101 : f3 xo = some (.inr (4, [.ref ez, .ref eo, .ref bu])) := k81.1 _ _ k_xo (Nat.ne_of_beq_eq_false rfl) (ninc n100 (ninc n99 (ninc n98 nin0)))
        refine hp_V (ci := 4) (As := [.int 1]) (rest := []) B0 hw hS (c_X4_endAt hl G f3 xo ez eo bu h101 1) mV_X4_endAt qM_X4_28 rfl h101 rfl rfl hl9.1 (Nat.le_of_ble_eq_true rfl) ⟨⟨Nat.le_of_ble_eq_true rfl, Nat.le_of_ble_eq_true rfl⟩, Nat.le_of_ble_eq_true rfl, Nat.le_of_ble_eq_true rfl⟩ dX4_deliver_13 (fun E ce q9 f102 H locs hPX hw hS hce hcv hcl => ?_) (fun v f102 H locs hP hw hS => ?_)
        · obtain ⟨ef9, eE9, hE9⟩ := hPX
          rw [ef9] at hw
          subst eE9
          have n103 : eo ≠ nr0 := hne k_eo k_nr0 (Nat.ne_of_beq_eq_false rfl)
          have n104 : eo ≠ nq0 := hne k_eo k_nq0 (Nat.ne_of_beq_eq_false rfl)
          have h105 : f3 eo = some (.inr (1, [.ref nw1, .ref na1, .ref nq1, .ref nr1, .int mg1, .int st1, .int tm1, .int sr1, .int li1, .int lp1, .int mi1])) := k81.1 _ _ k_eo (Nat.ne_of_beq_eq_false rfl) (ninc (Ne.symm nd_ez_eo) (ninc n104 (ninc n103 nin0)))
          have n106 : nq1 ≠ nr0 := hne k_nq1 k_nr0 (Nat.ne_of_beq_eq_false rfl)
          have n107 : nq1 ≠ ez := hne k_nq1 k_ez (Nat.ne_of_beq_eq_false rfl)
          have h108 : f3 nq1 = some (.inl (cI G, 6, .inl gq1)) := k81.1 _ _ k_nq1 (Nat.ne_of_beq_eq_false rfl) (ninc n107 (ninc (Ne.symm nd_nq0_nq1) (ninc n106 nin0)))
          have n109 : nr1 ≠ nq0 := hne k_nr1 k_nq0 (Nat.ne_of_beq_eq_false rfl)
          have n110 : nr1 ≠ ez := hne k_nr1 k_ez (Nat.ne_of_beq_eq_false rfl)
          have h111 : f3 nr1 = some (.inr (3, [hd1, tl1, .int cn1])) := k81.1 _ _ k_nr1 (Nat.ne_of_beq_eq_false rfl) (ninc n110 (ninc n109 (ninc (Ne.symm nd_nr0_nr1) nin0)))
          have n112 : nw0 ≠ nr0 := hne k_nw0 k_nr0 (Nat.ne_of_beq_eq_false rfl)
          have n113 : nw0 ≠ ez := hne k_nw0 k_ez (Nat.ne_of_beq_eq_false rfl)
          have h114 : f3 nw0 = some (.inl (cI G, 6, .inl gw0)) := k81.1 _ _ k_nw0 (Nat.ne_of_beq_eq_false rfl) (ninc n113 (ninc nd_nw0_nq0 (ninc n112 nin0)))
          have n115 : na0 ≠ nr0 := hne k_na0 k_nr0 (Nat.ne_of_beq_eq_false rfl)
          have n116 : na0 ≠ ez := hne k_na0 k_ez (Nat.ne_of_beq_eq_false rfl)
          have h117 : f3 na0 = some (.inl (cI G, 6, .inl ga0)) := k81.1 _ _ k_na0 (Nat.ne_of_beq_eq_false rfl) (ninc n116 (ninc nd_na0_nq0 (ninc n115 nin0)))
          have n118 : nw1 ≠ nr0 := hne k_nw1 k_nr0 (Nat.ne_of_beq_eq_false rfl)
          have n119 : nw1 ≠ ez := hne k_nw1 k_ez (Nat.ne_of_beq_eq_false rfl)
          have h120 : f3 nw1 = some (.inl (cI G, 6, .inl gw1)) := k81.1 _ _ k_nw1 (Nat.ne_of_beq_eq_false rfl) (ninc n119 (ninc (Ne.symm nd_nq0_nw1) (ninc n118 nin0)))
          have n121 : na1 ≠ nr0 := hne k_na1 k_nr0 (Nat.ne_of_beq_eq_false rfl)
          have n122 : na1 ≠ ez := hne k_na1 k_ez (Nat.ne_of_beq_eq_false rfl)
          have h123 : f3 na1 = some (.inl (cI G, 6, .inl ga1)) := k81.1 _ _ k_na1 (Nat.ne_of_beq_eq_false rfl) (ninc n122 (ninc (Ne.symm nd_nq0_na1) (ninc n121 nin0)))
          have n124 : bu ≠ nr0 := hne k_bu k_nr0 (Nat.ne_of_beq_eq_false rfl)
          have n125 : bu ≠ nq0 := hne k_bu k_nq0 (Nat.ne_of_beq_eq_false rfl)
          have n126 : bu ≠ ez := hne k_bu k_ez (Nat.ne_of_beq_eq_false rfl)
          have h127 : f3 bu = some (.inr (0, [.ref bs, .ref bp, .ref bh, .ref bf, .ref bl, .ref bg, .int (nI n), .int (nI cg), .int (nI x)])) := k81.1 _ _ k_bu (Nat.ne_of_beq_eq_false rfl) (ninc n126 (ninc n125 (ninc n124 nin0)))
          have n128 : bs ≠ nr0 := hne k_bs k_nr0 (Nat.ne_of_beq_eq_false rfl)
          have n129 : bs ≠ nq0 := hneL k_bs k_nq0 (Nat.ne_of_beq_eq_false rfl)
          have n130 : bs ≠ ez := hne k_bs k_ez (Nat.ne_of_beq_eq_false rfl)
          have h131 : f3 bs = some (.inl (cI G, 61, .inl (nf sa))) := k81.1 _ _ k_bs (Nat.ne_of_beq_eq_false rfl) (ninc n130 (ninc n129 (ninc n128 nin0)))
          have n132 : bp ≠ nr0 := hne k_bp k_nr0 (Nat.ne_of_beq_eq_false rfl)
          have n133 : bp ≠ nq0 := hneL k_bp k_nq0 (Nat.ne_of_beq_eq_false rfl)
          have n134 : bp ≠ ez := hne k_bp k_ez (Nat.ne_of_beq_eq_false rfl)
          have h135 : f3 bp = some (.inl (cI G, 240, .inl (nf pk))) := k81.1 _ _ k_bp (Nat.ne_of_beq_eq_false rfl) (ninc n134 (ninc n133 (ninc n132 nin0)))
          have n136 : bh ≠ nr0 := hne k_bh k_nr0 (Nat.ne_of_beq_eq_false rfl)
          have n137 : bh ≠ nq0 := hneL k_bh k_nq0 (Nat.ne_of_beq_eq_false rfl)
          have n138 : bh ≠ ez := hne k_bh k_ez (Nat.ne_of_beq_eq_false rfl)
          have h139 : f3 bh = some (.inl (cZ G, 240, .inl gh)) := k81.1 _ _ k_bh (Nat.ne_of_beq_eq_false rfl) (ninc n138 (ninc n137 (ninc n136 nin0)))
          have n140 : bf ≠ nr0 := hne k_bf k_nr0 (Nat.ne_of_beq_eq_false rfl)
          have n141 : bf ≠ nq0 := hneL k_bf k_nq0 (Nat.ne_of_beq_eq_false rfl)
          have n142 : bf ≠ ez := hne k_bf k_ez (Nat.ne_of_beq_eq_false rfl)
          have h143 : f3 bf = some (.inl (cI G, 3, .inl (nf fl))) := k81.1 _ _ k_bf (Nat.ne_of_beq_eq_false rfl) (ninc n142 (ninc n141 (ninc n140 nin0)))
          have n144 : bl ≠ nr0 := hne k_bl k_nr0 (Nat.ne_of_beq_eq_false rfl)
          have n145 : bl ≠ nq0 := hneL k_bl k_nq0 (Nat.ne_of_beq_eq_false rfl)
          have n146 : bl ≠ ez := hne k_bl k_ez (Nat.ne_of_beq_eq_false rfl)
          have h147 : f3 bl = some (.inl (cI G, 3, .inl gl)) := k81.1 _ _ k_bl (Nat.ne_of_beq_eq_false rfl) (ninc n146 (ninc n145 (ninc n144 nin0)))
          have n148 : bg ≠ nr0 := hne k_bg k_nr0 (Nat.ne_of_beq_eq_false rfl)
          have n149 : bg ≠ nq0 := hneL k_bg k_nq0 (Nat.ne_of_beq_eq_false rfl)
          have n150 : bg ≠ ez := hne k_bg k_ez (Nat.ne_of_beq_eq_false rfl)
          have h151 : f3 bg = some (.inl (cI G, 60, .inl (nf gv))) := k81.1 _ _ k_bg (Nat.ne_of_beq_eq_false rfl) (ninc n150 (ninc n149 (ninc n148 nin0)))
          exact hp_out B0 hw hS hout hce hcv hcl ⟨Nat.le_of_ble_eq_true rfl, Nat.le_of_ble_eq_true rfl⟩ (⟨(Or.inl rfl), ⟨h101, ⟨_, _, _, _, _, _, _, _, _, _, h92, h93, h94, h95, h96, h97⟩, ⟨_, _, _, _, _, _, _, _, _, _, h105, h108, h111, (fhd1.kp (show hKp [xo, ez, eo, bu, nw0, na0, nq0, nr0, nw1, na1, nq1, nr1, bs, bp, bh, bf, bl, bg] f f3 from (k81.mono (fun x9 hx9 => by simp only [List.mem_cons, List.not_mem_nil, or_false] at hx9; rcases hx9 with hx9 | hx9 | hx9 <;> (rw [hx9]; simp))))), (ftl1.kp (show hKp [xo, ez, eo, bu, nw0, na0, nq0, nr0, nw1, na1, nq1, nr1, bs, bp, bh, bf, bl, bg] f f3 from (k81.mono (fun x9 hx9 => by simp only [List.mem_cons, List.not_mem_nil, or_false] at hx9; rcases hx9 with hx9 | hx9 | hx9 <;> (rw [hx9]; simp))))), blp1⟩, h114, h117, h120, h123, h127, h131, h135, h139, h143, h147, h151, p80, hB9, hfl9, nd_ez_eo, nd_nr0_nr1, nd_nw0_na0, nd_nw0_nq0, nd_nw0_nw1, nd_nw0_na1, nd_nw0_nq1, nd_na0_nq0, nd_na0_nw1, nd_na0_na1, nd_na0_nq1, nd_nq0_nw1, nd_nq0_na1, nd_nq0_nq1, nd_nw1_na1, nd_nw1_nq1, nd_na1_nq1, nd_bh_bp, nd_bf_bl⟩, (show hKp [xo, ez, eo, bu, nw0, na0, nq0, nr0, nw1, na1, nq1, nr1, bs, bp, bh, bf, bl, bg] f f3 from (k81.mono (fun x9 hx9 => by simp only [List.mem_cons, List.not_mem_nil, or_false] at hx9; rcases hx9 with hx9 | hx9 | hx9 <;> (rw [hx9]; simp))))⟩)
        · obtain ⟨ef9, hv9⟩ := hP
          rw [ef9] at hw
          rcases hv9 with ⟨k9, ev9⟩ | ⟨k9, ev9⟩
          exact absurd k9 (by decide)
          subst ev9
          refine W.eq (g2 := F0 m 16 ls [.ref eo]) rfl ?_
          refine lv_aload_n hx hb dX4_deliver_16 rfl (lv_at hl9 0 rfl) ?_
          have n152 : eo ≠ nr0 := hne k_eo k_nr0 (Nat.ne_of_beq_eq_false rfl)
          have n153 : eo ≠ nq0 := hne k_eo k_nq0 (Nat.ne_of_beq_eq_false rfl)
          have h154 : f3 eo = some (.inr (1, [.ref nw1, .ref na1, .ref nq1, .ref nr1, .int mg1, .int st1, .int tm1, .int sr1, .int li1, .int lp1, .int mi1])) := k81.1 _ _ k_eo (Nat.ne_of_beq_eq_false rfl) (ninc (Ne.symm nd_ez_eo) (ninc n153 (ninc n152 nin0)))
          have n155 : nq1 ≠ nr0 := hne k_nq1 k_nr0 (Nat.ne_of_beq_eq_false rfl)
          have n156 : nq1 ≠ ez := hne k_nq1 k_ez (Nat.ne_of_beq_eq_false rfl)
          have h157 : f3 nq1 = some (.inl (cI G, 6, .inl gq1)) := k81.1 _ _ k_nq1 (Nat.ne_of_beq_eq_false rfl) (ninc n156 (ninc (Ne.symm nd_nq0_nq1) (ninc n155 nin0)))
          have n158 : nr1 ≠ nq0 := hne k_nr1 k_nq0 (Nat.ne_of_beq_eq_false rfl)
          have n159 : nr1 ≠ ez := hne k_nr1 k_ez (Nat.ne_of_beq_eq_false rfl)
          have h160 : f3 nr1 = some (.inr (3, [hd1, tl1, .int cn1])) := k81.1 _ _ k_nr1 (Nat.ne_of_beq_eq_false rfl) (ninc n159 (ninc n158 (ninc (Ne.symm nd_nr0_nr1) nin0)))
          have n161 : na1 ≠ nr0 := hne k_na1 k_nr0 (Nat.ne_of_beq_eq_false rfl)
          have n162 : na1 ≠ ez := hne k_na1 k_ez (Nat.ne_of_beq_eq_false rfl)
          have h163 : f3 na1 = some (.inl (cI G, 6, .inl ga1)) := k81.1 _ _ k_na1 (Nat.ne_of_beq_eq_false rfl) (ninc n162 (ninc (Ne.symm nd_nq0_na1) (ninc n161 nin0)))
          refine hp_V (ci := 1) (As := [.ref t76]) (rest := []) B0 hw hS (c_X1_hear hl G f3 eo nw1 na1 nq1 nr1 mg1 ⟨_, _, _, _, _, _, _, _, _, _, h154, h157, h160, (fhd1.kp (show hKp [xo, ez, eo, bu, nw0, na0, nq0, nr0, nw1, na1, nq1, nr1, bs, bp, bh, bf, bl, bg] f f3 from (k81.mono (fun x9 hx9 => by simp only [List.mem_cons, List.not_mem_nil, or_false] at hx9; rcases hx9 with hx9 | hx9 | hx9 <;> (rw [hx9]; simp))))), (ftl1.kp (show hKp [xo, ez, eo, bu, nw0, na0, nq0, nr0, nw1, na1, nq1, nr1, bs, bp, bh, bf, bl, bg] f f3 from (k81.mono (fun x9 hx9 => by simp only [List.mem_cons, List.not_mem_nil, or_false] at hx9; rcases hx9 with hx9 | hx9 | hx9 <;> (rw [hx9]; simp))))), blp1⟩ p80 ga1 h163 nd_na1_nq1 t76 _ h78) mV_X1_hear qM_X4_77 rfl h154 rfl rfl hl9.1 (Nat.le_of_ble_eq_true rfl) ⟨⟨Nat.le_of_ble_eq_true rfl, Nat.le_of_ble_eq_true rfl⟩, Nat.le_of_ble_eq_true rfl, Nat.le_of_ble_eq_true rfl⟩ dX4_deliver_17 (fun E ce q9 f164 H locs hPX hw hS hce hcv hcl => ?_) (fun v f164 H locs hP hw hS => ?_)
          · exact hPX.elim
          · obtain ⟨ev9, h165, p166, k167⟩ := hP
            obtain ⟨st168, tm169, sr170, li171, lp172, mi173, cn174, gq175, hd176, tl177, h178, h179, h180, h181, h182, h183⟩ := h165
            subst ev9
            refine W.eq (g2 := F0 m 20 ls []) rfl ?_
            refine lv_aload_n hx hb dX4_deliver_20 rfl (lv_at hl9 0 rfl) ?_
            obtain ⟨k184, h185⟩ := k167.2 _ _ h78
            obtain ⟨x186, x187, x188, v189, y190, g191, e192, h193, h194⟩ := p166 _ _ h185 nin0
            rw [e192] at h185
            refine hp_get B0 hw 2 rfl in_X2 h185 0 (by decide) qF_X4_81 rfl dX4_deliver_21 ?_
            have h196 : f164 ez = some (.inr (1, [.ref nw0, .ref na0, .ref nq0, .ref nr0, .int mg0, .int st82, .int tm83, .int sr84, .int li85, .int lp86, .int mi87])) := k167.1 _ _ h92 (Nat.ne_of_beq_eq_false rfl) (ninc nd_ez_eo (ninc (Ne.symm n156) (ninc (Ne.symm n159) nin0)))
            have h197 : f164 nq0 = some (.inl (cI G, 6, .inl gq89)) := k167.1 _ _ h93 (Nat.ne_of_beq_eq_false rfl) (ninc (Ne.symm n153) (ninc nd_nq0_nq1 (ninc (Ne.symm n158) nin0)))
            have h198 : f164 nr0 = some (.inr (3, [hd90, tl91, .int cn88])) := k167.1 _ _ h94 (Nat.ne_of_beq_eq_false rfl) (ninc (Ne.symm n152) (ninc (Ne.symm n155) (ninc nd_nr0_nr1 nin0)))
            have n199 : xo ≠ nr1 := hne k_xo k_nr1 (Nat.ne_of_beq_eq_false rfl)
            have n200 : xo ≠ nq1 := hne k_xo k_nq1 (Nat.ne_of_beq_eq_false rfl)
            have n201 : xo ≠ eo := hne k_xo k_eo (Nat.ne_of_beq_eq_false rfl)
            have h202 : f164 xo = some (.inr (4, [.ref ez, .ref eo, .ref bu])) := k167.1 _ _ h101 (Nat.ne_of_beq_eq_false rfl) (ninc n201 (ninc n200 (ninc n199 nin0)))
            have n203 : nw0 ≠ nr0 := hne k_nw0 k_nr0 (Nat.ne_of_beq_eq_false rfl)
            have n204 : nw0 ≠ ez := hne k_nw0 k_ez (Nat.ne_of_beq_eq_false rfl)
            have h205 : f3 nw0 = some (.inl (cI G, 6, .inl gw0)) := k81.1 _ _ k_nw0 (Nat.ne_of_beq_eq_false rfl) (ninc n204 (ninc nd_nw0_nq0 (ninc n203 nin0)))
            have n206 : nw0 ≠ nr1 := hne k_nw0 k_nr1 (Nat.ne_of_beq_eq_false rfl)
            have n207 : nw0 ≠ eo := hne k_nw0 k_eo (Nat.ne_of_beq_eq_false rfl)
            have h208 : f164 nw0 = some (.inl (cI G, 6, .inl gw0)) := k167.1 _ _ h205 (Nat.ne_of_beq_eq_false rfl) (ninc n207 (ninc nd_nw0_nq1 (ninc n206 nin0)))
            have n209 : na0 ≠ nr0 := hne k_na0 k_nr0 (Nat.ne_of_beq_eq_false rfl)
            have n210 : na0 ≠ ez := hne k_na0 k_ez (Nat.ne_of_beq_eq_false rfl)
            have h211 : f3 na0 = some (.inl (cI G, 6, .inl ga0)) := k81.1 _ _ k_na0 (Nat.ne_of_beq_eq_false rfl) (ninc n210 (ninc nd_na0_nq0 (ninc n209 nin0)))
            have n212 : na0 ≠ nr1 := hne k_na0 k_nr1 (Nat.ne_of_beq_eq_false rfl)
            have n213 : na0 ≠ eo := hne k_na0 k_eo (Nat.ne_of_beq_eq_false rfl)
            have h214 : f164 na0 = some (.inl (cI G, 6, .inl ga0)) := k167.1 _ _ h211 (Nat.ne_of_beq_eq_false rfl) (ninc n213 (ninc nd_na0_nq1 (ninc n212 nin0)))
            have n215 : nw1 ≠ nr0 := hne k_nw1 k_nr0 (Nat.ne_of_beq_eq_false rfl)
            have n216 : nw1 ≠ ez := hne k_nw1 k_ez (Nat.ne_of_beq_eq_false rfl)
            have h217 : f3 nw1 = some (.inl (cI G, 6, .inl gw1)) := k81.1 _ _ k_nw1 (Nat.ne_of_beq_eq_false rfl) (ninc n216 (ninc (Ne.symm nd_nq0_nw1) (ninc n215 nin0)))
            have n218 : nw1 ≠ nr1 := hne k_nw1 k_nr1 (Nat.ne_of_beq_eq_false rfl)
            have n219 : nw1 ≠ eo := hne k_nw1 k_eo (Nat.ne_of_beq_eq_false rfl)
            have h220 : f164 nw1 = some (.inl (cI G, 6, .inl gw1)) := k167.1 _ _ h217 (Nat.ne_of_beq_eq_false rfl) (ninc n219 (ninc nd_nw1_nq1 (ninc n218 nin0)))
            have n221 : na1 ≠ nr1 := hne k_na1 k_nr1 (Nat.ne_of_beq_eq_false rfl)
            have n222 : na1 ≠ eo := hne k_na1 k_eo (Nat.ne_of_beq_eq_false rfl)
            have h223 : f164 na1 = some (.inl (cI G, 6, .inl ga1)) := k167.1 _ _ h163 (Nat.ne_of_beq_eq_false rfl) (ninc n222 (ninc nd_na1_nq1 (ninc n221 nin0)))
            have n224 : bu ≠ nr0 := hne k_bu k_nr0 (Nat.ne_of_beq_eq_false rfl)
            have n225 : bu ≠ nq0 := hne k_bu k_nq0 (Nat.ne_of_beq_eq_false rfl)
            have n226 : bu ≠ ez := hne k_bu k_ez (Nat.ne_of_beq_eq_false rfl)
            have h227 : f3 bu = some (.inr (0, [.ref bs, .ref bp, .ref bh, .ref bf, .ref bl, .ref bg, .int (nI n), .int (nI cg), .int (nI x)])) := k81.1 _ _ k_bu (Nat.ne_of_beq_eq_false rfl) (ninc n226 (ninc n225 (ninc n224 nin0)))
            have n228 : bu ≠ nr1 := hne k_bu k_nr1 (Nat.ne_of_beq_eq_false rfl)
            have n229 : bu ≠ nq1 := hne k_bu k_nq1 (Nat.ne_of_beq_eq_false rfl)
            have n230 : bu ≠ eo := hne k_bu k_eo (Nat.ne_of_beq_eq_false rfl)
            have h231 : f164 bu = some (.inr (0, [.ref bs, .ref bp, .ref bh, .ref bf, .ref bl, .ref bg, .int (nI n), .int (nI cg), .int (nI x)])) := k167.1 _ _ h227 (Nat.ne_of_beq_eq_false rfl) (ninc n230 (ninc n229 (ninc n228 nin0)))
            have n232 : bs ≠ nr0 := hne k_bs k_nr0 (Nat.ne_of_beq_eq_false rfl)
            have n233 : bs ≠ nq0 := hneL k_bs k_nq0 (Nat.ne_of_beq_eq_false rfl)
            have n234 : bs ≠ ez := hne k_bs k_ez (Nat.ne_of_beq_eq_false rfl)
            have h235 : f3 bs = some (.inl (cI G, 61, .inl (nf sa))) := k81.1 _ _ k_bs (Nat.ne_of_beq_eq_false rfl) (ninc n234 (ninc n233 (ninc n232 nin0)))
            have n236 : bs ≠ nr1 := hne k_bs k_nr1 (Nat.ne_of_beq_eq_false rfl)
            have n237 : bs ≠ nq1 := hneL k_bs k_nq1 (Nat.ne_of_beq_eq_false rfl)
            have n238 : bs ≠ eo := hne k_bs k_eo (Nat.ne_of_beq_eq_false rfl)
            have h239 : f164 bs = some (.inl (cI G, 61, .inl (nf sa))) := k167.1 _ _ h235 (Nat.ne_of_beq_eq_false rfl) (ninc n238 (ninc n237 (ninc n236 nin0)))
            have n240 : bp ≠ nr0 := hne k_bp k_nr0 (Nat.ne_of_beq_eq_false rfl)
            have n241 : bp ≠ nq0 := hneL k_bp k_nq0 (Nat.ne_of_beq_eq_false rfl)
            have n242 : bp ≠ ez := hne k_bp k_ez (Nat.ne_of_beq_eq_false rfl)
            have h243 : f3 bp = some (.inl (cI G, 240, .inl (nf pk))) := k81.1 _ _ k_bp (Nat.ne_of_beq_eq_false rfl) (ninc n242 (ninc n241 (ninc n240 nin0)))
            have n244 : bp ≠ nr1 := hne k_bp k_nr1 (Nat.ne_of_beq_eq_false rfl)
            have n245 : bp ≠ nq1 := hneL k_bp k_nq1 (Nat.ne_of_beq_eq_false rfl)
            have n246 : bp ≠ eo := hne k_bp k_eo (Nat.ne_of_beq_eq_false rfl)
            have h247 : f164 bp = some (.inl (cI G, 240, .inl (nf pk))) := k167.1 _ _ h243 (Nat.ne_of_beq_eq_false rfl) (ninc n246 (ninc n245 (ninc n244 nin0)))
            have n248 : bh ≠ nr0 := hne k_bh k_nr0 (Nat.ne_of_beq_eq_false rfl)
            have n249 : bh ≠ nq0 := hneL k_bh k_nq0 (Nat.ne_of_beq_eq_false rfl)
            have n250 : bh ≠ ez := hne k_bh k_ez (Nat.ne_of_beq_eq_false rfl)
            have h251 : f3 bh = some (.inl (cZ G, 240, .inl gh)) := k81.1 _ _ k_bh (Nat.ne_of_beq_eq_false rfl) (ninc n250 (ninc n249 (ninc n248 nin0)))
            have n252 : bh ≠ nr1 := hne k_bh k_nr1 (Nat.ne_of_beq_eq_false rfl)
            have n253 : bh ≠ nq1 := hneL k_bh k_nq1 (Nat.ne_of_beq_eq_false rfl)
            have n254 : bh ≠ eo := hne k_bh k_eo (Nat.ne_of_beq_eq_false rfl)
            have h255 : f164 bh = some (.inl (cZ G, 240, .inl gh)) := k167.1 _ _ h251 (Nat.ne_of_beq_eq_false rfl) (ninc n254 (ninc n253 (ninc n252 nin0)))
            have n256 : bf ≠ nr0 := hne k_bf k_nr0 (Nat.ne_of_beq_eq_false rfl)
            have n257 : bf ≠ nq0 := hneL k_bf k_nq0 (Nat.ne_of_beq_eq_false rfl)
            have n258 : bf ≠ ez := hne k_bf k_ez (Nat.ne_of_beq_eq_false rfl)
            have h259 : f3 bf = some (.inl (cI G, 3, .inl (nf fl))) := k81.1 _ _ k_bf (Nat.ne_of_beq_eq_false rfl) (ninc n258 (ninc n257 (ninc n256 nin0)))
            have n260 : bf ≠ nr1 := hne k_bf k_nr1 (Nat.ne_of_beq_eq_false rfl)
            have n261 : bf ≠ nq1 := hneL k_bf k_nq1 (Nat.ne_of_beq_eq_false rfl)
            have n262 : bf ≠ eo := hne k_bf k_eo (Nat.ne_of_beq_eq_false rfl)
            have h263 : f164 bf = some (.inl (cI G, 3, .inl (nf fl))) := k167.1 _ _ h259 (Nat.ne_of_beq_eq_false rfl) (ninc n262 (ninc n261 (ninc n260 nin0)))
            have n264 : bl ≠ nr0 := hne k_bl k_nr0 (Nat.ne_of_beq_eq_false rfl)
            have n265 : bl ≠ nq0 := hneL k_bl k_nq0 (Nat.ne_of_beq_eq_false rfl)
            have n266 : bl ≠ ez := hne k_bl k_ez (Nat.ne_of_beq_eq_false rfl)
            have h267 : f3 bl = some (.inl (cI G, 3, .inl gl)) := k81.1 _ _ k_bl (Nat.ne_of_beq_eq_false rfl) (ninc n266 (ninc n265 (ninc n264 nin0)))
            have n268 : bl ≠ nr1 := hne k_bl k_nr1 (Nat.ne_of_beq_eq_false rfl)
            have n269 : bl ≠ nq1 := hneL k_bl k_nq1 (Nat.ne_of_beq_eq_false rfl)
            have n270 : bl ≠ eo := hne k_bl k_eo (Nat.ne_of_beq_eq_false rfl)
            have h271 : f164 bl = some (.inl (cI G, 3, .inl gl)) := k167.1 _ _ h267 (Nat.ne_of_beq_eq_false rfl) (ninc n270 (ninc n269 (ninc n268 nin0)))
            have n272 : bg ≠ nr0 := hne k_bg k_nr0 (Nat.ne_of_beq_eq_false rfl)
            have n273 : bg ≠ nq0 := hneL k_bg k_nq0 (Nat.ne_of_beq_eq_false rfl)
            have n274 : bg ≠ ez := hne k_bg k_ez (Nat.ne_of_beq_eq_false rfl)
            have h275 : f3 bg = some (.inl (cI G, 60, .inl (nf gv))) := k81.1 _ _ k_bg (Nat.ne_of_beq_eq_false rfl) (ninc n274 (ninc n273 (ninc n272 nin0)))
            have n276 : bg ≠ nr1 := hne k_bg k_nr1 (Nat.ne_of_beq_eq_false rfl)
            have n277 : bg ≠ nq1 := hneL k_bg k_nq1 (Nat.ne_of_beq_eq_false rfl)
            have n278 : bg ≠ eo := hne k_bg k_eo (Nat.ne_of_beq_eq_false rfl)
            have h279 : f164 bg = some (.inl (cI G, 60, .inl (nf gv))) := k167.1 _ _ h275 (Nat.ne_of_beq_eq_false rfl) (ninc n278 (ninc n277 (ninc n276 nin0)))
            exact hp_iret (v := x186) B0 hw hS hr ⟨Nat.le_of_ble_eq_true rfl, Nat.le_of_ble_eq_true rfl⟩ dX4_deliver_24 (⟨⟨_, rfl⟩, ⟨h202, ⟨_, _, _, _, _, _, _, _, _, _, h196, h197, h198, (h95.kp (show hKp [xo, ez, eo, bu, nw0, na0, nq0, nr0, nw1, na1, nq1, nr1, bs, bp, bh, bf, bl, bg] f3 f164 from (k167.mono (fun x9 hx9 => by simp only [List.mem_cons, List.not_mem_nil, or_false] at hx9; rcases hx9 with hx9 | hx9 | hx9 <;> (rw [hx9]; simp))))), (h96.kp (show hKp [xo, ez, eo, bu, nw0, na0, nq0, nr0, nw1, na1, nq1, nr1, bs, bp, bh, bf, bl, bg] f3 f164 from (k167.mono (fun x9 hx9 => by simp only [List.mem_cons, List.not_mem_nil, or_false] at hx9; rcases hx9 with hx9 | hx9 | hx9 <;> (rw [hx9]; simp))))), h97⟩, ⟨_, _, _, _, _, _, _, _, _, _, h178, h179, h180, h181, h182, h183⟩, h208, h214, h220, h223, h231, h239, h247, h255, h263, h271, h279, p166, hB9, hfl9, nd_ez_eo, nd_nr0_nr1, nd_nw0_na0, nd_nw0_nq0, nd_nw0_nw1, nd_nw0_na1, nd_nw0_nq1, nd_na0_nq0, nd_na0_nw1, nd_na0_na1, nd_na0_nq1, nd_nq0_nw1, nd_nq0_na1, nd_nq0_nq1, nd_nw1_na1, nd_nw1_nq1, nd_na1_nq1, nd_bh_bp, nd_bf_bl⟩, ((show hKp [xo, ez, eo, bu, nw0, na0, nq0, nr0, nw1, na1, nq1, nr1, bs, bp, bh, bf, bl, bg] f f3 from (k81.mono (fun x9 hx9 => by simp only [List.mem_cons, List.not_mem_nil, or_false] at hx9; rcases hx9 with hx9 | hx9 | hx9 <;> (rw [hx9]; simp)))).tr (show hKp [xo, ez, eo, bu, nw0, na0, nq0, nr0, nw1, na1, nq1, nr1, bs, bp, bh, bf, bl, bg] f3 f164 from (k167.mono (fun x9 hx9 => by simp only [List.mem_cons, List.not_mem_nil, or_false] at hx9; rcases hx9 with hx9 | hx9 | hx9 <;> (rw [hx9]; simp)))))⟩)
    · subst ev9
      refine W.eq (g2 := F0 m 5 ls [.ref eo]) rfl ?_
      refine hp_S (As := [.ref eo]) (rest := []) B0 hw hS (c_X4_takeFrame hl G f eo nw1 na1 nq1 nr1 mg1 ⟨_, _, _, _, _, _, _, _, _, _, k_eo, k_nq1, k_nr1, fhd1, ftl1, blp1⟩ hPx) mS_X4_takeFrame qM_X4_73 rfl rfl hl9.1 (Nat.le_of_ble_eq_true rfl) ⟨⟨Nat.le_of_ble_eq_true rfl, Nat.le_of_ble_eq_true rfl⟩, Nat.le_of_ble_eq_true rfl, Nat.le_of_ble_eq_true rfl⟩ dX4_deliver_5 (fun E ce q9 f280 H locs hPX hw hS hce hcv hcl => ?_) (fun v f280 H locs hP hw hS => ?_)
      · have hP := hPX
        obtain ⟨eE9, h281, p282, k283⟩ := hP
        obtain ⟨st284, tm285, sr286, li287, lp288, mi289, cn290, gq291, hd292, tl293, h294, h295, h296, h297, h298, h299⟩ := h281
        subst eE9
        have n300 : ez ≠ nr1 := hne k_ez k_nr1 (Nat.ne_of_beq_eq_false rfl)
        have n301 : ez ≠ nq1 := hne k_ez k_nq1 (Nat.ne_of_beq_eq_false rfl)
        have h302 : f280 ez = some (.inr (1, [.ref nw0, .ref na0, .ref nq0, .ref nr0, .int mg0, .int st0, .int tm0, .int sr0, .int li0, .int lp0, .int mi0])) := k283.1 _ _ k_ez (Nat.ne_of_beq_eq_false rfl) (ninc nd_ez_eo (ninc n301 (ninc n300 nin0)))
        have n303 : nq0 ≠ nr1 := hne k_nq0 k_nr1 (Nat.ne_of_beq_eq_false rfl)
        have n304 : nq0 ≠ eo := hne k_nq0 k_eo (Nat.ne_of_beq_eq_false rfl)
        have h305 : f280 nq0 = some (.inl (cI G, 6, .inl gq0)) := k283.1 _ _ k_nq0 (Nat.ne_of_beq_eq_false rfl) (ninc n304 (ninc nd_nq0_nq1 (ninc n303 nin0)))
        have n306 : nr0 ≠ nq1 := hne k_nr0 k_nq1 (Nat.ne_of_beq_eq_false rfl)
        have n307 : nr0 ≠ eo := hne k_nr0 k_eo (Nat.ne_of_beq_eq_false rfl)
        have h308 : f280 nr0 = some (.inr (3, [hd0, tl0, .int cn0])) := k283.1 _ _ k_nr0 (Nat.ne_of_beq_eq_false rfl) (ninc n307 (ninc n306 (ninc nd_nr0_nr1 nin0)))
        have n309 : xo ≠ nr1 := hne k_xo k_nr1 (Nat.ne_of_beq_eq_false rfl)
        have n310 : xo ≠ nq1 := hne k_xo k_nq1 (Nat.ne_of_beq_eq_false rfl)
        have n311 : xo ≠ eo := hne k_xo k_eo (Nat.ne_of_beq_eq_false rfl)
        have h312 : f280 xo = some (.inr (4, [.ref ez, .ref eo, .ref bu])) := k283.1 _ _ k_xo (Nat.ne_of_beq_eq_false rfl) (ninc n311 (ninc n310 (ninc n309 nin0)))
        have n313 : nw0 ≠ nr1 := hne k_nw0 k_nr1 (Nat.ne_of_beq_eq_false rfl)
        have n314 : nw0 ≠ eo := hne k_nw0 k_eo (Nat.ne_of_beq_eq_false rfl)
        have h315 : f280 nw0 = some (.inl (cI G, 6, .inl gw0)) := k283.1 _ _ k_nw0 (Nat.ne_of_beq_eq_false rfl) (ninc n314 (ninc nd_nw0_nq1 (ninc n313 nin0)))
        have n316 : na0 ≠ nr1 := hne k_na0 k_nr1 (Nat.ne_of_beq_eq_false rfl)
        have n317 : na0 ≠ eo := hne k_na0 k_eo (Nat.ne_of_beq_eq_false rfl)
        have h318 : f280 na0 = some (.inl (cI G, 6, .inl ga0)) := k283.1 _ _ k_na0 (Nat.ne_of_beq_eq_false rfl) (ninc n317 (ninc nd_na0_nq1 (ninc n316 nin0)))
        have n319 : nw1 ≠ nr1 := hne k_nw1 k_nr1 (Nat.ne_of_beq_eq_false rfl)
        have n320 : nw1 ≠ eo := hne k_nw1 k_eo (Nat.ne_of_beq_eq_false rfl)
        have h321 : f280 nw1 = some (.inl (cI G, 6, .inl gw1)) := k283.1 _ _ k_nw1 (Nat.ne_of_beq_eq_false rfl) (ninc n320 (ninc nd_nw1_nq1 (ninc n319 nin0)))
        have n322 : na1 ≠ nr1 := hne k_na1 k_nr1 (Nat.ne_of_beq_eq_false rfl)
        have n323 : na1 ≠ eo := hne k_na1 k_eo (Nat.ne_of_beq_eq_false rfl)
        have h324 : f280 na1 = some (.inl (cI G, 6, .inl ga1)) := k283.1 _ _ k_na1 (Nat.ne_of_beq_eq_false rfl) (ninc n323 (ninc nd_na1_nq1 (ninc n322 nin0)))
        have n325 : bu ≠ nr1 := hne k_bu k_nr1 (Nat.ne_of_beq_eq_false rfl)
        have n326 : bu ≠ nq1 := hne k_bu k_nq1 (Nat.ne_of_beq_eq_false rfl)
        have n327 : bu ≠ eo := hne k_bu k_eo (Nat.ne_of_beq_eq_false rfl)
        have h328 : f280 bu = some (.inr (0, [.ref bs, .ref bp, .ref bh, .ref bf, .ref bl, .ref bg, .int (nI n), .int (nI cg), .int (nI x)])) := k283.1 _ _ k_bu (Nat.ne_of_beq_eq_false rfl) (ninc n327 (ninc n326 (ninc n325 nin0)))
        have n329 : bs ≠ nr1 := hne k_bs k_nr1 (Nat.ne_of_beq_eq_false rfl)
        have n330 : bs ≠ nq1 := hneL k_bs k_nq1 (Nat.ne_of_beq_eq_false rfl)
        have n331 : bs ≠ eo := hne k_bs k_eo (Nat.ne_of_beq_eq_false rfl)
        have h332 : f280 bs = some (.inl (cI G, 61, .inl (nf sa))) := k283.1 _ _ k_bs (Nat.ne_of_beq_eq_false rfl) (ninc n331 (ninc n330 (ninc n329 nin0)))
        have n333 : bp ≠ nr1 := hne k_bp k_nr1 (Nat.ne_of_beq_eq_false rfl)
        have n334 : bp ≠ nq1 := hneL k_bp k_nq1 (Nat.ne_of_beq_eq_false rfl)
        have n335 : bp ≠ eo := hne k_bp k_eo (Nat.ne_of_beq_eq_false rfl)
        have h336 : f280 bp = some (.inl (cI G, 240, .inl (nf pk))) := k283.1 _ _ k_bp (Nat.ne_of_beq_eq_false rfl) (ninc n335 (ninc n334 (ninc n333 nin0)))
        have n337 : bh ≠ nr1 := hne k_bh k_nr1 (Nat.ne_of_beq_eq_false rfl)
        have n338 : bh ≠ nq1 := hneL k_bh k_nq1 (Nat.ne_of_beq_eq_false rfl)
        have n339 : bh ≠ eo := hne k_bh k_eo (Nat.ne_of_beq_eq_false rfl)
        have h340 : f280 bh = some (.inl (cZ G, 240, .inl gh)) := k283.1 _ _ k_bh (Nat.ne_of_beq_eq_false rfl) (ninc n339 (ninc n338 (ninc n337 nin0)))
        have n341 : bf ≠ nr1 := hne k_bf k_nr1 (Nat.ne_of_beq_eq_false rfl)
        have n342 : bf ≠ nq1 := hneL k_bf k_nq1 (Nat.ne_of_beq_eq_false rfl)
        have n343 : bf ≠ eo := hne k_bf k_eo (Nat.ne_of_beq_eq_false rfl)
        have h344 : f280 bf = some (.inl (cI G, 3, .inl (nf fl))) := k283.1 _ _ k_bf (Nat.ne_of_beq_eq_false rfl) (ninc n343 (ninc n342 (ninc n341 nin0)))
        have n345 : bl ≠ nr1 := hne k_bl k_nr1 (Nat.ne_of_beq_eq_false rfl)
        have n346 : bl ≠ nq1 := hneL k_bl k_nq1 (Nat.ne_of_beq_eq_false rfl)
        have n347 : bl ≠ eo := hne k_bl k_eo (Nat.ne_of_beq_eq_false rfl)
        have h348 : f280 bl = some (.inl (cI G, 3, .inl gl)) := k283.1 _ _ k_bl (Nat.ne_of_beq_eq_false rfl) (ninc n347 (ninc n346 (ninc n345 nin0)))
        have n349 : bg ≠ nr1 := hne k_bg k_nr1 (Nat.ne_of_beq_eq_false rfl)
        have n350 : bg ≠ nq1 := hneL k_bg k_nq1 (Nat.ne_of_beq_eq_false rfl)
        have n351 : bg ≠ eo := hne k_bg k_eo (Nat.ne_of_beq_eq_false rfl)
        have h352 : f280 bg = some (.inl (cI G, 60, .inl (nf gv))) := k283.1 _ _ k_bg (Nat.ne_of_beq_eq_false rfl) (ninc n351 (ninc n350 (ninc n349 nin0)))
        exact hp_out B0 hw hS hout hce hcv hcl ⟨Nat.le_of_ble_eq_true rfl, Nat.le_of_ble_eq_true rfl⟩ (⟨(Or.inr rfl), ⟨h312, ⟨_, _, _, _, _, _, _, _, _, _, h302, h305, h308, (fhd0.kp (show hKp [xo, ez, eo, bu, nw0, na0, nq0, nr0, nw1, na1, nq1, nr1, bs, bp, bh, bf, bl, bg] f f280 from (k283.mono (fun x9 hx9 => by simp only [List.mem_cons, List.not_mem_nil, or_false] at hx9; rcases hx9 with hx9 | hx9 | hx9 <;> (rw [hx9]; simp))))), (ftl0.kp (show hKp [xo, ez, eo, bu, nw0, na0, nq0, nr0, nw1, na1, nq1, nr1, bs, bp, bh, bf, bl, bg] f f280 from (k283.mono (fun x9 hx9 => by simp only [List.mem_cons, List.not_mem_nil, or_false] at hx9; rcases hx9 with hx9 | hx9 | hx9 <;> (rw [hx9]; simp))))), blp0⟩, ⟨_, _, _, _, _, _, _, _, _, _, h294, h295, h296, h297, h298, h299⟩, h315, h318, h321, h324, h328, h332, h336, h340, h344, h348, h352, p282, hB9, hfl9, nd_ez_eo, nd_nr0_nr1, nd_nw0_na0, nd_nw0_nq0, nd_nw0_nw1, nd_nw0_na1, nd_nw0_nq1, nd_na0_nq0, nd_na0_nw1, nd_na0_na1, nd_na0_nq1, nd_nq0_nw1, nd_nq0_na1, nd_nq0_nq1, nd_nw1_na1, nd_nw1_nq1, nd_na1_nq1, nd_bh_bp, nd_bf_bl⟩, (show hKp [xo, ez, eo, bu, nw0, na0, nq0, nr0, nw1, na1, nq1, nr1, bs, bp, bh, bf, bl, bg] f f280 from (k283.mono (fun x9 hx9 => by simp only [List.mem_cons, List.not_mem_nil, or_false] at hx9; rcases hx9 with hx9 | hx9 | hx9 <;> (rw [hx9]; simp))))⟩)
      · obtain ⟨⟨t353, k354, ev9, h355⟩, h356, p357, k358⟩ := hP
        obtain ⟨st359, tm360, sr361, li362, lp363, mi364, cn365, gq366, hd367, tl368, h369, h370, h371, h372, h373, h374⟩ := h356
        subst ev9
        refine W.eq (g2 := F0 m 8 ls [.ref t353]) rfl ?_
        refine lv_astore_n (lv' := [(2, .ref t353), (0, .ref xo), (1, .int i)]) hx hb dX4_deliver_8 rfl hl9 (by decide) rfl (fun ls hl9 => ?_)
        refine lv_aload_n hx hb dX4_deliver_9 rfl (lv_at hl9 1 rfl) ?_
        refine lv_iconst (v := 1) hx hb dX4_deliver_10 (by decide) ?_
        refine lv_iload_n hx hb dX4_deliver_11 rfl (lv_at hl9 2 rfl) ?_
        refine lv_isub hx hb dX4_deliver_12 ?_
        refine hp_c (v := 0) (by rw [k2]; rfl) ?_
        have n375 : xo ≠ nr1 := hne k_xo k_nr1 (Nat.ne_of_beq_eq_false rfl)
        have n376 : xo ≠ nq1 := hne k_xo k_nq1 (Nat.ne_of_beq_eq_false rfl)
        have n377 : xo ≠ eo := hne k_xo k_eo (Nat.ne_of_beq_eq_false rfl)
        have h378 : f280 xo = some (.inr (4, [.ref ez, .ref eo, .ref bu])) := k358.1 _ _ k_xo (Nat.ne_of_beq_eq_false rfl) (ninc n377 (ninc n376 (ninc n375 nin0)))
        refine hp_V (ci := 4) (As := [.int 0]) (rest := []) B0 hw hS (c_X4_endAt hl G f280 xo ez eo bu h378 0) mV_X4_endAt qM_X4_28 rfl h378 rfl rfl hl9.1 (Nat.le_of_ble_eq_true rfl) ⟨⟨Nat.le_of_ble_eq_true rfl, Nat.le_of_ble_eq_true rfl⟩, Nat.le_of_ble_eq_true rfl, Nat.le_of_ble_eq_true rfl⟩ dX4_deliver_13 (fun E ce q9 f379 H locs hPX hw hS hce hcv hcl => ?_) (fun v f379 H locs hP hw hS => ?_)
        · obtain ⟨ef9, eE9, hE9⟩ := hPX
          rw [ef9] at hw
          subst eE9
          have n380 : ez ≠ nr1 := hne k_ez k_nr1 (Nat.ne_of_beq_eq_false rfl)
          have n381 : ez ≠ nq1 := hne k_ez k_nq1 (Nat.ne_of_beq_eq_false rfl)
          have h382 : f280 ez = some (.inr (1, [.ref nw0, .ref na0, .ref nq0, .ref nr0, .int mg0, .int st0, .int tm0, .int sr0, .int li0, .int lp0, .int mi0])) := k358.1 _ _ k_ez (Nat.ne_of_beq_eq_false rfl) (ninc nd_ez_eo (ninc n381 (ninc n380 nin0)))
          have n383 : nq0 ≠ nr1 := hne k_nq0 k_nr1 (Nat.ne_of_beq_eq_false rfl)
          have n384 : nq0 ≠ eo := hne k_nq0 k_eo (Nat.ne_of_beq_eq_false rfl)
          have h385 : f280 nq0 = some (.inl (cI G, 6, .inl gq0)) := k358.1 _ _ k_nq0 (Nat.ne_of_beq_eq_false rfl) (ninc n384 (ninc nd_nq0_nq1 (ninc n383 nin0)))
          have n386 : nr0 ≠ nq1 := hne k_nr0 k_nq1 (Nat.ne_of_beq_eq_false rfl)
          have n387 : nr0 ≠ eo := hne k_nr0 k_eo (Nat.ne_of_beq_eq_false rfl)
          have h388 : f280 nr0 = some (.inr (3, [hd0, tl0, .int cn0])) := k358.1 _ _ k_nr0 (Nat.ne_of_beq_eq_false rfl) (ninc n387 (ninc n386 (ninc nd_nr0_nr1 nin0)))
          have n389 : nw0 ≠ nr1 := hne k_nw0 k_nr1 (Nat.ne_of_beq_eq_false rfl)
          have n390 : nw0 ≠ eo := hne k_nw0 k_eo (Nat.ne_of_beq_eq_false rfl)
          have h391 : f280 nw0 = some (.inl (cI G, 6, .inl gw0)) := k358.1 _ _ k_nw0 (Nat.ne_of_beq_eq_false rfl) (ninc n390 (ninc nd_nw0_nq1 (ninc n389 nin0)))
          have n392 : na0 ≠ nr1 := hne k_na0 k_nr1 (Nat.ne_of_beq_eq_false rfl)
          have n393 : na0 ≠ eo := hne k_na0 k_eo (Nat.ne_of_beq_eq_false rfl)
          have h394 : f280 na0 = some (.inl (cI G, 6, .inl ga0)) := k358.1 _ _ k_na0 (Nat.ne_of_beq_eq_false rfl) (ninc n393 (ninc nd_na0_nq1 (ninc n392 nin0)))
          have n395 : nw1 ≠ nr1 := hne k_nw1 k_nr1 (Nat.ne_of_beq_eq_false rfl)
          have n396 : nw1 ≠ eo := hne k_nw1 k_eo (Nat.ne_of_beq_eq_false rfl)
          have h397 : f280 nw1 = some (.inl (cI G, 6, .inl gw1)) := k358.1 _ _ k_nw1 (Nat.ne_of_beq_eq_false rfl) (ninc n396 (ninc nd_nw1_nq1 (ninc n395 nin0)))
          have n398 : na1 ≠ nr1 := hne k_na1 k_nr1 (Nat.ne_of_beq_eq_false rfl)
          have n399 : na1 ≠ eo := hne k_na1 k_eo (Nat.ne_of_beq_eq_false rfl)
          have h400 : f280 na1 = some (.inl (cI G, 6, .inl ga1)) := k358.1 _ _ k_na1 (Nat.ne_of_beq_eq_false rfl) (ninc n399 (ninc nd_na1_nq1 (ninc n398 nin0)))
          have n401 : bu ≠ nr1 := hne k_bu k_nr1 (Nat.ne_of_beq_eq_false rfl)
          have n402 : bu ≠ nq1 := hne k_bu k_nq1 (Nat.ne_of_beq_eq_false rfl)
          have n403 : bu ≠ eo := hne k_bu k_eo (Nat.ne_of_beq_eq_false rfl)
          have h404 : f280 bu = some (.inr (0, [.ref bs, .ref bp, .ref bh, .ref bf, .ref bl, .ref bg, .int (nI n), .int (nI cg), .int (nI x)])) := k358.1 _ _ k_bu (Nat.ne_of_beq_eq_false rfl) (ninc n403 (ninc n402 (ninc n401 nin0)))
          have n405 : bs ≠ nr1 := hne k_bs k_nr1 (Nat.ne_of_beq_eq_false rfl)
          have n406 : bs ≠ nq1 := hneL k_bs k_nq1 (Nat.ne_of_beq_eq_false rfl)
          have n407 : bs ≠ eo := hne k_bs k_eo (Nat.ne_of_beq_eq_false rfl)
          have h408 : f280 bs = some (.inl (cI G, 61, .inl (nf sa))) := k358.1 _ _ k_bs (Nat.ne_of_beq_eq_false rfl) (ninc n407 (ninc n406 (ninc n405 nin0)))
          have n409 : bp ≠ nr1 := hne k_bp k_nr1 (Nat.ne_of_beq_eq_false rfl)
          have n410 : bp ≠ nq1 := hneL k_bp k_nq1 (Nat.ne_of_beq_eq_false rfl)
          have n411 : bp ≠ eo := hne k_bp k_eo (Nat.ne_of_beq_eq_false rfl)
          have h412 : f280 bp = some (.inl (cI G, 240, .inl (nf pk))) := k358.1 _ _ k_bp (Nat.ne_of_beq_eq_false rfl) (ninc n411 (ninc n410 (ninc n409 nin0)))
          have n413 : bh ≠ nr1 := hne k_bh k_nr1 (Nat.ne_of_beq_eq_false rfl)
          have n414 : bh ≠ nq1 := hneL k_bh k_nq1 (Nat.ne_of_beq_eq_false rfl)
          have n415 : bh ≠ eo := hne k_bh k_eo (Nat.ne_of_beq_eq_false rfl)
          have h416 : f280 bh = some (.inl (cZ G, 240, .inl gh)) := k358.1 _ _ k_bh (Nat.ne_of_beq_eq_false rfl) (ninc n415 (ninc n414 (ninc n413 nin0)))
          have n417 : bf ≠ nr1 := hne k_bf k_nr1 (Nat.ne_of_beq_eq_false rfl)
          have n418 : bf ≠ nq1 := hneL k_bf k_nq1 (Nat.ne_of_beq_eq_false rfl)
          have n419 : bf ≠ eo := hne k_bf k_eo (Nat.ne_of_beq_eq_false rfl)
          have h420 : f280 bf = some (.inl (cI G, 3, .inl (nf fl))) := k358.1 _ _ k_bf (Nat.ne_of_beq_eq_false rfl) (ninc n419 (ninc n418 (ninc n417 nin0)))
          have n421 : bl ≠ nr1 := hne k_bl k_nr1 (Nat.ne_of_beq_eq_false rfl)
          have n422 : bl ≠ nq1 := hneL k_bl k_nq1 (Nat.ne_of_beq_eq_false rfl)
          have n423 : bl ≠ eo := hne k_bl k_eo (Nat.ne_of_beq_eq_false rfl)
          have h424 : f280 bl = some (.inl (cI G, 3, .inl gl)) := k358.1 _ _ k_bl (Nat.ne_of_beq_eq_false rfl) (ninc n423 (ninc n422 (ninc n421 nin0)))
          have n425 : bg ≠ nr1 := hne k_bg k_nr1 (Nat.ne_of_beq_eq_false rfl)
          have n426 : bg ≠ nq1 := hneL k_bg k_nq1 (Nat.ne_of_beq_eq_false rfl)
          have n427 : bg ≠ eo := hne k_bg k_eo (Nat.ne_of_beq_eq_false rfl)
          have h428 : f280 bg = some (.inl (cI G, 60, .inl (nf gv))) := k358.1 _ _ k_bg (Nat.ne_of_beq_eq_false rfl) (ninc n427 (ninc n426 (ninc n425 nin0)))
          exact hp_out B0 hw hS hout hce hcv hcl ⟨Nat.le_of_ble_eq_true rfl, Nat.le_of_ble_eq_true rfl⟩ (⟨(Or.inl rfl), ⟨h378, ⟨_, _, _, _, _, _, _, _, _, _, h382, h385, h388, (fhd0.kp (show hKp [xo, ez, eo, bu, nw0, na0, nq0, nr0, nw1, na1, nq1, nr1, bs, bp, bh, bf, bl, bg] f f280 from (k358.mono (fun x9 hx9 => by simp only [List.mem_cons, List.not_mem_nil, or_false] at hx9; rcases hx9 with hx9 | hx9 | hx9 <;> (rw [hx9]; simp))))), (ftl0.kp (show hKp [xo, ez, eo, bu, nw0, na0, nq0, nr0, nw1, na1, nq1, nr1, bs, bp, bh, bf, bl, bg] f f280 from (k358.mono (fun x9 hx9 => by simp only [List.mem_cons, List.not_mem_nil, or_false] at hx9; rcases hx9 with hx9 | hx9 | hx9 <;> (rw [hx9]; simp))))), blp0⟩, ⟨_, _, _, _, _, _, _, _, _, _, h369, h370, h371, h372, h373, h374⟩, h391, h394, h397, h400, h404, h408, h412, h416, h420, h424, h428, p357, hB9, hfl9, nd_ez_eo, nd_nr0_nr1, nd_nw0_na0, nd_nw0_nq0, nd_nw0_nw1, nd_nw0_na1, nd_nw0_nq1, nd_na0_nq0, nd_na0_nw1, nd_na0_na1, nd_na0_nq1, nd_nq0_nw1, nd_nq0_na1, nd_nq0_nq1, nd_nw1_na1, nd_nw1_nq1, nd_na1_nq1, nd_bh_bp, nd_bf_bl⟩, (show hKp [xo, ez, eo, bu, nw0, na0, nq0, nr0, nw1, na1, nq1, nr1, bs, bp, bh, bf, bl, bg] f f280 from (k358.mono (fun x9 hx9 => by simp only [List.mem_cons, List.not_mem_nil, or_false] at hx9; rcases hx9 with hx9 | hx9 | hx9 <;> (rw [hx9]; simp))))⟩)
        · obtain ⟨ef9, hv9⟩ := hP
          rw [ef9] at hw
          rcases hv9 with ⟨k9, ev9⟩ | ⟨k9, ev9⟩
          rotate_left; exact absurd k9 (by decide)
          subst ev9
          refine W.eq (g2 := F0 m 16 ls [.ref ez]) rfl ?_
          refine lv_aload_n hx hb dX4_deliver_16 rfl (lv_at hl9 0 rfl) ?_
          have n429 : ez ≠ nr1 := hne k_ez k_nr1 (Nat.ne_of_beq_eq_false rfl)
          have n430 : ez ≠ nq1 := hne k_ez k_nq1 (Nat.ne_of_beq_eq_false rfl)
          have h431 : f280 ez = some (.inr (1, [.ref nw0, .ref na0, .ref nq0, .ref nr0, .int mg0, .int st0, .int tm0, .int sr0, .int li0, .int lp0, .int mi0])) := k358.1 _ _ k_ez (Nat.ne_of_beq_eq_false rfl) (ninc nd_ez_eo (ninc n430 (ninc n429 nin0)))
          have n432 : nq0 ≠ nr1 := hne k_nq0 k_nr1 (Nat.ne_of_beq_eq_false rfl)
          have n433 : nq0 ≠ eo := hne k_nq0 k_eo (Nat.ne_of_beq_eq_false rfl)
          have h434 : f280 nq0 = some (.inl (cI G, 6, .inl gq0)) := k358.1 _ _ k_nq0 (Nat.ne_of_beq_eq_false rfl) (ninc n433 (ninc nd_nq0_nq1 (ninc n432 nin0)))
          have n435 : nr0 ≠ nq1 := hne k_nr0 k_nq1 (Nat.ne_of_beq_eq_false rfl)
          have n436 : nr0 ≠ eo := hne k_nr0 k_eo (Nat.ne_of_beq_eq_false rfl)
          have h437 : f280 nr0 = some (.inr (3, [hd0, tl0, .int cn0])) := k358.1 _ _ k_nr0 (Nat.ne_of_beq_eq_false rfl) (ninc n436 (ninc n435 (ninc nd_nr0_nr1 nin0)))
          have n438 : na0 ≠ nr1 := hne k_na0 k_nr1 (Nat.ne_of_beq_eq_false rfl)
          have n439 : na0 ≠ eo := hne k_na0 k_eo (Nat.ne_of_beq_eq_false rfl)
          have h440 : f280 na0 = some (.inl (cI G, 6, .inl ga0)) := k358.1 _ _ k_na0 (Nat.ne_of_beq_eq_false rfl) (ninc n439 (ninc nd_na0_nq1 (ninc n438 nin0)))
          refine hp_V (ci := 1) (As := [.ref t353]) (rest := []) B0 hw hS (c_X1_hear hl G f280 ez nw0 na0 nq0 nr0 mg0 ⟨_, _, _, _, _, _, _, _, _, _, h431, h434, h437, (fhd0.kp (show hKp [xo, ez, eo, bu, nw0, na0, nq0, nr0, nw1, na1, nq1, nr1, bs, bp, bh, bf, bl, bg] f f280 from (k358.mono (fun x9 hx9 => by simp only [List.mem_cons, List.not_mem_nil, or_false] at hx9; rcases hx9 with hx9 | hx9 | hx9 <;> (rw [hx9]; simp))))), (ftl0.kp (show hKp [xo, ez, eo, bu, nw0, na0, nq0, nr0, nw1, na1, nq1, nr1, bs, bp, bh, bf, bl, bg] f f280 from (k358.mono (fun x9 hx9 => by simp only [List.mem_cons, List.not_mem_nil, or_false] at hx9; rcases hx9 with hx9 | hx9 | hx9 <;> (rw [hx9]; simp))))), blp0⟩ p357 ga0 h440 nd_na0_nq0 t353 _ h355) mV_X1_hear qM_X4_77 rfl h431 rfl rfl hl9.1 (Nat.le_of_ble_eq_true rfl) ⟨⟨Nat.le_of_ble_eq_true rfl, Nat.le_of_ble_eq_true rfl⟩, Nat.le_of_ble_eq_true rfl, Nat.le_of_ble_eq_true rfl⟩ dX4_deliver_17 (fun E ce q9 f441 H locs hPX hw hS hce hcv hcl => ?_) (fun v f441 H locs hP hw hS => ?_)
          · exact hPX.elim
          · obtain ⟨ev9, h442, p443, k444⟩ := hP
            obtain ⟨st445, tm446, sr447, li448, lp449, mi450, cn451, gq452, hd453, tl454, h455, h456, h457, h458, h459, h460⟩ := h442
            subst ev9
            refine W.eq (g2 := F0 m 20 ls []) rfl ?_
            refine lv_aload_n hx hb dX4_deliver_20 rfl (lv_at hl9 0 rfl) ?_
            obtain ⟨k461, h462⟩ := k444.2 _ _ h355
            obtain ⟨x463, x464, x465, v466, y467, g468, e469, h470, h471⟩ := p443 _ _ h462 nin0
            rw [e469] at h462
            refine hp_get B0 hw 2 rfl in_X2 h462 0 (by decide) qF_X4_81 rfl dX4_deliver_21 ?_
            have h473 : f441 eo = some (.inr (1, [.ref nw1, .ref na1, .ref nq1, .ref nr1, .int mg1, .int st359, .int tm360, .int sr361, .int li362, .int lp363, .int mi364])) := k444.1 _ _ h369 (Nat.ne_of_beq_eq_false rfl) (ninc (Ne.symm nd_ez_eo) (ninc (Ne.symm n433) (ninc (Ne.symm n436) nin0)))
            have h474 : f441 nq1 = some (.inl (cI G, 6, .inl gq366)) := k444.1 _ _ h370 (Nat.ne_of_beq_eq_false rfl) (ninc (Ne.symm n430) (ninc (Ne.symm nd_nq0_nq1) (ninc (Ne.symm n435) nin0)))
            have h475 : f441 nr1 = some (.inr (3, [hd367, tl368, .int cn365])) := k444.1 _ _ h371 (Nat.ne_of_beq_eq_false rfl) (ninc (Ne.symm n429) (ninc (Ne.symm n432) (ninc (Ne.symm nd_nr0_nr1) nin0)))
            have n476 : xo ≠ nr0 := hne k_xo k_nr0 (Nat.ne_of_beq_eq_false rfl)
            have n477 : xo ≠ nq0 := hne k_xo k_nq0 (Nat.ne_of_beq_eq_false rfl)
            have n478 : xo ≠ ez := hne k_xo k_ez (Nat.ne_of_beq_eq_false rfl)
            have h479 : f441 xo = some (.inr (4, [.ref ez, .ref eo, .ref bu])) := k444.1 _ _ h378 (Nat.ne_of_beq_eq_false rfl) (ninc n478 (ninc n477 (ninc n476 nin0)))
            have n480 : nw0 ≠ nr1 := hne k_nw0 k_nr1 (Nat.ne_of_beq_eq_false rfl)
            have n481 : nw0 ≠ eo := hne k_nw0 k_eo (Nat.ne_of_beq_eq_false rfl)
            have h482 : f280 nw0 = some (.inl (cI G, 6, .inl gw0)) := k358.1 _ _ k_nw0 (Nat.ne_of_beq_eq_false rfl) (ninc n481 (ninc nd_nw0_nq1 (ninc n480 nin0)))
            have n483 : nw0 ≠ nr0 := hne k_nw0 k_nr0 (Nat.ne_of_beq_eq_false rfl)
            have n484 : nw0 ≠ ez := hne k_nw0 k_ez (Nat.ne_of_beq_eq_false rfl)
            have h485 : f441 nw0 = some (.inl (cI G, 6, .inl gw0)) := k444.1 _ _ h482 (Nat.ne_of_beq_eq_false rfl) (ninc n484 (ninc nd_nw0_nq0 (ninc n483 nin0)))
            have n486 : na0 ≠ nr0 := hne k_na0 k_nr0 (Nat.ne_of_beq_eq_false rfl)
            have n487 : na0 ≠ ez := hne k_na0 k_ez (Nat.ne_of_beq_eq_false rfl)
            have h488 : f441 na0 = some (.inl (cI G, 6, .inl ga0)) := k444.1 _ _ h440 (Nat.ne_of_beq_eq_false rfl) (ninc n487 (ninc nd_na0_nq0 (ninc n486 nin0)))
            have n489 : nw1 ≠ nr1 := hne k_nw1 k_nr1 (Nat.ne_of_beq_eq_false rfl)
            have n490 : nw1 ≠ eo := hne k_nw1 k_eo (Nat.ne_of_beq_eq_false rfl)
            have h491 : f280 nw1 = some (.inl (cI G, 6, .inl gw1)) := k358.1 _ _ k_nw1 (Nat.ne_of_beq_eq_false rfl) (ninc n490 (ninc nd_nw1_nq1 (ninc n489 nin0)))
            have n492 : nw1 ≠ nr0 := hne k_nw1 k_nr0 (Nat.ne_of_beq_eq_false rfl)
            have n493 : nw1 ≠ ez := hne k_nw1 k_ez (Nat.ne_of_beq_eq_false rfl)
            have h494 : f441 nw1 = some (.inl (cI G, 6, .inl gw1)) := k444.1 _ _ h491 (Nat.ne_of_beq_eq_false rfl) (ninc n493 (ninc (Ne.symm nd_nq0_nw1) (ninc n492 nin0)))
            have n495 : na1 ≠ nr1 := hne k_na1 k_nr1 (Nat.ne_of_beq_eq_false rfl)
            have n496 : na1 ≠ eo := hne k_na1 k_eo (Nat.ne_of_beq_eq_false rfl)
            have h497 : f280 na1 = some (.inl (cI G, 6, .inl ga1)) := k358.1 _ _ k_na1 (Nat.ne_of_beq_eq_false rfl) (ninc n496 (ninc nd_na1_nq1 (ninc n495 nin0)))
            have n498 : na1 ≠ nr0 := hne k_na1 k_nr0 (Nat.ne_of_beq_eq_false rfl)
            have n499 : na1 ≠ ez := hne k_na1 k_ez (Nat.ne_of_beq_eq_false rfl)
            have h500 : f441 na1 = some (.inl (cI G, 6, .inl ga1)) := k444.1 _ _ h497 (Nat.ne_of_beq_eq_false rfl) (ninc n499 (ninc (Ne.symm nd_nq0_na1) (ninc n498 nin0)))
            have n501 : bu ≠ nr1 := hne k_bu k_nr1 (Nat.ne_of_beq_eq_false rfl)
            have n502 : bu ≠ nq1 := hne k_bu k_nq1 (Nat.ne_of_beq_eq_false rfl)
            have n503 : bu ≠ eo := hne k_bu k_eo (Nat.ne_of_beq_eq_false rfl)
            have h504 : f280 bu = some (.inr (0, [.ref bs, .ref bp, .ref bh, .ref bf, .ref bl, .ref bg, .int (nI n), .int (nI cg), .int (nI x)])) := k358.1 _ _ k_bu (Nat.ne_of_beq_eq_false rfl) (ninc n503 (ninc n502 (ninc n501 nin0)))
            have n505 : bu ≠ nr0 := hne k_bu k_nr0 (Nat.ne_of_beq_eq_false rfl)
            have n506 : bu ≠ nq0 := hne k_bu k_nq0 (Nat.ne_of_beq_eq_false rfl)
            have n507 : bu ≠ ez := hne k_bu k_ez (Nat.ne_of_beq_eq_false rfl)
            have h508 : f441 bu = some (.inr (0, [.ref bs, .ref bp, .ref bh, .ref bf, .ref bl, .ref bg, .int (nI n), .int (nI cg), .int (nI x)])) := k444.1 _ _ h504 (Nat.ne_of_beq_eq_false rfl) (ninc n507 (ninc n506 (ninc n505 nin0)))
            have n509 : bs ≠ nr1 := hne k_bs k_nr1 (Nat.ne_of_beq_eq_false rfl)
            have n510 : bs ≠ nq1 := hneL k_bs k_nq1 (Nat.ne_of_beq_eq_false rfl)
            have n511 : bs ≠ eo := hne k_bs k_eo (Nat.ne_of_beq_eq_false rfl)
            have h512 : f280 bs = some (.inl (cI G, 61, .inl (nf sa))) := k358.1 _ _ k_bs (Nat.ne_of_beq_eq_false rfl) (ninc n511 (ninc n510 (ninc n509 nin0)))
            have n513 : bs ≠ nr0 := hne k_bs k_nr0 (Nat.ne_of_beq_eq_false rfl)
            have n514 : bs ≠ nq0 := hneL k_bs k_nq0 (Nat.ne_of_beq_eq_false rfl)
            have n515 : bs ≠ ez := hne k_bs k_ez (Nat.ne_of_beq_eq_false rfl)
            have h516 : f441 bs = some (.inl (cI G, 61, .inl (nf sa))) := k444.1 _ _ h512 (Nat.ne_of_beq_eq_false rfl) (ninc n515 (ninc n514 (ninc n513 nin0)))
            have n517 : bp ≠ nr1 := hne k_bp k_nr1 (Nat.ne_of_beq_eq_false rfl)
            have n518 : bp ≠ nq1 := hneL k_bp k_nq1 (Nat.ne_of_beq_eq_false rfl)
            have n519 : bp ≠ eo := hne k_bp k_eo (Nat.ne_of_beq_eq_false rfl)
            have h520 : f280 bp = some (.inl (cI G, 240, .inl (nf pk))) := k358.1 _ _ k_bp (Nat.ne_of_beq_eq_false rfl) (ninc n519 (ninc n518 (ninc n517 nin0)))
            have n521 : bp ≠ nr0 := hne k_bp k_nr0 (Nat.ne_of_beq_eq_false rfl)
            have n522 : bp ≠ nq0 := hneL k_bp k_nq0 (Nat.ne_of_beq_eq_false rfl)
            have n523 : bp ≠ ez := hne k_bp k_ez (Nat.ne_of_beq_eq_false rfl)
            have h524 : f441 bp = some (.inl (cI G, 240, .inl (nf pk))) := k444.1 _ _ h520 (Nat.ne_of_beq_eq_false rfl) (ninc n523 (ninc n522 (ninc n521 nin0)))
            have n525 : bh ≠ nr1 := hne k_bh k_nr1 (Nat.ne_of_beq_eq_false rfl)
            have n526 : bh ≠ nq1 := hneL k_bh k_nq1 (Nat.ne_of_beq_eq_false rfl)
            have n527 : bh ≠ eo := hne k_bh k_eo (Nat.ne_of_beq_eq_false rfl)
            have h528 : f280 bh = some (.inl (cZ G, 240, .inl gh)) := k358.1 _ _ k_bh (Nat.ne_of_beq_eq_false rfl) (ninc n527 (ninc n526 (ninc n525 nin0)))
            have n529 : bh ≠ nr0 := hne k_bh k_nr0 (Nat.ne_of_beq_eq_false rfl)
            have n530 : bh ≠ nq0 := hneL k_bh k_nq0 (Nat.ne_of_beq_eq_false rfl)
            have n531 : bh ≠ ez := hne k_bh k_ez (Nat.ne_of_beq_eq_false rfl)
            have h532 : f441 bh = some (.inl (cZ G, 240, .inl gh)) := k444.1 _ _ h528 (Nat.ne_of_beq_eq_false rfl) (ninc n531 (ninc n530 (ninc n529 nin0)))
            have n533 : bf ≠ nr1 := hne k_bf k_nr1 (Nat.ne_of_beq_eq_false rfl)
            have n534 : bf ≠ nq1 := hneL k_bf k_nq1 (Nat.ne_of_beq_eq_false rfl)
            have n535 : bf ≠ eo := hne k_bf k_eo (Nat.ne_of_beq_eq_false rfl)
            have h536 : f280 bf = some (.inl (cI G, 3, .inl (nf fl))) := k358.1 _ _ k_bf (Nat.ne_of_beq_eq_false rfl) (ninc n535 (ninc n534 (ninc n533 nin0)))
            have n537 : bf ≠ nr0 := hne k_bf k_nr0 (Nat.ne_of_beq_eq_false rfl)
            have n538 : bf ≠ nq0 := hneL k_bf k_nq0 (Nat.ne_of_beq_eq_false rfl)
            have n539 : bf ≠ ez := hne k_bf k_ez (Nat.ne_of_beq_eq_false rfl)
            have h540 : f441 bf = some (.inl (cI G, 3, .inl (nf fl))) := k444.1 _ _ h536 (Nat.ne_of_beq_eq_false rfl) (ninc n539 (ninc n538 (ninc n537 nin0)))
            have n541 : bl ≠ nr1 := hne k_bl k_nr1 (Nat.ne_of_beq_eq_false rfl)
            have n542 : bl ≠ nq1 := hneL k_bl k_nq1 (Nat.ne_of_beq_eq_false rfl)
            have n543 : bl ≠ eo := hne k_bl k_eo (Nat.ne_of_beq_eq_false rfl)
            have h544 : f280 bl = some (.inl (cI G, 3, .inl gl)) := k358.1 _ _ k_bl (Nat.ne_of_beq_eq_false rfl) (ninc n543 (ninc n542 (ninc n541 nin0)))
            have n545 : bl ≠ nr0 := hne k_bl k_nr0 (Nat.ne_of_beq_eq_false rfl)
            have n546 : bl ≠ nq0 := hneL k_bl k_nq0 (Nat.ne_of_beq_eq_false rfl)
            have n547 : bl ≠ ez := hne k_bl k_ez (Nat.ne_of_beq_eq_false rfl)
            have h548 : f441 bl = some (.inl (cI G, 3, .inl gl)) := k444.1 _ _ h544 (Nat.ne_of_beq_eq_false rfl) (ninc n547 (ninc n546 (ninc n545 nin0)))
            have n549 : bg ≠ nr1 := hne k_bg k_nr1 (Nat.ne_of_beq_eq_false rfl)
            have n550 : bg ≠ nq1 := hneL k_bg k_nq1 (Nat.ne_of_beq_eq_false rfl)
            have n551 : bg ≠ eo := hne k_bg k_eo (Nat.ne_of_beq_eq_false rfl)
            have h552 : f280 bg = some (.inl (cI G, 60, .inl (nf gv))) := k358.1 _ _ k_bg (Nat.ne_of_beq_eq_false rfl) (ninc n551 (ninc n550 (ninc n549 nin0)))
            have n553 : bg ≠ nr0 := hne k_bg k_nr0 (Nat.ne_of_beq_eq_false rfl)
            have n554 : bg ≠ nq0 := hneL k_bg k_nq0 (Nat.ne_of_beq_eq_false rfl)
            have n555 : bg ≠ ez := hne k_bg k_ez (Nat.ne_of_beq_eq_false rfl)
            have h556 : f441 bg = some (.inl (cI G, 60, .inl (nf gv))) := k444.1 _ _ h552 (Nat.ne_of_beq_eq_false rfl) (ninc n555 (ninc n554 (ninc n553 nin0)))
            exact hp_iret (v := x463) B0 hw hS hr ⟨Nat.le_of_ble_eq_true rfl, Nat.le_of_ble_eq_true rfl⟩ dX4_deliver_24 (⟨⟨_, rfl⟩, ⟨h479, ⟨_, _, _, _, _, _, _, _, _, _, h455, h456, h457, h458, h459, h460⟩, ⟨_, _, _, _, _, _, _, _, _, _, h473, h474, h475, (h372.kp (show hKp [xo, ez, eo, bu, nw0, na0, nq0, nr0, nw1, na1, nq1, nr1, bs, bp, bh, bf, bl, bg] f280 f441 from (k444.mono (fun x9 hx9 => by simp only [List.mem_cons, List.not_mem_nil, or_false] at hx9; rcases hx9 with hx9 | hx9 | hx9 <;> (rw [hx9]; simp))))), (h373.kp (show hKp [xo, ez, eo, bu, nw0, na0, nq0, nr0, nw1, na1, nq1, nr1, bs, bp, bh, bf, bl, bg] f280 f441 from (k444.mono (fun x9 hx9 => by simp only [List.mem_cons, List.not_mem_nil, or_false] at hx9; rcases hx9 with hx9 | hx9 | hx9 <;> (rw [hx9]; simp))))), h374⟩, h485, h488, h494, h500, h508, h516, h524, h532, h540, h548, h556, p443, hB9, hfl9, nd_ez_eo, nd_nr0_nr1, nd_nw0_na0, nd_nw0_nq0, nd_nw0_nw1, nd_nw0_na1, nd_nw0_nq1, nd_na0_nq0, nd_na0_nw1, nd_na0_na1, nd_na0_nq1, nd_nq0_nw1, nd_nq0_na1, nd_nq0_nq1, nd_nw1_na1, nd_nw1_nq1, nd_na1_nq1, nd_bh_bp, nd_bf_bl⟩, ((show hKp [xo, ez, eo, bu, nw0, na0, nq0, nr0, nw1, na1, nq1, nr1, bs, bp, bh, bf, bl, bg] f f280 from (k358.mono (fun x9 hx9 => by simp only [List.mem_cons, List.not_mem_nil, or_false] at hx9; rcases hx9 with hx9 | hx9 | hx9 <;> (rw [hx9]; simp)))).tr (show hKp [xo, ez, eo, bu, nw0, na0, nq0, nr0, nw1, na1, nq1, nr1, bs, bp, bh, bf, bl, bg] f280 f441 from (k444.mono (fun x9 hx9 => by simp only [List.mem_cons, List.not_mem_nil, or_false] at hx9; rcases hx9 with hx9 | hx9 | hx9 <;> (rw [hx9]; simp)))))⟩)

set_option maxHeartbeats 4000000 in
set_option maxRecDepth 100000 in
theorem c_W4_lose {l : Launch} (hl : l.stackTraces = false) (G : hG) (f : hM) (xo ez eo bu nw0 na0 nq0 nr0 nw1 na1 nq1 nr1 bs bp bh bf bl bg : Nat) (gw0 : Nat → Int32) (ga0 : Nat → Int32) (gw1 : Nat → Int32) (ga1 : Nat → Int32) (mg0 : Int32) (mg1 : Int32) (n : Nat) (a : Nat) (cg : Nat) (x : Nat) (sa : Nat → Nat) (pk : Nat → Nat) (fl : Nat → Nat) (gv : Nat → Nat) (gh : Nat → Int32) (gl : Nat → Int32) (hC : CW G f xo ez eo bu nw0 na0 nq0 nr0 nw1 na1 nq1 nr1 bs bp bh bf bl bg gw0 ga0 gw1 ga1 mg0 mg1 n a cg x sa pk fl gv gh gl) (i : Int32) : CT l yX4_lose (.code yX4_lose cX4_lose 4 (some .int)) 7 103 2 12 G [.ref xo, .int i] f (fun v f1 => (∃ r9 : Int32, v = some (.int r9)) ∧ CW G f1 xo ez eo bu nw0 na0 nq0 nr0 nw1 na1 nq1 nr1 bs bp bh bf bl bg gw0 ga0 gw1 ga1 mg0 mg1 n a cg x sa pk fl gv gh gl ∧ hKp [xo, ez, eo, bu, nw0, na0, nq0, nr0, nw1, na1, nq1, nr1, bs, bp, bh, bf, bl, bg] f f1) (fun E f1 => (E = eI ∨ E = eS) ∧ CW G f1 xo ez eo bu nw0 na0 nq0 nr0 nw1 na1 nq1 nr1 bs bp bh bf bl bg gw0 ga0 gw1 ga1 mg0 mg1 n a cg x sa pk fl gv gh gl ∧ hKp [xo, ez, eo, bu, nw0, na0, nq0, nr0, nw1, na1, nq1, nr1, bs, bp, bh, bf, bl, bg] f f1) := by
  refine hp_start hl (own := RX4) (by decide) rfl (Nat.le_of_ble_eq_true rfl) ?_
  intro p e s m args below meth c B0 hr hnm hout hw hS ls hl9
  have hx := B0.1
  have hb := B0.2.1
  have hl9 : lv_has ls 4 [(0, .ref xo), (1, .int i)] := hl9
  obtain ⟨k_xo, ⟨st0, tm0, sr0, li0, lp0, mi0, cn0, gq0, hd0, tl0, k_ez, k_nq0, k_nr0, fhd0, ftl0, blp0⟩, ⟨st1, tm1, sr1, li1, lp1, mi1, cn1, gq1, hd1, tl1, k_eo, k_nq1, k_nr1, fhd1, ftl1, blp1⟩, k_nw0, k_na0, k_nw1, k_na1, k_bu, k_bs, k_bp, k_bh, k_bf, k_bl, k_bg, hPx, hB9, hfl9, nd_ez_eo, nd_nr0_nr1, nd_nw0_na0, nd_nw0_nq0, nd_nw0_nw1, nd_nw0_na1, nd_nw0_nq1, nd_na0_nq0, nd_na0_nw1, nd_na0_na1, nd_na0_nq1, nd_nq0_nw1, nd_nq0_na1, nd_nq0_nq1, nd_nw1_na1, nd_nw1_nq1, nd_na1_nq1, nd_bh_bp, nd_bf_bl⟩ := id hC
  refine lv_aload_n hx hb dX4_lose_0 rfl (lv_at hl9 0 rfl) ?_
  refine lv_iload_n hx hb dX4_lose_1 rfl (lv_at hl9 1 rfl) ?_
  refine hp_V (ci := 4) (As := [.int i]) (rest := []) B0 hw hS (c_X4_endAt hl G f xo ez eo bu k_xo i) mV_X4_endAt qM_X4_28 rfl k_xo rfl rfl hl9.1 (Nat.le_of_ble_eq_true rfl) ⟨⟨Nat.le_of_ble_eq_true rfl, Nat.le_of_ble_eq_true rfl⟩, Nat.le_of_ble_eq_true rfl, Nat.le_of_ble_eq_true rfl⟩ dX4_lose_2 (fun E ce q9 f1 H locs hPX hw hS hce hcv hcl => ?_) (fun v f1 H locs hP hw hS => ?_)
  · obtain ⟨ef9, eE9, hE9⟩ := hPX
    rw [ef9] at hw
    subst eE9
    exact hp_out B0 hw hS hout hce hcv hcl ⟨Nat.le_of_ble_eq_true rfl, Nat.le_of_ble_eq_true rfl⟩ (⟨(Or.inl rfl), ⟨k_xo, ⟨_, _, _, _, _, _, _, _, _, _, k_ez, k_nq0, k_nr0, fhd0, ftl0, blp0⟩, ⟨_, _, _, _, _, _, _, _, _, _, k_eo, k_nq1, k_nr1, fhd1, ftl1, blp1⟩, k_nw0, k_na0, k_nw1, k_na1, k_bu, k_bs, k_bp, k_bh, k_bf, k_bl, k_bg, hPx, hB9, hfl9, nd_ez_eo, nd_nr0_nr1, nd_nw0_na0, nd_nw0_nq0, nd_nw0_nw1, nd_nw0_na1, nd_nw0_nq1, nd_na0_nq0, nd_na0_nw1, nd_na0_na1, nd_na0_nq1, nd_nq0_nw1, nd_nq0_na1, nd_nq0_nq1, nd_nw1_na1, nd_nw1_nq1, nd_na1_nq1, nd_bh_bp, nd_bf_bl⟩, hKp.rf⟩)
  · obtain ⟨ef9, hv9⟩ := hP
    rw [ef9] at hw
    rcases hv9 with ⟨k2, ev9⟩ | ⟨k2, ev9⟩
    · subst ev9
      refine W.eq (g2 := F0 m 5 ls [.ref ez]) rfl ?_
      refine lv_astore_n (lv' := [(2, .ref ez), (0, .ref xo), (1, .int i)]) hx hb dX4_lose_5 rfl hl9 (by decide) rfl (fun ls hl9 => ?_)
      refine lv_aload_n hx hb dX4_lose_6 rfl (lv_at hl9 0 rfl) ?_
      refine hp_S (As := [.ref ez]) (rest := []) B0 hw hS (c_X4_takeFrame hl G f ez nw0 na0 nq0 nr0 mg0 ⟨_, _, _, _, _, _, _, _, _, _, k_ez, k_nq0, k_nr0, fhd0, ftl0, blp0⟩ hPx) mS_X4_takeFrame qM_X4_73 rfl rfl hl9.1 (Nat.le_of_ble_eq_true rfl) ⟨⟨Nat.le_of_ble_eq_true rfl, Nat.le_of_ble_eq_true rfl⟩, Nat.le_of_ble_eq_true rfl, Nat.le_of_ble_eq_true rfl⟩ dX4_lose_7 (fun E ce q9 f3 H locs hPX hw hS hce hcv hcl => ?_) (fun v f3 H locs hP hw hS => ?_)
      · have hP := hPX
        obtain ⟨eE9, h4, p5, k6⟩ := hP
        obtain ⟨st7, tm8, sr9, li10, lp11, mi12, cn13, gq14, hd15, tl16, h17, h18, h19, h20, h21, h22⟩ := h4
        subst eE9
        have n23 : eo ≠ nr0 := hne k_eo k_nr0 (Nat.ne_of_beq_eq_false rfl)
        have n24 : eo ≠ nq0 := hne k_eo k_nq0 (Nat.ne_of_beq_eq_false rfl)
        have h25 : f3 eo = some (.inr (1, [.ref nw1, .ref na1, .ref nq1, .ref nr1, .int mg1, .int st1, .int tm1, .int sr1, .int li1, .int lp1, .int mi1])) := k6.1 _ _ k_eo (Nat.ne_of_beq_eq_false rfl) (ninc (Ne.symm nd_ez_eo) (ninc n24 (ninc n23 nin0)))
        have n26 : nq1 ≠ nr0 := hne k_nq1 k_nr0 (Nat.ne_of_beq_eq_false rfl)
        have n27 : nq1 ≠ ez := hne k_nq1 k_ez (Nat.ne_of_beq_eq_false rfl)
        have h28 : f3 nq1 = some (.inl (cI G, 6, .inl gq1)) := k6.1 _ _ k_nq1 (Nat.ne_of_beq_eq_false rfl) (ninc n27 (ninc (Ne.symm nd_nq0_nq1) (ninc n26 nin0)))
        have n29 : nr1 ≠ nq0 := hne k_nr1 k_nq0 (Nat.ne_of_beq_eq_false rfl)
        have n30 : nr1 ≠ ez := hne k_nr1 k_ez (Nat.ne_of_beq_eq_false rfl)
        have h31 : f3 nr1 = some (.inr (3, [hd1, tl1, .int cn1])) := k6.1 _ _ k_nr1 (Nat.ne_of_beq_eq_false rfl) (ninc n30 (ninc n29 (ninc (Ne.symm nd_nr0_nr1) nin0)))
        have n32 : xo ≠ nr0 := hne k_xo k_nr0 (Nat.ne_of_beq_eq_false rfl)
        have n33 : xo ≠ nq0 := hne k_xo k_nq0 (Nat.ne_of_beq_eq_false rfl)
        have n34 : xo ≠ ez := hne k_xo k_ez (Nat.ne_of_beq_eq_false rfl)
        have h35 : f3 xo = some (.inr (4, [.ref ez, .ref eo, .ref bu])) := k6.1 _ _ k_xo (Nat.ne_of_beq_eq_false rfl) (ninc n34 (ninc n33 (ninc n32 nin0)))
        have n36 : nw0 ≠ nr0 := hne k_nw0 k_nr0 (Nat.ne_of_beq_eq_false rfl)
        have n37 : nw0 ≠ ez := hne k_nw0 k_ez (Nat.ne_of_beq_eq_false rfl)
        have h38 : f3 nw0 = some (.inl (cI G, 6, .inl gw0)) := k6.1 _ _ k_nw0 (Nat.ne_of_beq_eq_false rfl) (ninc n37 (ninc nd_nw0_nq0 (ninc n36 nin0)))
        have n39 : na0 ≠ nr0 := hne k_na0 k_nr0 (Nat.ne_of_beq_eq_false rfl)
        have n40 : na0 ≠ ez := hne k_na0 k_ez (Nat.ne_of_beq_eq_false rfl)
        have h41 : f3 na0 = some (.inl (cI G, 6, .inl ga0)) := k6.1 _ _ k_na0 (Nat.ne_of_beq_eq_false rfl) (ninc n40 (ninc nd_na0_nq0 (ninc n39 nin0)))
        have n42 : nw1 ≠ nr0 := hne k_nw1 k_nr0 (Nat.ne_of_beq_eq_false rfl)
        have n43 : nw1 ≠ ez := hne k_nw1 k_ez (Nat.ne_of_beq_eq_false rfl)
        have h44 : f3 nw1 = some (.inl (cI G, 6, .inl gw1)) := k6.1 _ _ k_nw1 (Nat.ne_of_beq_eq_false rfl) (ninc n43 (ninc (Ne.symm nd_nq0_nw1) (ninc n42 nin0)))
        have n45 : na1 ≠ nr0 := hne k_na1 k_nr0 (Nat.ne_of_beq_eq_false rfl)
        have n46 : na1 ≠ ez := hne k_na1 k_ez (Nat.ne_of_beq_eq_false rfl)
        have h47 : f3 na1 = some (.inl (cI G, 6, .inl ga1)) := k6.1 _ _ k_na1 (Nat.ne_of_beq_eq_false rfl) (ninc n46 (ninc (Ne.symm nd_nq0_na1) (ninc n45 nin0)))
        have n48 : bu ≠ nr0 := hne k_bu k_nr0 (Nat.ne_of_beq_eq_false rfl)
        have n49 : bu ≠ nq0 := hne k_bu k_nq0 (Nat.ne_of_beq_eq_false rfl)
        have n50 : bu ≠ ez := hne k_bu k_ez (Nat.ne_of_beq_eq_false rfl)
        have h51 : f3 bu = some (.inr (0, [.ref bs, .ref bp, .ref bh, .ref bf, .ref bl, .ref bg, .int (nI n), .int (nI cg), .int (nI x)])) := k6.1 _ _ k_bu (Nat.ne_of_beq_eq_false rfl) (ninc n50 (ninc n49 (ninc n48 nin0)))
        have n52 : bs ≠ nr0 := hne k_bs k_nr0 (Nat.ne_of_beq_eq_false rfl)
        have n53 : bs ≠ nq0 := hneL k_bs k_nq0 (Nat.ne_of_beq_eq_false rfl)
        have n54 : bs ≠ ez := hne k_bs k_ez (Nat.ne_of_beq_eq_false rfl)
        have h55 : f3 bs = some (.inl (cI G, 61, .inl (nf sa))) := k6.1 _ _ k_bs (Nat.ne_of_beq_eq_false rfl) (ninc n54 (ninc n53 (ninc n52 nin0)))
        have n56 : bp ≠ nr0 := hne k_bp k_nr0 (Nat.ne_of_beq_eq_false rfl)
        have n57 : bp ≠ nq0 := hneL k_bp k_nq0 (Nat.ne_of_beq_eq_false rfl)
        have n58 : bp ≠ ez := hne k_bp k_ez (Nat.ne_of_beq_eq_false rfl)
        have h59 : f3 bp = some (.inl (cI G, 240, .inl (nf pk))) := k6.1 _ _ k_bp (Nat.ne_of_beq_eq_false rfl) (ninc n58 (ninc n57 (ninc n56 nin0)))
        have n60 : bh ≠ nr0 := hne k_bh k_nr0 (Nat.ne_of_beq_eq_false rfl)
        have n61 : bh ≠ nq0 := hneL k_bh k_nq0 (Nat.ne_of_beq_eq_false rfl)
        have n62 : bh ≠ ez := hne k_bh k_ez (Nat.ne_of_beq_eq_false rfl)
        have h63 : f3 bh = some (.inl (cZ G, 240, .inl gh)) := k6.1 _ _ k_bh (Nat.ne_of_beq_eq_false rfl) (ninc n62 (ninc n61 (ninc n60 nin0)))
        have n64 : bf ≠ nr0 := hne k_bf k_nr0 (Nat.ne_of_beq_eq_false rfl)
        have n65 : bf ≠ nq0 := hneL k_bf k_nq0 (Nat.ne_of_beq_eq_false rfl)
        have n66 : bf ≠ ez := hne k_bf k_ez (Nat.ne_of_beq_eq_false rfl)
        have h67 : f3 bf = some (.inl (cI G, 3, .inl (nf fl))) := k6.1 _ _ k_bf (Nat.ne_of_beq_eq_false rfl) (ninc n66 (ninc n65 (ninc n64 nin0)))
        have n68 : bl ≠ nr0 := hne k_bl k_nr0 (Nat.ne_of_beq_eq_false rfl)
        have n69 : bl ≠ nq0 := hneL k_bl k_nq0 (Nat.ne_of_beq_eq_false rfl)
        have n70 : bl ≠ ez := hne k_bl k_ez (Nat.ne_of_beq_eq_false rfl)
        have h71 : f3 bl = some (.inl (cI G, 3, .inl gl)) := k6.1 _ _ k_bl (Nat.ne_of_beq_eq_false rfl) (ninc n70 (ninc n69 (ninc n68 nin0)))
        have n72 : bg ≠ nr0 := hne k_bg k_nr0 (Nat.ne_of_beq_eq_false rfl)
        have n73 : bg ≠ nq0 := hneL k_bg k_nq0 (Nat.ne_of_beq_eq_false rfl)
        have n74 : bg ≠ ez := hne k_bg k_ez (Nat.ne_of_beq_eq_false rfl)
        have h75 : f3 bg = some (.inl (cI G, 60, .inl (nf gv))) := k6.1 _ _ k_bg (Nat.ne_of_beq_eq_false rfl) (ninc n74 (ninc n73 (ninc n72 nin0)))
        exact hp_out B0 hw hS hout hce hcv hcl ⟨Nat.le_of_ble_eq_true rfl, Nat.le_of_ble_eq_true rfl⟩ (⟨(Or.inr rfl), ⟨h35, ⟨_, _, _, _, _, _, _, _, _, _, h17, h18, h19, h20, h21, h22⟩, ⟨_, _, _, _, _, _, _, _, _, _, h25, h28, h31, (fhd1.kp (show hKp [xo, ez, eo, bu, nw0, na0, nq0, nr0, nw1, na1, nq1, nr1, bs, bp, bh, bf, bl, bg] f f3 from (k6.mono (fun x9 hx9 => by simp only [List.mem_cons, List.not_mem_nil, or_false] at hx9; rcases hx9 with hx9 | hx9 | hx9 <;> (rw [hx9]; simp))))), (ftl1.kp (show hKp [xo, ez, eo, bu, nw0, na0, nq0, nr0, nw1, na1, nq1, nr1, bs, bp, bh, bf, bl, bg] f f3 from (k6.mono (fun x9 hx9 => by simp only [List.mem_cons, List.not_mem_nil, or_false] at hx9; rcases hx9 with hx9 | hx9 | hx9 <;> (rw [hx9]; simp))))), blp1⟩, h38, h41, h44, h47, h51, h55, h59, h63, h67, h71, h75, p5, hB9, hfl9, nd_ez_eo, nd_nr0_nr1, nd_nw0_na0, nd_nw0_nq0, nd_nw0_nw1, nd_nw0_na1, nd_nw0_nq1, nd_na0_nq0, nd_na0_nw1, nd_na0_na1, nd_na0_nq1, nd_nq0_nw1, nd_nq0_na1, nd_nq0_nq1, nd_nw1_na1, nd_nw1_nq1, nd_na1_nq1, nd_bh_bp, nd_bf_bl⟩, (show hKp [xo, ez, eo, bu, nw0, na0, nq0, nr0, nw1, na1, nq1, nr1, bs, bp, bh, bf, bl, bg] f f3 from (k6.mono (fun x9 hx9 => by simp only [List.mem_cons, List.not_mem_nil, or_false] at hx9; rcases hx9 with hx9 | hx9 | hx9 <;> (rw [hx9]; simp))))⟩)
      · obtain ⟨⟨t76, k77, ev9, h78⟩, h79, p80, k81⟩ := hP
        obtain ⟨st82, tm83, sr84, li85, lp86, mi87, cn88, gq89, hd90, tl91, h92, h93, h94, h95, h96, h97⟩ := h79
        subst ev9
        refine W.eq (g2 := F0 m 10 ls [.ref t76]) rfl ?_
        refine lv_astore_n (lv' := [(3, .ref t76), (2, .ref ez), (0, .ref xo), (1, .int i)]) hx hb dX4_lose_10 rfl hl9 (by decide) rfl (fun ls hl9 => ?_)
        refine lv_aload_n hx hb dX4_lose_11 rfl (lv_at hl9 1 rfl) ?_
        refine lv_dup hx hb dX4_lose_12 rfl ?_
        refine hp_getN B0 hw 1 rfl in_X1 h92 10 (by decide) oF_X4_86 rfl dX4_lose_13 ?_
        refine lv_iconst (v := 1) hx hb dX4_lose_16 (by decide) ?_
        refine lv_iadd hx hb dX4_lose_17 ?_
        refine hp_putN (fs1 := [.ref nw0, .ref na0, .ref nq0, .ref nr0, .int mg0, .int st82, .int tm83, .int sr84, .int li85, .int lp86, .int (mi87 + 1)]) (ty := .int) B0 hw hS 1 rfl in_X1 tyX1 tyX1_ok nmX1 h92 10 (by decide) oF_X4_86 rfl (by decide +kernel) rfl rfl (Nat.le_of_ble_eq_true rfl) rfl dX4_lose_18 (fun H locs f98 ef98 hw hS => ?_)
        have h99 : f98 ez = some (.inr (1, [.ref nw0, .ref na0, .ref nq0, .ref nr0, .int mg0, .int st82, .int tm83, .int sr84, .int li85, .int lp86, .int (mi87 + 1)])) := by rw [ef98, va_up_self]
        refine lv_aload_n hx hb dX4_lose_21 rfl (lv_at hl9 0 rfl) ?_
        have n101 : t76 ≠ ez := hne h78 h92 (Nat.ne_of_beq_eq_false rfl)
        have h100 : f98 t76 = some (.inr (2, k77)) := by rw [ef98, va_up_ne _ _ n101]; exact h78
        have p102 : PoolX G [] f98 := by rw [ef98]; exact px_upd p80 h92 (Nat.ne_of_beq_eq_false rfl) (Nat.ne_of_beq_eq_false rfl) (fun g9 h9 => nomatch h9)
        obtain ⟨x103, x104, x105, v106, y107, g108, e109, h110, h111⟩ := p102 _ _ h100 nin0
        rw [e109] at h100
        refine hp_get B0 hw 2 rfl in_X2 h100 0 (by decide) qF_X4_81 rfl dX4_lose_22 ?_
        have n114 : nq0 ≠ ez := hne k_nq0 k_ez (Nat.ne_of_beq_eq_false rfl)
        have h113 : f98 nq0 = some (.inl (cI G, 6, .inl gq89)) := by rw [ef98, va_up_ne _ _ n114]; exact h93
        have n116 : nr0 ≠ ez := hne k_nr0 k_ez (Nat.ne_of_beq_eq_false rfl)
        have h115 : f98 nr0 = some (.inr (3, [hd90, tl91, .int cn88])) := by rw [ef98, va_up_ne _ _ n116]; exact h94
        have n117 : eo ≠ nr0 := hne k_eo k_nr0 (Nat.ne_of_beq_eq_false rfl)
        have n118 : eo ≠ nq0 := hne k_eo k_nq0 (Nat.ne_of_beq_eq_false rfl)
        have h119 : f3 eo = some (.inr (1, [.ref nw1, .ref na1, .ref nq1, .ref nr1, .int mg1, .int st1, .int tm1, .int sr1, .int li1, .int lp1, .int mi1])) := k81.1 _ _ k_eo (Nat.ne_of_beq_eq_false rfl) (ninc (Ne.symm nd_ez_eo) (ninc n118 (ninc n117 nin0)))
        have h120 : f98 eo = some (.inr (1, [.ref nw1, .ref na1, .ref nq1, .ref nr1, .int mg1, .int st1, .int tm1, .int sr1, .int li1, .int lp1, .int mi1])) := by rw [ef98, va_up_ne _ _ (Ne.symm nd_ez_eo)]; exact h119
        have n121 : nq1 ≠ nr0 := hne k_nq1 k_nr0 (Nat.ne_of_beq_eq_false rfl)
        have n122 : nq1 ≠ ez := hne k_nq1 k_ez (Nat.ne_of_beq_eq_false rfl)
        have h123 : f3 nq1 = some (.inl (cI G, 6, .inl gq1)) := k81.1 _ _ k_nq1 (Nat.ne_of_beq_eq_false rfl) (ninc n122 (ninc (Ne.symm nd_nq0_nq1) (ninc n121 nin0)))
        have h124 : f98 nq1 = some (.inl (cI G, 6, .inl gq1)) := by rw [ef98, va_up_ne _ _ n122]; exact h123
        have n125 : nr1 ≠ nq0 := hne k_nr1 k_nq0 (Nat.ne_of_beq_eq_false rfl)
        have n126 : nr1 ≠ ez := hne k_nr1 k_ez (Nat.ne_of_beq_eq_false rfl)
        have h127 : f3 nr1 = some (.inr (3, [hd1, tl1, .int cn1])) := k81.1 _ _ k_nr1 (Nat.ne_of_beq_eq_false rfl) (ninc n126 (ninc n125 (ninc (Ne.symm nd_nr0_nr1) nin0)))
        have h128 : f98 nr1 = some (.inr (3, [hd1, tl1, .int cn1])) := by rw [ef98, va_up_ne _ _ n126]; exact h127
        have n129 : xo ≠ nr0 := hne k_xo k_nr0 (Nat.ne_of_beq_eq_false rfl)
        have n130 : xo ≠ nq0 := hne k_xo k_nq0 (Nat.ne_of_beq_eq_false rfl)
        have n131 : xo ≠ ez := hne k_xo k_ez (Nat.ne_of_beq_eq_false rfl)
        have h132 : f3 xo = some (.inr (4, [.ref ez, .ref eo, .ref bu])) := k81.1 _ _ k_xo (Nat.ne_of_beq_eq_false rfl) (ninc n131 (ninc n130 (ninc n129 nin0)))
        have h133 : f98 xo = some (.inr (4, [.ref ez, .ref eo, .ref bu])) := by rw [ef98, va_up_ne _ _ n131]; exact h132
        have n134 : nw0 ≠ nr0 := hne k_nw0 k_nr0 (Nat.ne_of_beq_eq_false rfl)
        have n135 : nw0 ≠ ez := hne k_nw0 k_ez (Nat.ne_of_beq_eq_false rfl)
        have h136 : f3 nw0 = some (.inl (cI G, 6, .inl gw0)) := k81.1 _ _ k_nw0 (Nat.ne_of_beq_eq_false rfl) (ninc n135 (ninc nd_nw0_nq0 (ninc n134 nin0)))
        have h137 : f98 nw0 = some (.inl (cI G, 6, .inl gw0)) := by rw [ef98, va_up_ne _ _ n135]; exact h136
        have n138 : na0 ≠ nr0 := hne k_na0 k_nr0 (Nat.ne_of_beq_eq_false rfl)
        have n139 : na0 ≠ ez := hne k_na0 k_ez (Nat.ne_of_beq_eq_false rfl)
        have h140 : f3 na0 = some (.inl (cI G, 6, .inl ga0)) := k81.1 _ _ k_na0 (Nat.ne_of_beq_eq_false rfl) (ninc n139 (ninc nd_na0_nq0 (ninc n138 nin0)))
        have h141 : f98 na0 = some (.inl (cI G, 6, .inl ga0)) := by rw [ef98, va_up_ne _ _ n139]; exact h140
        have n142 : nw1 ≠ nr0 := hne k_nw1 k_nr0 (Nat.ne_of_beq_eq_false rfl)
        have n143 : nw1 ≠ ez := hne k_nw1 k_ez (Nat.ne_of_beq_eq_false rfl)
        have h144 : f3 nw1 = some (.inl (cI G, 6, .inl gw1)) := k81.1 _ _ k_nw1 (Nat.ne_of_beq_eq_false rfl) (ninc n143 (ninc (Ne.symm nd_nq0_nw1) (ninc n142 nin0)))
        have h145 : f98 nw1 = some (.inl (cI G, 6, .inl gw1)) := by rw [ef98, va_up_ne _ _ n143]; exact h144
        have n146 : na1 ≠ nr0 := hne k_na1 k_nr0 (Nat.ne_of_beq_eq_false rfl)
        have n147 : na1 ≠ ez := hne k_na1 k_ez (Nat.ne_of_beq_eq_false rfl)
        have h148 : f3 na1 = some (.inl (cI G, 6, .inl ga1)) := k81.1 _ _ k_na1 (Nat.ne_of_beq_eq_false rfl) (ninc n147 (ninc (Ne.symm nd_nq0_na1) (ninc n146 nin0)))
        have h149 : f98 na1 = some (.inl (cI G, 6, .inl ga1)) := by rw [ef98, va_up_ne _ _ n147]; exact h148
        have n150 : bu ≠ nr0 := hne k_bu k_nr0 (Nat.ne_of_beq_eq_false rfl)
        have n151 : bu ≠ nq0 := hne k_bu k_nq0 (Nat.ne_of_beq_eq_false rfl)
        have n152 : bu ≠ ez := hne k_bu k_ez (Nat.ne_of_beq_eq_false rfl)
        have h153 : f3 bu = some (.inr (0, [.ref bs, .ref bp, .ref bh, .ref bf, .ref bl, .ref bg, .int (nI n), .int (nI cg), .int (nI x)])) := k81.1 _ _ k_bu (Nat.ne_of_beq_eq_false rfl) (ninc n152 (ninc n151 (ninc n150 nin0)))
        have h154 : f98 bu = some (.inr (0, [.ref bs, .ref bp, .ref bh, .ref bf, .ref bl, .ref bg, .int (nI n), .int (nI cg), .int (nI x)])) := by rw [ef98, va_up_ne _ _ n152]; exact h153
        have n155 : bs ≠ nr0 := hne k_bs k_nr0 (Nat.ne_of_beq_eq_false rfl)
        have n156 : bs ≠ nq0 := hneL k_bs k_nq0 (Nat.ne_of_beq_eq_false rfl)
        have n157 : bs ≠ ez := hne k_bs k_ez (Nat.ne_of_beq_eq_false rfl)
        have h158 : f3 bs = some (.inl (cI G, 61, .inl (nf sa))) := k81.1 _ _ k_bs (Nat.ne_of_beq_eq_false rfl) (ninc n157 (ninc n156 (ninc n155 nin0)))
        have h159 : f98 bs = some (.inl (cI G, 61, .inl (nf sa))) := by rw [ef98, va_up_ne _ _ n157]; exact h158
        have n160 : bp ≠ nr0 := hne k_bp k_nr0 (Nat.ne_of_beq_eq_false rfl)
        have n161 : bp ≠ nq0 := hneL k_bp k_nq0 (Nat.ne_of_beq_eq_false rfl)
        have n162 : bp ≠ ez := hne k_bp k_ez (Nat.ne_of_beq_eq_false rfl)
        have h163 : f3 bp = some (.inl (cI G, 240, .inl (nf pk))) := k81.1 _ _ k_bp (Nat.ne_of_beq_eq_false rfl) (ninc n162 (ninc n161 (ninc n160 nin0)))
        have h164 : f98 bp = some (.inl (cI G, 240, .inl (nf pk))) := by rw [ef98, va_up_ne _ _ n162]; exact h163
        have n165 : bh ≠ nr0 := hne k_bh k_nr0 (Nat.ne_of_beq_eq_false rfl)
        have n166 : bh ≠ nq0 := hneL k_bh k_nq0 (Nat.ne_of_beq_eq_false rfl)
        have n167 : bh ≠ ez := hne k_bh k_ez (Nat.ne_of_beq_eq_false rfl)
        have h168 : f3 bh = some (.inl (cZ G, 240, .inl gh)) := k81.1 _ _ k_bh (Nat.ne_of_beq_eq_false rfl) (ninc n167 (ninc n166 (ninc n165 nin0)))
        have h169 : f98 bh = some (.inl (cZ G, 240, .inl gh)) := by rw [ef98, va_up_ne _ _ n167]; exact h168
        have n170 : bf ≠ nr0 := hne k_bf k_nr0 (Nat.ne_of_beq_eq_false rfl)
        have n171 : bf ≠ nq0 := hneL k_bf k_nq0 (Nat.ne_of_beq_eq_false rfl)
        have n172 : bf ≠ ez := hne k_bf k_ez (Nat.ne_of_beq_eq_false rfl)
        have h173 : f3 bf = some (.inl (cI G, 3, .inl (nf fl))) := k81.1 _ _ k_bf (Nat.ne_of_beq_eq_false rfl) (ninc n172 (ninc n171 (ninc n170 nin0)))
        have h174 : f98 bf = some (.inl (cI G, 3, .inl (nf fl))) := by rw [ef98, va_up_ne _ _ n172]; exact h173
        have n175 : bl ≠ nr0 := hne k_bl k_nr0 (Nat.ne_of_beq_eq_false rfl)
        have n176 : bl ≠ nq0 := hneL k_bl k_nq0 (Nat.ne_of_beq_eq_false rfl)
        have n177 : bl ≠ ez := hne k_bl k_ez (Nat.ne_of_beq_eq_false rfl)
        have h178 : f3 bl = some (.inl (cI G, 3, .inl gl)) := k81.1 _ _ k_bl (Nat.ne_of_beq_eq_false rfl) (ninc n177 (ninc n176 (ninc n175 nin0)))
        have h179 : f98 bl = some (.inl (cI G, 3, .inl gl)) := by rw [ef98, va_up_ne _ _ n177]; exact h178
        have n180 : bg ≠ nr0 := hne k_bg k_nr0 (Nat.ne_of_beq_eq_false rfl)
        have n181 : bg ≠ nq0 := hneL k_bg k_nq0 (Nat.ne_of_beq_eq_false rfl)
        have n182 : bg ≠ ez := hne k_bg k_ez (Nat.ne_of_beq_eq_false rfl)
        have h183 : f3 bg = some (.inl (cI G, 60, .inl (nf gv))) := k81.1 _ _ k_bg (Nat.ne_of_beq_eq_false rfl) (ninc n182 (ninc n181 (ninc n180 nin0)))
        have h184 : f98 bg = some (.inl (cI G, 60, .inl (nf gv))) := by rw [ef98, va_up_ne _ _ n182]; exact h183
        exact hp_iret (v := x103) B0 hw hS hr ⟨Nat.le_of_ble_eq_true rfl, Nat.le_of_ble_eq_true rfl⟩ dX4_lose_25 (⟨⟨_, rfl⟩, ⟨h133, ⟨_, _, _, _, _, _, _, _, _, _, h99, h113, h115, (h95.kp (show hKp [xo, ez, eo, bu, nw0, na0, nq0, nr0, nw1, na1, nq1, nr1, bs, bp, bh, bf, bl, bg] f3 f98 from (by rw [ef98]; exact hKp.up h92 (Nat.ne_of_beq_eq_false rfl) (by simp)))), (h96.kp (show hKp [xo, ez, eo, bu, nw0, na0, nq0, nr0, nw1, na1, nq1, nr1, bs, bp, bh, bf, bl, bg] f3 f98 from (by rw [ef98]; exact hKp.up h92 (Nat.ne_of_beq_eq_false rfl) (by simp)))), h97⟩, ⟨_, _, _, _, _, _, _, _, _, _, h120, h124, h128, (fhd1.kp ((show hKp [xo, ez, eo, bu, nw0, na0, nq0, nr0, nw1, na1, nq1, nr1, bs, bp, bh, bf, bl, bg] f f3 from (k81.mono (fun x9 hx9 => by simp only [List.mem_cons, List.not_mem_nil, or_false] at hx9; rcases hx9 with hx9 | hx9 | hx9 <;> (rw [hx9]; simp)))).tr (show hKp [xo, ez, eo, bu, nw0, na0, nq0, nr0, nw1, na1, nq1, nr1, bs, bp, bh, bf, bl, bg] f3 f98 from (by rw [ef98]; exact hKp.up h92 (Nat.ne_of_beq_eq_false rfl) (by simp))))), (ftl1.kp ((show hKp [xo, ez, eo, bu, nw0, na0, nq0, nr0, nw1, na1, nq1, nr1, bs, bp, bh, bf, bl, bg] f f3 from (k81.mono (fun x9 hx9 => by simp only [List.mem_cons, List.not_mem_nil, or_false] at hx9; rcases hx9 with hx9 | hx9 | hx9 <;> (rw [hx9]; simp)))).tr (show hKp [xo, ez, eo, bu, nw0, na0, nq0, nr0, nw1, na1, nq1, nr1, bs, bp, bh, bf, bl, bg] f3 f98 from (by rw [ef98]; exact hKp.up h92 (Nat.ne_of_beq_eq_false rfl) (by simp))))), blp1⟩, h137, h141, h145, h149, h154, h159, h164, h169, h174, h179, h184, p102, hB9, hfl9, nd_ez_eo, nd_nr0_nr1, nd_nw0_na0, nd_nw0_nq0, nd_nw0_nw1, nd_nw0_na1, nd_nw0_nq1, nd_na0_nq0, nd_na0_nw1, nd_na0_na1, nd_na0_nq1, nd_nq0_nw1, nd_nq0_na1, nd_nq0_nq1, nd_nw1_na1, nd_nw1_nq1, nd_na1_nq1, nd_bh_bp, nd_bf_bl⟩, ((show hKp [xo, ez, eo, bu, nw0, na0, nq0, nr0, nw1, na1, nq1, nr1, bs, bp, bh, bf, bl, bg] f f3 from (k81.mono (fun x9 hx9 => by simp only [List.mem_cons, List.not_mem_nil, or_false] at hx9; rcases hx9 with hx9 | hx9 | hx9 <;> (rw [hx9]; simp)))).tr (show hKp [xo, ez, eo, bu, nw0, na0, nq0, nr0, nw1, na1, nq1, nr1, bs, bp, bh, bf, bl, bg] f3 f98 from (by rw [ef98]; exact hKp.up h92 (Nat.ne_of_beq_eq_false rfl) (by simp))))⟩)
    · subst ev9
      refine W.eq (g2 := F0 m 5 ls [.ref eo]) rfl ?_
      refine lv_astore_n (lv' := [(2, .ref eo), (0, .ref xo), (1, .int i)]) hx hb dX4_lose_5 rfl hl9 (by decide) rfl (fun ls hl9 => ?_)
      refine lv_aload_n hx hb dX4_lose_6 rfl (lv_at hl9 0 rfl) ?_
      refine hp_S (As := [.ref eo]) (rest := []) B0 hw hS (c_X4_takeFrame hl G f eo nw1 na1 nq1 nr1 mg1 ⟨_, _, _, _, _, _, _, _, _, _, k_eo, k_nq1, k_nr1, fhd1, ftl1, blp1⟩ hPx) mS_X4_takeFrame qM_X4_73 rfl rfl hl9.1 (Nat.le_of_ble_eq_true rfl) ⟨⟨Nat.le_of_ble_eq_true rfl, Nat.le_of_ble_eq_true rfl⟩, Nat.le_of_ble_eq_true rfl, Nat.le_of_ble_eq_true rfl⟩ dX4_lose_7 (fun E ce q9 f185 H locs hPX hw hS hce hcv hcl => ?_) (fun v f185 H locs hP hw hS => ?_)
      · have hP := hPX
        obtain ⟨eE9, h186, p187, k188⟩ := hP
        obtain ⟨st189, tm190, sr191, li192, lp193, mi194, cn195, gq196, hd197, tl198, h199, h200, h201, h202, h203, h204⟩ := h186
        subst eE9
        have n205 : ez ≠ nr1 := hne k_ez k_nr1 (Nat.ne_of_beq_eq_false rfl)
        have n206 : ez ≠ nq1 := hne k_ez k_nq1 (Nat.ne_of_beq_eq_false rfl)
        have h207 : f185 ez = some (.inr (1, [.ref nw0, .ref na0, .ref nq0, .ref nr0, .int mg0, .int st0, .int tm0, .int sr0, .int li0, .int lp0, .int mi0])) := k188.1 _ _ k_ez (Nat.ne_of_beq_eq_false rfl) (ninc nd_ez_eo (ninc n206 (ninc n205 nin0)))
        have n208 : nq0 ≠ nr1 := hne k_nq0 k_nr1 (Nat.ne_of_beq_eq_false rfl)
        have n209 : nq0 ≠ eo := hne k_nq0 k_eo (Nat.ne_of_beq_eq_false rfl)
        have h210 : f185 nq0 = some (.inl (cI G, 6, .inl gq0)) := k188.1 _ _ k_nq0 (Nat.ne_of_beq_eq_false rfl) (ninc n209 (ninc nd_nq0_nq1 (ninc n208 nin0)))
        have n211 : nr0 ≠ nq1 := hne k_nr0 k_nq1 (Nat.ne_of_beq_eq_false rfl)
        have n212 : nr0 ≠ eo := hne k_nr0 k_eo (Nat.ne_of_beq_eq_false rfl)
        have h213 : f185 nr0 = some (.inr (3, [hd0, tl0, .int cn0])) := k188.1 _ _ k_nr0 (Nat.ne_of_beq_eq_false rfl) (ninc n212 (ninc n211 (ninc nd_nr0_nr1 nin0)))
        have n214 : xo ≠ nr1 := hne k_xo k_nr1 (Nat.ne_of_beq_eq_false rfl)
        have n215 : xo ≠ nq1 := hne k_xo k_nq1 (Nat.ne_of_beq_eq_false rfl)
        have n216 : xo ≠ eo := hne k_xo k_eo (Nat.ne_of_beq_eq_false rfl)
        have h217 : f185 xo = some (.inr (4, [.ref ez, .ref eo, .ref bu])) := k188.1 _ _ k_xo (Nat.ne_of_beq_eq_false rfl) (ninc n216 (ninc n215 (ninc n214 nin0)))
        have n218 : nw0 ≠ nr1 := hne k_nw0 k_nr1 (Nat.ne_of_beq_eq_false rfl)
        have n219 : nw0 ≠ eo := hne k_nw0 k_eo (Nat.ne_of_beq_eq_false rfl)
        have h220 : f185 nw0 = some (.inl (cI G, 6, .inl gw0)) := k188.1 _ _ k_nw0 (Nat.ne_of_beq_eq_false rfl) (ninc n219 (ninc nd_nw0_nq1 (ninc n218 nin0)))
        have n221 : na0 ≠ nr1 := hne k_na0 k_nr1 (Nat.ne_of_beq_eq_false rfl)
        have n222 : na0 ≠ eo := hne k_na0 k_eo (Nat.ne_of_beq_eq_false rfl)
        have h223 : f185 na0 = some (.inl (cI G, 6, .inl ga0)) := k188.1 _ _ k_na0 (Nat.ne_of_beq_eq_false rfl) (ninc n222 (ninc nd_na0_nq1 (ninc n221 nin0)))
        have n224 : nw1 ≠ nr1 := hne k_nw1 k_nr1 (Nat.ne_of_beq_eq_false rfl)
        have n225 : nw1 ≠ eo := hne k_nw1 k_eo (Nat.ne_of_beq_eq_false rfl)
        have h226 : f185 nw1 = some (.inl (cI G, 6, .inl gw1)) := k188.1 _ _ k_nw1 (Nat.ne_of_beq_eq_false rfl) (ninc n225 (ninc nd_nw1_nq1 (ninc n224 nin0)))
        have n227 : na1 ≠ nr1 := hne k_na1 k_nr1 (Nat.ne_of_beq_eq_false rfl)
        have n228 : na1 ≠ eo := hne k_na1 k_eo (Nat.ne_of_beq_eq_false rfl)
        have h229 : f185 na1 = some (.inl (cI G, 6, .inl ga1)) := k188.1 _ _ k_na1 (Nat.ne_of_beq_eq_false rfl) (ninc n228 (ninc nd_na1_nq1 (ninc n227 nin0)))
        have n230 : bu ≠ nr1 := hne k_bu k_nr1 (Nat.ne_of_beq_eq_false rfl)
        have n231 : bu ≠ nq1 := hne k_bu k_nq1 (Nat.ne_of_beq_eq_false rfl)
        have n232 : bu ≠ eo := hne k_bu k_eo (Nat.ne_of_beq_eq_false rfl)
        have h233 : f185 bu = some (.inr (0, [.ref bs, .ref bp, .ref bh, .ref bf, .ref bl, .ref bg, .int (nI n), .int (nI cg), .int (nI x)])) := k188.1 _ _ k_bu (Nat.ne_of_beq_eq_false rfl) (ninc n232 (ninc n231 (ninc n230 nin0)))
        have n234 : bs ≠ nr1 := hne k_bs k_nr1 (Nat.ne_of_beq_eq_false rfl)
        have n235 : bs ≠ nq1 := hneL k_bs k_nq1 (Nat.ne_of_beq_eq_false rfl)
        have n236 : bs ≠ eo := hne k_bs k_eo (Nat.ne_of_beq_eq_false rfl)
        have h237 : f185 bs = some (.inl (cI G, 61, .inl (nf sa))) := k188.1 _ _ k_bs (Nat.ne_of_beq_eq_false rfl) (ninc n236 (ninc n235 (ninc n234 nin0)))
        have n238 : bp ≠ nr1 := hne k_bp k_nr1 (Nat.ne_of_beq_eq_false rfl)
        have n239 : bp ≠ nq1 := hneL k_bp k_nq1 (Nat.ne_of_beq_eq_false rfl)
        have n240 : bp ≠ eo := hne k_bp k_eo (Nat.ne_of_beq_eq_false rfl)
        have h241 : f185 bp = some (.inl (cI G, 240, .inl (nf pk))) := k188.1 _ _ k_bp (Nat.ne_of_beq_eq_false rfl) (ninc n240 (ninc n239 (ninc n238 nin0)))
        have n242 : bh ≠ nr1 := hne k_bh k_nr1 (Nat.ne_of_beq_eq_false rfl)
        have n243 : bh ≠ nq1 := hneL k_bh k_nq1 (Nat.ne_of_beq_eq_false rfl)
        have n244 : bh ≠ eo := hne k_bh k_eo (Nat.ne_of_beq_eq_false rfl)
        have h245 : f185 bh = some (.inl (cZ G, 240, .inl gh)) := k188.1 _ _ k_bh (Nat.ne_of_beq_eq_false rfl) (ninc n244 (ninc n243 (ninc n242 nin0)))
        have n246 : bf ≠ nr1 := hne k_bf k_nr1 (Nat.ne_of_beq_eq_false rfl)
        have n247 : bf ≠ nq1 := hneL k_bf k_nq1 (Nat.ne_of_beq_eq_false rfl)
        have n248 : bf ≠ eo := hne k_bf k_eo (Nat.ne_of_beq_eq_false rfl)
        have h249 : f185 bf = some (.inl (cI G, 3, .inl (nf fl))) := k188.1 _ _ k_bf (Nat.ne_of_beq_eq_false rfl) (ninc n248 (ninc n247 (ninc n246 nin0)))
        have n250 : bl ≠ nr1 := hne k_bl k_nr1 (Nat.ne_of_beq_eq_false rfl)
        have n251 : bl ≠ nq1 := hneL k_bl k_nq1 (Nat.ne_of_beq_eq_false rfl)
        have n252 : bl ≠ eo := hne k_bl k_eo (Nat.ne_of_beq_eq_false rfl)
        have h253 : f185 bl = some (.inl (cI G, 3, .inl gl)) := k188.1 _ _ k_bl (Nat.ne_of_beq_eq_false rfl) (ninc n252 (ninc n251 (ninc n250 nin0)))
        have n254 : bg ≠ nr1 := hne k_bg k_nr1 (Nat.ne_of_beq_eq_false rfl)
        have n255 : bg ≠ nq1 := hneL k_bg k_nq1 (Nat.ne_of_beq_eq_false rfl)
        have n256 : bg ≠ eo := hne k_bg k_eo (Nat.ne_of_beq_eq_false rfl)
        have h257 : f185 bg = some (.inl (cI G, 60, .inl (nf gv))) := k188.1 _ _ k_bg (Nat.ne_of_beq_eq_false rfl) (ninc n256 (ninc n255 (ninc n254 nin0)))
        exact hp_out B0 hw hS hout hce hcv hcl ⟨Nat.le_of_ble_eq_true rfl, Nat.le_of_ble_eq_true rfl⟩ (⟨(Or.inr rfl), ⟨h217, ⟨_, _, _, _, _, _, _, _, _, _, h207, h210, h213, (fhd0.kp (show hKp [xo, ez, eo, bu, nw0, na0, nq0, nr0, nw1, na1, nq1, nr1, bs, bp, bh, bf, bl, bg] f f185 from (k188.mono (fun x9 hx9 => by simp only [List.mem_cons, List.not_mem_nil, or_false] at hx9; rcases hx9 with hx9 | hx9 | hx9 <;> (rw [hx9]; simp))))), (ftl0.kp (show hKp [xo, ez, eo, bu, nw0, na0, nq0, nr0, nw1, na1, nq1, nr1, bs, bp, bh, bf, bl, bg] f f185 from (k188.mono (fun x9 hx9 => by simp only [List.mem_cons, List.not_mem_nil, or_false] at hx9; rcases hx9 with hx9 | hx9 | hx9 <;> (rw [hx9]; simp))))), blp0⟩, ⟨_, _, _, _, _, _, _, _, _, _, h199, h200, h201, h202, h203, h204⟩, h220, h223, h226, h229, h233, h237, h241, h245, h249, h253, h257, p187, hB9, hfl9, nd_ez_eo, nd_nr0_nr1, nd_nw0_na0, nd_nw0_nq0, nd_nw0_nw1, nd_nw0_na1, nd_nw0_nq1, nd_na0_nq0, nd_na0_nw1, nd_na0_na1, nd_na0_nq1, nd_nq0_nw1, nd_nq0_na1, nd_nq0_nq1, nd_nw1_na1, nd_nw1_nq1, nd_na1_nq1, nd_bh_bp, nd_bf_bl⟩, (show hKp [xo, ez, eo, bu, nw0, na0, nq0, nr0, nw1, na1, nq1, nr1, bs, bp, bh, bf, bl, bg] f f185 from (k188.mono (fun x9 hx9 => by simp only [List.mem_cons, List.not_mem_nil, or_false] at hx9; rcases hx9 with hx9 | hx9 | hx9 <;> (rw [hx9]; simp))))⟩)
      · obtain ⟨⟨t258, k259, ev9, h260⟩, h261, p262, k263⟩ := hP
        obtain ⟨st264, tm265, sr266, li267, lp268, mi269, cn270, gq271, hd272, tl273, h274, h275, h276, h277, h278, h279⟩ := h261
        subst ev9
        refine W.eq (g2 := F0 m 10 ls [.ref t258]) rfl ?_
        refine lv_astore_n (lv' := [(3, .ref t258), (2, .ref eo), (0, .ref xo), (1, .int i)]) hx hb dX4_lose_10 rfl hl9 (by decide) rfl (fun ls hl9 => ?_)
        refine lv_aload_n hx hb dX4_lose_11 rfl (lv_at hl9 1 rfl) ?_
        refine lv_dup hx hb dX4_lose_12 rfl ?_
        refine hp_getN B0 hw 1 rfl in_X1 h274 10 (by decide) oF_X4_86 rfl dX4_lose_13 ?_
        refine lv_iconst (v := 1) hx hb dX4_lose_16 (by decide) ?_
        refine lv_iadd hx hb dX4_lose_17 ?_
        refine hp_putN (fs1 := [.ref nw1, .ref na1, .ref nq1, .ref nr1, .int mg1, .int st264, .int tm265, .int sr266, .int li267, .int lp268, .int (mi269 + 1)]) (ty := .int) B0 hw hS 1 rfl in_X1 tyX1 tyX1_ok nmX1 h274 10 (by decide) oF_X4_86 rfl (by decide +kernel) rfl rfl (Nat.le_of_ble_eq_true rfl) rfl dX4_lose_18 (fun H locs f280 ef280 hw hS => ?_)
        have h281 : f280 eo = some (.inr (1, [.ref nw1, .ref na1, .ref nq1, .ref nr1, .int mg1, .int st264, .int tm265, .int sr266, .int li267, .int lp268, .int (mi269 + 1)])) := by rw [ef280, va_up_self]
        refine lv_aload_n hx hb dX4_lose_21 rfl (lv_at hl9 0 rfl) ?_
        have n283 : t258 ≠ eo := hne h260 h274 (Nat.ne_of_beq_eq_false rfl)
        have h282 : f280 t258 = some (.inr (2, k259)) := by rw [ef280, va_up_ne _ _ n283]; exact h260
        have p284 : PoolX G [] f280 := by rw [ef280]; exact px_upd p262 h274 (Nat.ne_of_beq_eq_false rfl) (Nat.ne_of_beq_eq_false rfl) (fun g9 h9 => nomatch h9)
        obtain ⟨x285, x286, x287, v288, y289, g290, e291, h292, h293⟩ := p284 _ _ h282 nin0
        rw [e291] at h282
        refine hp_get B0 hw 2 rfl in_X2 h282 0 (by decide) qF_X4_81 rfl dX4_lose_22 ?_
        have n295 : ez ≠ nr1 := hne k_ez k_nr1 (Nat.ne_of_beq_eq_false rfl)
        have n296 : ez ≠ nq1 := hne k_ez k_nq1 (Nat.ne_of_beq_eq_false rfl)
        have h297 : f185 ez = some (.inr (1, [.ref nw0, .ref na0, .ref nq0, .ref nr0, .int mg0, .int st0, .int tm0, .int sr0, .int li0, .int lp0, .int mi0])) := k263.1 _ _ k_ez (Nat.ne_of_beq_eq_false rfl) (ninc nd_ez_eo (ninc n296 (ninc n295 nin0)))
        have h298 : f280 ez = some (.inr (1, [.ref nw0, .ref na0, .ref nq0, .ref nr0, .int mg0, .int st0, .int tm0, .int sr0, .int li0, .int lp0, .int mi0])) := by rw [ef280, va_up_ne _ _ nd_ez_eo]; exact h297
        have n299 : nq0 ≠ nr1 := hne k_nq0 k_nr1 (Nat.ne_of_beq_eq_false rfl)
        have n300 : nq0 ≠ eo := hne k_nq0 k_eo (Nat.ne_of_beq_eq_false rfl)
        have h301 : f185 nq0 = some (.inl (cI G, 6, .inl gq0)) := k263.1 _ _ k_nq0 (Nat.ne_of_beq_eq_false rfl) (ninc n300 (ninc nd_nq0_nq1 (ninc n299 nin0)))
        have h302 : f280 nq0 = some (.inl (cI G, 6, .inl gq0)) := by rw [ef280, va_up_ne _ _ n300]; exact h301
        have n303 : nr0 ≠ nq1 := hne k_nr0 k_nq1 (Nat.ne_of_beq_eq_false rfl)
        have n304 : nr0 ≠ eo := hne k_nr0 k_eo (Nat.ne_of_beq_eq_false rfl)
        have h305 : f185 nr0 = some (.inr (3, [hd0, tl0, .int cn0])) := k263.1 _ _ k_nr0 (Nat.ne_of_beq_eq_false rfl) (ninc n304 (ninc n303 (ninc nd_nr0_nr1 nin0)))
        have h306 : f280 nr0 = some (.inr (3, [hd0, tl0, .int cn0])) := by rw [ef280, va_up_ne _ _ n304]; exact h305
        have n308 : nq1 ≠ eo := hne k_nq1 k_eo (Nat.ne_of_beq_eq_false rfl)
        have h307 : f280 nq1 = some (.inl (cI G, 6, .inl gq271)) := by rw [ef280, va_up_ne _ _ n308]; exact h275
        have n310 : nr1 ≠ eo := hne k_nr1 k_eo (Nat.ne_of_beq_eq_false rfl)
        have h309 : f280 nr1 = some (.inr (3, [hd272, tl273, .int cn270])) := by rw [ef280, va_up_ne _ _ n310]; exact h276
        have n311 : xo ≠ nr1 := hne k_xo k_nr1 (Nat.ne_of_beq_eq_false rfl)
        have n312 : xo ≠ nq1 := hne k_xo k_nq1 (Nat.ne_of_beq_eq_false rfl)
        have n313 : xo ≠ eo := hne k_xo k_eo (Nat.ne_of_beq_eq_false rfl)
        have h314 : f185 xo = some (.inr (4, [.ref ez, .ref eo, .ref bu])) := k263.1 _ _ k_xo (Nat.ne_of_beq_eq_false rfl) (ninc n313 (ninc n312 (ninc n311 nin0)))
        have h315 : f280 xo = some (.inr (4, [.ref ez, .ref eo, .ref bu])) := by rw [ef280, va_up_ne _ _ n313]; exact h314
        have n316 : nw0 ≠ nr1 := hne k_nw0 k_nr1 (Nat.ne_of_beq_eq_false rfl)
        have n317 : nw0 ≠ eo := hne k_nw0 k_eo (Nat.ne_of_beq_eq_false rfl)
        have h318 : f185 nw0 = some (.inl (cI G, 6, .inl gw0)) := k263.1 _ _ k_nw0 (Nat.ne_of_beq_eq_false rfl) (ninc n317 (ninc nd_nw0_nq1 (ninc n316 nin0)))
        have h319 : f280 nw0 = some (.inl (cI G, 6, .inl gw0)) := by rw [ef280, va_up_ne _ _ n317]; exact h318
        have n320 : na0 ≠ nr1 := hne k_na0 k_nr1 (Nat.ne_of_beq_eq_false rfl)
        have n321 : na0 ≠ eo := hne k_na0 k_eo (Nat.ne_of_beq_eq_false rfl)
        have h322 : f185 na0 = some (.inl (cI G, 6, .inl ga0)) := k263.1 _ _ k_na0 (Nat.ne_of_beq_eq_false rfl) (ninc n321 (ninc nd_na0_nq1 (ninc n320 nin0)))
        have h323 : f280 na0 = some (.inl (cI G, 6, .inl ga0)) := by rw [ef280, va_up_ne _ _ n321]; exact h322
        have n324 : nw1 ≠ nr1 := hne k_nw1 k_nr1 (Nat.ne_of_beq_eq_false rfl)
        have n325 : nw1 ≠ eo := hne k_nw1 k_eo (Nat.ne_of_beq_eq_false rfl)
        have h326 : f185 nw1 = some (.inl (cI G, 6, .inl gw1)) := k263.1 _ _ k_nw1 (Nat.ne_of_beq_eq_false rfl) (ninc n325 (ninc nd_nw1_nq1 (ninc n324 nin0)))
        have h327 : f280 nw1 = some (.inl (cI G, 6, .inl gw1)) := by rw [ef280, va_up_ne _ _ n325]; exact h326
        have n328 : na1 ≠ nr1 := hne k_na1 k_nr1 (Nat.ne_of_beq_eq_false rfl)
        have n329 : na1 ≠ eo := hne k_na1 k_eo (Nat.ne_of_beq_eq_false rfl)
        have h330 : f185 na1 = some (.inl (cI G, 6, .inl ga1)) := k263.1 _ _ k_na1 (Nat.ne_of_beq_eq_false rfl) (ninc n329 (ninc nd_na1_nq1 (ninc n328 nin0)))
        have h331 : f280 na1 = some (.inl (cI G, 6, .inl ga1)) := by rw [ef280, va_up_ne _ _ n329]; exact h330
        have n332 : bu ≠ nr1 := hne k_bu k_nr1 (Nat.ne_of_beq_eq_false rfl)
        have n333 : bu ≠ nq1 := hne k_bu k_nq1 (Nat.ne_of_beq_eq_false rfl)
        have n334 : bu ≠ eo := hne k_bu k_eo (Nat.ne_of_beq_eq_false rfl)
        have h335 : f185 bu = some (.inr (0, [.ref bs, .ref bp, .ref bh, .ref bf, .ref bl, .ref bg, .int (nI n), .int (nI cg), .int (nI x)])) := k263.1 _ _ k_bu (Nat.ne_of_beq_eq_false rfl) (ninc n334 (ninc n333 (ninc n332 nin0)))
        have h336 : f280 bu = some (.inr (0, [.ref bs, .ref bp, .ref bh, .ref bf, .ref bl, .ref bg, .int (nI n), .int (nI cg), .int (nI x)])) := by rw [ef280, va_up_ne _ _ n334]; exact h335
        have n337 : bs ≠ nr1 := hne k_bs k_nr1 (Nat.ne_of_beq_eq_false rfl)
        have n338 : bs ≠ nq1 := hneL k_bs k_nq1 (Nat.ne_of_beq_eq_false rfl)
        have n339 : bs ≠ eo := hne k_bs k_eo (Nat.ne_of_beq_eq_false rfl)
        have h340 : f185 bs = some (.inl (cI G, 61, .inl (nf sa))) := k263.1 _ _ k_bs (Nat.ne_of_beq_eq_false rfl) (ninc n339 (ninc n338 (ninc n337 nin0)))
        have h341 : f280 bs = some (.inl (cI G, 61, .inl (nf sa))) := by rw [ef280, va_up_ne _ _ n339]; exact h340
        have n342 : bp ≠ nr1 := hne k_bp k_nr1 (Nat.ne_of_beq_eq_false rfl)
        have n343 : bp ≠ nq1 := hneL k_bp k_nq1 (Nat.ne_of_beq_eq_false rfl)
        have n344 : bp ≠ eo := hne k_bp k_eo (Nat.ne_of_beq_eq_false rfl)
        have h345 : f185 bp = some (.inl (cI G, 240, .inl (nf pk))) := k263.1 _ _ k_bp (Nat.ne_of_beq_eq_false rfl) (ninc n344 (ninc n343 (ninc n342 nin0)))
        have h346 : f280 bp = some (.inl (cI G, 240, .inl (nf pk))) := by rw [ef280, va_up_ne _ _ n344]; exact h345
        have n347 : bh ≠ nr1 := hne k_bh k_nr1 (Nat.ne_of_beq_eq_false rfl)
        have n348 : bh ≠ nq1 := hneL k_bh k_nq1 (Nat.ne_of_beq_eq_false rfl)
        have n349 : bh ≠ eo := hne k_bh k_eo (Nat.ne_of_beq_eq_false rfl)
        have h350 : f185 bh = some (.inl (cZ G, 240, .inl gh)) := k263.1 _ _ k_bh (Nat.ne_of_beq_eq_false rfl) (ninc n349 (ninc n348 (ninc n347 nin0)))
        have h351 : f280 bh = some (.inl (cZ G, 240, .inl gh)) := by rw [ef280, va_up_ne _ _ n349]; exact h350
        have n352 : bf ≠ nr1 := hne k_bf k_nr1 (Nat.ne_of_beq_eq_false rfl)
        have n353 : bf ≠ nq1 := hneL k_bf k_nq1 (Nat.ne_of_beq_eq_false rfl)
        have n354 : bf ≠ eo := hne k_bf k_eo (Nat.ne_of_beq_eq_false rfl)
        have h355 : f185 bf = some (.inl (cI G, 3, .inl (nf fl))) := k263.1 _ _ k_bf (Nat.ne_of_beq_eq_false rfl) (ninc n354 (ninc n353 (ninc n352 nin0)))
        have h356 : f280 bf = some (.inl (cI G, 3, .inl (nf fl))) := by rw [ef280, va_up_ne _ _ n354]; exact h355
        have n357 : bl ≠ nr1 := hne k_bl k_nr1 (Nat.ne_of_beq_eq_false rfl)
        have n358 : bl ≠ nq1 := hneL k_bl k_nq1 (Nat.ne_of_beq_eq_false rfl)
        have n359 : bl ≠ eo := hne k_bl k_eo (Nat.ne_of_beq_eq_false rfl)
        have h360 : f185 bl = some (.inl (cI G, 3, .inl gl)) := k263.1 _ _ k_bl (Nat.ne_of_beq_eq_false rfl) (ninc n359 (ninc n358 (ninc n357 nin0)))
        have h361 : f280 bl = some (.inl (cI G, 3, .inl gl)) := by rw [ef280, va_up_ne _ _ n359]; exact h360
        have n362 : bg ≠ nr1 := hne k_bg k_nr1 (Nat.ne_of_beq_eq_false rfl)
        have n363 : bg ≠ nq1 := hneL k_bg k_nq1 (Nat.ne_of_beq_eq_false rfl)
        have n364 : bg ≠ eo := hne k_bg k_eo (Nat.ne_of_beq_eq_false rfl)
        have h365 : f185 bg = some (.inl (cI G, 60, .inl (nf gv))) := k263.1 _ _ k_bg (Nat.ne_of_beq_eq_false rfl) (ninc n364 (ninc n363 (ninc n362 nin0)))
        have h366 : f280 bg = some (.inl (cI G, 60, .inl (nf gv))) := by rw [ef280, va_up_ne _ _ n364]; exact h365
        exact hp_iret (v := x285) B0 hw hS hr ⟨Nat.le_of_ble_eq_true rfl, Nat.le_of_ble_eq_true rfl⟩ dX4_lose_25 (⟨⟨_, rfl⟩, ⟨h315, ⟨_, _, _, _, _, _, _, _, _, _, h298, h302, h306, (fhd0.kp ((show hKp [xo, ez, eo, bu, nw0, na0, nq0, nr0, nw1, na1, nq1, nr1, bs, bp, bh, bf, bl, bg] f f185 from (k263.mono (fun x9 hx9 => by simp only [List.mem_cons, List.not_mem_nil, or_false] at hx9; rcases hx9 with hx9 | hx9 | hx9 <;> (rw [hx9]; simp)))).tr (show hKp [xo, ez, eo, bu, nw0, na0, nq0, nr0, nw1, na1, nq1, nr1, bs, bp, bh, bf, bl, bg] f185 f280 from (by rw [ef280]; exact hKp.up h274 (Nat.ne_of_beq_eq_false rfl) (by simp))))), (ftl0.kp ((show hKp [xo, ez, eo, bu, nw0, na0, nq0, nr0, nw1, na1, nq1, nr1, bs, bp, bh, bf, bl, bg] f f185 from (k263.mono (fun x9 hx9 => by simp only [List.mem_cons, List.not_mem_nil, or_false] at hx9; rcases hx9 with hx9 | hx9 | hx9 <;> (rw [hx9]; simp)))).tr (show hKp [xo, ez, eo, bu, nw0, na0, nq0, nr0, nw1, na1, nq1, nr1, bs, bp, bh, bf, bl, bg] f185 f280 from (by rw [ef280]; exact hKp.up h274 (Nat.ne_of_beq_eq_false rfl) (by simp))))), blp0⟩, ⟨_, _, _, _, _, _, _, _, _, _, h281, h307, h309, (h277.kp (show hKp [xo, ez, eo, bu, nw0, na0, nq0, nr0, nw1, na1, nq1, nr1, bs, bp, bh, bf, bl, bg] f185 f280 from (by rw [ef280]; exact hKp.up h274 (Nat.ne_of_beq_eq_false rfl) (by simp)))), (h278.kp (show hKp [xo, ez, eo, bu, nw0, na0, nq0, nr0, nw1, na1, nq1, nr1, bs, bp, bh, bf, bl, bg] f185 f280 from (by rw [ef280]; exact hKp.up h274 (Nat.ne_of_beq_eq_false rfl) (by simp)))), h279⟩, h319, h323, h327, h331, h336, h341, h346, h351, h356, h361, h366, p284, hB9, hfl9, nd_ez_eo, nd_nr0_nr1, nd_nw0_na0, nd_nw0_nq0, nd_nw0_nw1, nd_nw0_na1, nd_nw0_nq1, nd_na0_nq0, nd_na0_nw1, nd_na0_na1, nd_na0_nq1, nd_nq0_nw1, nd_nq0_na1, nd_nq0_nq1, nd_nw1_na1, nd_nw1_nq1, nd_na1_nq1, nd_bh_bp, nd_bf_bl⟩, ((show hKp [xo, ez, eo, bu, nw0, na0, nq0, nr0, nw1, na1, nq1, nr1, bs, bp, bh, bf, bl, bg] f f185 from (k263.mono (fun x9 hx9 => by simp only [List.mem_cons, List.not_mem_nil, or_false] at hx9; rcases hx9 with hx9 | hx9 | hx9 <;> (rw [hx9]; simp)))).tr (show hKp [xo, ez, eo, bu, nw0, na0, nq0, nr0, nw1, na1, nq1, nr1, bs, bp, bh, bf, bl, bg] f185 f280 from (by rw [ef280]; exact hKp.up h274 (Nat.ne_of_beq_eq_false rfl) (by simp))))⟩)

set_option maxHeartbeats 4000000 in
set_option maxRecDepth 100000 in
theorem c_W4_loop {l : Launch} (hl : l.stackTraces = false) (G : hG) (f : hM) (xo ez eo bu nw0 na0 nq0 nr0 nw1 na1 nq1 nr1 bs bp bh bf bl bg : Nat) (gw0 : Nat → Int32) (ga0 : Nat → Int32) (gw1 : Nat → Int32) (ga1 : Nat → Int32) (mg0 : Int32) (mg1 : Int32) (n : Nat) (a : Nat) (cg : Nat) (x : Nat) (sa : Nat → Nat) (pk : Nat → Nat) (fl : Nat → Nat) (gv : Nat → Nat) (gh : Nat → Int32) (gl : Nat → Int32) (hC : CW G f xo ez eo bu nw0 na0 nq0 nr0 nw1 na1 nq1 nr1 bs bp bh bf bl bg gw0 ga0 gw1 ga1 mg0 mg1 n a cg x sa pk fl gv gh gl) (i : Int32) : CT l yX4_loop (.code yX4_loop cX4_loop 4 (some .int)) 7 132 6 34 G [.ref xo, .int i] f (fun v f1 => (∃ r9 : Int32, v = some (.int r9)) ∧ CW G f1 xo ez eo bu nw0 na0 nq0 nr0 nw1 na1 nq1 nr1 bs bp bh bf bl bg gw0 ga0 gw1 ga1 mg0 mg1 n a cg x sa pk fl gv gh gl ∧ hKp [xo, ez, eo, bu, nw0, na0, nq0, nr0, nw1, na1, nq1, nr1, bs, bp, bh, bf, bl, bg] f f1) (fun E f1 => (E = eI ∨ E = eS) ∧ CW G f1 xo ez eo bu nw0 na0 nq0 nr0 nw1 na1 nq1 nr1 bs bp bh bf bl bg gw0 ga0 gw1 ga1 mg0 mg1 n a cg x sa pk fl gv gh gl ∧ hKp [xo, ez, eo, bu, nw0, na0, nq0, nr0, nw1, na1, nq1, nr1, bs, bp, bh, bf, bl, bg] f f1) := by
  refine hp_start hl (own := RX4) (by decide) rfl (Nat.le_of_ble_eq_true rfl) ?_
  intro p e s m args below meth c B0 hr hnm hout hw hS ls hl9
  have hx := B0.1
  have hb := B0.2.1
  have hl9 : lv_has ls 4 [(0, .ref xo), (1, .int i)] := hl9
  obtain ⟨k_xo, ⟨st0, tm0, sr0, li0, lp0, mi0, cn0, gq0, hd0, tl0, k_ez, k_nq0, k_nr0, fhd0, ftl0, blp0⟩, ⟨st1, tm1, sr1, li1, lp1, mi1, cn1, gq1, hd1, tl1, k_eo, k_nq1, k_nr1, fhd1, ftl1, blp1⟩, k_nw0, k_na0, k_nw1, k_na1, k_bu, k_bs, k_bp, k_bh, k_bf, k_bl, k_bg, hPx, hB9, hfl9, nd_ez_eo, nd_nr0_nr1, nd_nw0_na0, nd_nw0_nq0, nd_nw0_nw1, nd_nw0_na1, nd_nw0_nq1, nd_na0_nq0, nd_na0_nw1, nd_na0_na1, nd_na0_nq1, nd_nq0_nw1, nd_nq0_na1, nd_nq0_nq1, nd_nw1_na1, nd_nw1_nq1, nd_na1_nq1, nd_bh_bp, nd_bf_bl⟩ := id hC
  refine lv_aload_n hx hb dX4_loop_0 rfl (lv_at hl9 0 rfl) ?_
  refine lv_iload_n hx hb dX4_loop_1 rfl (lv_at hl9 1 rfl) ?_
  refine hp_V (ci := 4) (As := [.int i]) (rest := []) B0 hw hS (c_X4_endAt hl G f xo ez eo bu k_xo i) mV_X4_endAt qM_X4_28 rfl k_xo rfl rfl hl9.1 (Nat.le_of_ble_eq_true rfl) ⟨⟨Nat.le_of_ble_eq_true rfl, Nat.le_of_ble_eq_true rfl⟩, Nat.le_of_ble_eq_true rfl, Nat.le_of_ble_eq_true rfl⟩ dX4_loop_2 (fun E ce q9 f1 H locs hPX hw hS hce hcv hcl => ?_) (fun v f1 H locs hP hw hS => ?_)
  · obtain ⟨ef9, eE9, hE9⟩ := hPX
    rw [ef9] at hw
    subst eE9
    exact hp_out B0 hw hS hout hce hcv hcl ⟨Nat.le_of_ble_eq_true rfl, Nat.le_of_ble_eq_true rfl⟩ (⟨(Or.inl rfl), ⟨k_xo, ⟨_, _, _, _, _, _, _, _, _, _, k_ez, k_nq0, k_nr0, fhd0, ftl0, blp0⟩, ⟨_, _, _, _, _, _, _, _, _, _, k_eo, k_nq1, k_nr1, fhd1, ftl1, blp1⟩, k_nw0, k_na0, k_nw1, k_na1, k_bu, k_bs, k_bp, k_bh, k_bf, k_bl, k_bg, hPx, hB9, hfl9, nd_ez_eo, nd_nr0_nr1, nd_nw0_na0, nd_nw0_nq0, nd_nw0_nw1, nd_nw0_na1, nd_nw0_nq1, nd_na0_nq0, nd_na0_nw1, nd_na0_na1, nd_na0_nq1, nd_nq0_nw1, nd_nq0_na1, nd_nq0_nq1, nd_nw1_na1, nd_nw1_nq1, nd_na1_nq1, nd_bh_bp, nd_bf_bl⟩, hKp.rf⟩)
  · obtain ⟨ef9, hv9⟩ := hP
    rw [ef9] at hw
    rcases hv9 with ⟨k2, ev9⟩ | ⟨k2, ev9⟩
    · subst ev9
      refine W.eq (g2 := F0 m 5 ls [.ref ez]) rfl ?_
      refine lv_astore_n (lv' := [(2, .ref ez), (0, .ref xo), (1, .int i)]) hx hb dX4_loop_5 rfl hl9 (by decide) rfl (fun ls hl9 => ?_)
      refine lv_aload_n hx hb dX4_loop_6 rfl (lv_at hl9 0 rfl) ?_
      refine hp_S (As := [.ref ez]) (rest := []) B0 hw hS (c_X4_takeFrame hl G f ez nw0 na0 nq0 nr0 mg0 ⟨_, _, _, _, _, _, _, _, _, _, k_ez, k_nq0, k_nr0, fhd0, ftl0, blp0⟩ hPx) mS_X4_takeFrame qM_X4_73 rfl rfl hl9.1 (Nat.le_of_ble_eq_true rfl) ⟨⟨Nat.le_of_ble_eq_true rfl, Nat.le_of_ble_eq_true rfl⟩, Nat.le_of_ble_eq_true rfl, Nat.le_of_ble_eq_true rfl⟩ dX4_loop_7 (fun E ce q9 f3 H locs hPX hw hS hce hcv hcl => ?_) (fun v f3 H locs hP hw hS => ?_)
      · have hP := hPX
        obtain ⟨eE9, h4, p5, k6⟩ := hP
        obtain ⟨st7, tm8, sr9, li10, lp11, mi12, cn13, gq14, hd15, tl16, h17, h18, h19, h20, h21, h22⟩ := h4
        subst eE9
        have n23 : eo ≠ nr0 := hne k_eo k_nr0 (Nat.ne_of_beq_eq_false rfl)
        have n24 : eo ≠ nq0 := hne k_eo k_nq0 (Nat.ne_of_beq_eq_false rfl)
        have h25 : f3 eo = some (.inr (1, [.ref nw1, .ref na1, .ref nq1, .ref nr1, .int mg1, .int st1, .int tm1, .int sr1, .int li1, .int lp1, .int mi1])) := k6.1 _ _ k_eo (Nat.ne_of_beq_eq_false rfl) (ninc (Ne.symm nd_ez_eo) (ninc n24 (ninc n23 nin0)))
        have n26 : nq1 ≠ nr0 := hne k_nq1 k_nr0 (Nat.ne_of_beq_eq_false rfl)
        have n27 : nq1 ≠ ez := hne k_nq1 k_ez (Nat.ne_of_beq_eq_false rfl)
        have h28 : f3 nq1 = some (.inl (cI G, 6, .inl gq1)) := k6.1 _ _ k_nq1 (Nat.ne_of_beq_eq_false rfl) (ninc n27 (ninc (Ne.symm nd_nq0_nq1) (ninc n26 nin0)))
        have n29 : nr1 ≠ nq0 := hne k_nr1 k_nq0 (Nat.ne_of_beq_eq_false rfl)
        have n30 : nr1 ≠ ez := hne k_nr1 k_ez (Nat.ne_of_beq_eq_false rfl)
        have h31 : f3 nr1 = some (.inr (3, [hd1, tl1, .int cn1])) := k6.1 _ _ k_nr1 (Nat.ne_of_beq_eq_false rfl) (ninc n30 (ninc n29 (ninc (Ne.symm nd_nr0_nr1) nin0)))
        have n32 : xo ≠ nr0 := hne k_xo k_nr0 (Nat.ne_of_beq_eq_false rfl)
        have n33 : xo ≠ nq0 := hne k_xo k_nq0 (Nat.ne_of_beq_eq_false rfl)
        have n34 : xo ≠ ez := hne k_xo k_ez (Nat.ne_of_beq_eq_false rfl)
        have h35 : f3 xo = some (.inr (4, [.ref ez, .ref eo, .ref bu])) := k6.1 _ _ k_xo (Nat.ne_of_beq_eq_false rfl) (ninc n34 (ninc n33 (ninc n32 nin0)))
        have n36 : nw0 ≠ nr0 := hne k_nw0 k_nr0 (Nat.ne_of_beq_eq_false rfl)
        have n37 : nw0 ≠ ez := hne k_nw0 k_ez (Nat.ne_of_beq_eq_false rfl)
        have h38 : f3 nw0 = some (.inl (cI G, 6, .inl gw0)) := k6.1 _ _ k_nw0 (Nat.ne_of_beq_eq_false rfl) (ninc n37 (ninc nd_nw0_nq0 (ninc n36 nin0)))
        have n39 : na0 ≠ nr0 := hne k_na0 k_nr0 (Nat.ne_of_beq_eq_false rfl)
        have n40 : na0 ≠ ez := hne k_na0 k_ez (Nat.ne_of_beq_eq_false rfl)
        have h41 : f3 na0 = some (.inl (cI G, 6, .inl ga0)) := k6.1 _ _ k_na0 (Nat.ne_of_beq_eq_false rfl) (ninc n40 (ninc nd_na0_nq0 (ninc n39 nin0)))
        have n42 : nw1 ≠ nr0 := hne k_nw1 k_nr0 (Nat.ne_of_beq_eq_false rfl)
        have n43 : nw1 ≠ ez := hne k_nw1 k_ez (Nat.ne_of_beq_eq_false rfl)
        have h44 : f3 nw1 = some (.inl (cI G, 6, .inl gw1)) := k6.1 _ _ k_nw1 (Nat.ne_of_beq_eq_false rfl) (ninc n43 (ninc (Ne.symm nd_nq0_nw1) (ninc n42 nin0)))
        have n45 : na1 ≠ nr0 := hne k_na1 k_nr0 (Nat.ne_of_beq_eq_false rfl)
        have n46 : na1 ≠ ez := hne k_na1 k_ez (Nat.ne_of_beq_eq_false rfl)
        have h47 : f3 na1 = some (.inl (cI G, 6, .inl ga1)) := k6.1 _ _ k_na1 (Nat.ne_of_beq_eq_false rfl) (ninc n46 (ninc (Ne.symm nd_nq0_na1) (ninc n45 nin0)))
        have n48 : bu ≠ nr0 := hne k_bu k_nr0 (Nat.ne_of_beq_eq_false rfl)
        have n49 : bu ≠ nq0 := hne k_bu k_nq0 (Nat.ne_of_beq_eq_false rfl)
        have n50 : bu ≠ ez := hne k_bu k_ez (Nat.ne_of_beq_eq_false rfl)
        have h51 : f3 bu = some (.inr (0, [.ref bs, .ref bp, .ref bh, .ref bf, .ref bl, .ref bg, .int (nI n), .int (nI cg), .int (nI x)])) := k6.1 _ _ k_bu (Nat.ne_of_beq_eq_false rfl) (ninc n50 (ninc n49 (ninc n48 nin0)))
        have n52 : bs ≠ nr0 := hne k_bs k_nr0 (Nat.ne_of_beq_eq_false rfl)
        have n53 : bs ≠ nq0 := hneL k_bs k_nq0 (Nat.ne_of_beq_eq_false rfl)
        have n54 : bs ≠ ez := hne k_bs k_ez (Nat.ne_of_beq_eq_false rfl)
        have h55 : f3 bs = some (.inl (cI G, 61, .inl (nf sa))) := k6.1 _ _ k_bs (Nat.ne_of_beq_eq_false rfl) (ninc n54 (ninc n53 (ninc n52 nin0)))
        have n56 : bp ≠ nr0 := hne k_bp k_nr0 (Nat.ne_of_beq_eq_false rfl)
        have n57 : bp ≠ nq0 := hneL k_bp k_nq0 (Nat.ne_of_beq_eq_false rfl)
        have n58 : bp ≠ ez := hne k_bp k_ez (Nat.ne_of_beq_eq_false rfl)
        have h59 : f3 bp = some (.inl (cI G, 240, .inl (nf pk))) := k6.1 _ _ k_bp (Nat.ne_of_beq_eq_false rfl) (ninc n58 (ninc n57 (ninc n56 nin0)))
        have n60 : bh ≠ nr0 := hne k_bh k_nr0 (Nat.ne_of_beq_eq_false rfl)
        have n61 : bh ≠ nq0 := hneL k_bh k_nq0 (Nat.ne_of_beq_eq_false rfl)
        have n62 : bh ≠ ez := hne k_bh k_ez (Nat.ne_of_beq_eq_false rfl)
        have h63 : f3 bh = some (.inl (cZ G, 240, .inl gh)) := k6.1 _ _ k_bh (Nat.ne_of_beq_eq_false rfl) (ninc n62 (ninc n61 (ninc n60 nin0)))
        have n64 : bf ≠ nr0 := hne k_bf k_nr0 (Nat.ne_of_beq_eq_false rfl)
        have n65 : bf ≠ nq0 := hneL k_bf k_nq0 (Nat.ne_of_beq_eq_false rfl)
        have n66 : bf ≠ ez := hne k_bf k_ez (Nat.ne_of_beq_eq_false rfl)
        have h67 : f3 bf = some (.inl (cI G, 3, .inl (nf fl))) := k6.1 _ _ k_bf (Nat.ne_of_beq_eq_false rfl) (ninc n66 (ninc n65 (ninc n64 nin0)))
        have n68 : bl ≠ nr0 := hne k_bl k_nr0 (Nat.ne_of_beq_eq_false rfl)
        have n69 : bl ≠ nq0 := hneL k_bl k_nq0 (Nat.ne_of_beq_eq_false rfl)
        have n70 : bl ≠ ez := hne k_bl k_ez (Nat.ne_of_beq_eq_false rfl)
        have h71 : f3 bl = some (.inl (cI G, 3, .inl gl)) := k6.1 _ _ k_bl (Nat.ne_of_beq_eq_false rfl) (ninc n70 (ninc n69 (ninc n68 nin0)))
        have n72 : bg ≠ nr0 := hne k_bg k_nr0 (Nat.ne_of_beq_eq_false rfl)
        have n73 : bg ≠ nq0 := hneL k_bg k_nq0 (Nat.ne_of_beq_eq_false rfl)
        have n74 : bg ≠ ez := hne k_bg k_ez (Nat.ne_of_beq_eq_false rfl)
        have h75 : f3 bg = some (.inl (cI G, 60, .inl (nf gv))) := k6.1 _ _ k_bg (Nat.ne_of_beq_eq_false rfl) (ninc n74 (ninc n73 (ninc n72 nin0)))
        exact hp_out B0 hw hS hout hce hcv hcl ⟨Nat.le_of_ble_eq_true rfl, Nat.le_of_ble_eq_true rfl⟩ (⟨(Or.inr rfl), ⟨h35, ⟨_, _, _, _, _, _, _, _, _, _, h17, h18, h19, h20, h21, h22⟩, ⟨_, _, _, _, _, _, _, _, _, _, h25, h28, h31, (fhd1.kp (show hKp [xo, ez, eo, bu, nw0, na0, nq0, nr0, nw1, na1, nq1, nr1, bs, bp, bh, bf, bl, bg] f f3 from (k6.mono (fun x9 hx9 => by simp only [List.mem_cons, List.not_mem_nil, or_false] at hx9; rcases hx9 with hx9 | hx9 | hx9 <;> (rw [hx9]; simp))))), (ftl1.kp (show hKp [xo, ez, eo, bu, nw0, na0, nq0, nr0, nw1, na1, nq1, nr1, bs, bp, bh, bf, bl, bg] f f3 from (k6.mono (fun x9 hx9 => by simp only [List.mem_cons, List.not_mem_nil, or_false] at hx9; rcases hx9 with hx9 | hx9 | hx9 <;> (rw [hx9]; simp))))), blp1⟩, h38, h41, h44, h47, h51, h55, h59, h63, h67, h71, h75, p5, hB9, hfl9, nd_ez_eo, nd_nr0_nr1, nd_nw0_na0, nd_nw0_nq0, nd_nw0_nw1, nd_nw0_na1, nd_nw0_nq1, nd_na0_nq0, nd_na0_nw1, nd_na0_na1, nd_na0_nq1, nd_nq0_nw1, nd_nq0_na1, nd_nq0_nq1, nd_nw1_na1, nd_nw1_nq1, nd_na1_nq1, nd_bh_bp, nd_bf_bl⟩, (show hKp [xo, ez, eo, bu, nw0, na0, nq0, nr0, nw1, na1, nq1, nr1, bs, bp, bh, bf, bl, bg] f f3 from (k6.mono (fun x9 hx9 => by simp only [List.mem_cons, List.not_mem_nil, or_false] at hx9; rcases hx9 with hx9 | hx9 | hx9 <;> (rw [hx9]; simp))))⟩)
      · obtain ⟨⟨t76, k77, ev9, h78⟩, h79, p80, k81⟩ := hP
        obtain ⟨st82, tm83, sr84, li85, lp86, mi87, cn88, gq89, hd90, tl91, h92, h93, h94, h95, h96, h97⟩ := h79
        subst ev9
        refine W.eq (g2 := F0 m 10 ls [.ref t76]) rfl ?_
        refine lv_astore_n (lv' := [(3, .ref t76), (2, .ref ez), (0, .ref xo), (1, .int i)]) hx hb dX4_loop_10 rfl hl9 (by decide) rfl (fun ls hl9 => ?_)
        refine lv_aload_n hx hb dX4_loop_11 rfl (lv_at hl9 1 rfl) ?_
        refine lv_dup hx hb dX4_loop_12 rfl ?_
        refine hp_getN B0 hw 1 rfl in_X1 h92 10 (by decide) oF_X4_86 rfl dX4_loop_13 ?_
        refine lv_iconst (v := 1) hx hb dX4_loop_16 (by decide) ?_
        refine lv_iadd hx hb dX4_loop_17 ?_
        refine hp_putN (fs1 := [.ref nw0, .ref na0, .ref nq0, .ref nr0, .int mg0, .int st82, .int tm83, .int sr84, .int li85, .int lp86, .int (mi87 + 1)]) (ty := .int) B0 hw hS 1 rfl in_X1 tyX1 tyX1_ok nmX1 h92 10 (by decide) oF_X4_86 rfl (by decide +kernel) rfl rfl (Nat.le_of_ble_eq_true rfl) rfl dX4_loop_18 (fun H locs f98 ef98 hw hS => ?_)
        have h99 : f98 ez = some (.inr (1, [.ref nw0, .ref na0, .ref nq0, .ref nr0, .int mg0, .int st82, .int tm83, .int sr84, .int li85, .int lp86, .int (mi87 + 1)])) := by rw [ef98, va_up_self]
        refine lv_aload_n hx hb dX4_loop_21 rfl (lv_at hl9 1 rfl) ?_
        refine lv_aload_n hx hb dX4_loop_22 rfl (lv_at hl9 0 rfl) ?_
        have n101 : nq0 ≠ ez := hne k_nq0 k_ez (Nat.ne_of_beq_eq_false rfl)
        have h100 : f98 nq0 = some (.inl (cI G, 6, .inl gq89)) := by rw [ef98, va_up_ne _ _ n101]; exact h93
        have n103 : nr0 ≠ ez := hne k_nr0 k_ez (Nat.ne_of_beq_eq_false rfl)
        have h102 : f98 nr0 = some (.inr (3, [hd90, tl91, .int cn88])) := by rw [ef98, va_up_ne _ _ n103]; exact h94
        have p104 : PoolX G [] f98 := by rw [ef98]; exact px_upd p80 h92 (Nat.ne_of_beq_eq_false rfl) (Nat.ne_of_beq_eq_false rfl) (fun g9 h9 => nomatch h9)
        have n106 : t76 ≠ ez := hne h78 h92 (Nat.ne_of_beq_eq_false rfl)
        have h105 : f98 t76 = some (.inr (2, k77)) := by rw [ef98, va_up_ne _ _ n106]; exact h78
        have n107 : na0 ≠ nr0 := hne k_na0 k_nr0 (Nat.ne_of_beq_eq_false rfl)
        have n108 : na0 ≠ ez := hne k_na0 k_ez (Nat.ne_of_beq_eq_false rfl)
        have h109 : f3 na0 = some (.inl (cI G, 6, .inl ga0)) := k81.1 _ _ k_na0 (Nat.ne_of_beq_eq_false rfl) (ninc n108 (ninc nd_na0_nq0 (ninc n107 nin0)))
        have h110 : f98 na0 = some (.inl (cI G, 6, .inl ga0)) := by rw [ef98, va_up_ne _ _ n108]; exact h109
        refine hp_V (ci := 1) (As := [.ref t76]) (rest := []) B0 hw hS (c_X1_hear hl G f98 ez nw0 na0 nq0 nr0 mg0 ⟨_, _, _, _, _, _, _, _, _, _, h99, h100, h102, (h95.kp (show hKp [xo, ez, eo, bu, nw0, na0, nq0, nr0, nw1, na1, nq1, nr1, bs, bp, bh, bf, bl, bg] f3 f98 from (by rw [ef98]; exact hKp.up h92 (Nat.ne_of_beq_eq_false rfl) (by simp)))), (h96.kp (show hKp [xo, ez, eo, bu, nw0, na0, nq0, nr0, nw1, na1, nq1, nr1, bs, bp, bh, bf, bl, bg] f3 f98 from (by rw [ef98]; exact hKp.up h92 (Nat.ne_of_beq_eq_false rfl) (by simp)))), h97⟩ p104 ga0 h110 nd_na0_nq0 t76 _ h105) mV_X1_hear qM_X4_77 rfl h99 rfl rfl hl9.1 (Nat.le_of_ble_eq_true rfl) ⟨⟨Nat.le_of_ble_eq_true rfl, Nat.le_of_ble_eq_true rfl⟩, Nat.le_of_ble_eq_true rfl, Nat.le_of_ble_eq_true rfl⟩ dX4_loop_23 (fun E ce q9 f111 H locs hPX hw hS hce hcv hcl => ?_) (fun v f111 H locs hP hw hS => ?_)
        · exact hPX.elim
        · obtain ⟨ev9, h112, p113, k114⟩ := hP
          obtain ⟨st115, tm116, sr117, li118, lp119, mi120, cn121, gq122, hd123, tl124, h125, h126, h127, h128, h129, h130⟩ := h112
          subst ev9
          refine W.eq (g2 := F0 m 26 ls []) rfl ?_
          refine lv_aload_n hx hb dX4_loop_26 rfl (lv_at hl9 0 rfl) ?_
          obtain ⟨k131, h132⟩ := k114.2 _ _ h105
          obtain ⟨x133, x134, x135, v136, y137, g138, e139, h140, h141⟩ := p113 _ _ h132 nin0
          rw [e139] at h132
          refine hp_get B0 hw 2 rfl in_X2 h132 0 (by decide) qF_X4_81 rfl dX4_loop_27 ?_
          have n143 : eo ≠ nr0 := hne k_eo k_nr0 (Nat.ne_of_beq_eq_false rfl)
          have n144 : eo ≠ nq0 := hne k_eo k_nq0 (Nat.ne_of_beq_eq_false rfl)
          have h145 : f3 eo = some (.inr (1, [.ref nw1, .ref na1, .ref nq1, .ref nr1, .int mg1, .int st1, .int tm1, .int sr1, .int li1, .int lp1, .int mi1])) := k81.1 _ _ k_eo (Nat.ne_of_beq_eq_false rfl) (ninc (Ne.symm nd_ez_eo) (ninc n144 (ninc n143 nin0)))
          have h146 : f98 eo = some (.inr (1, [.ref nw1, .ref na1, .ref nq1, .ref nr1, .int mg1, .int st1, .int tm1, .int sr1, .int li1, .int lp1, .int mi1])) := by rw [ef98, va_up_ne _ _ (Ne.symm nd_ez_eo)]; exact h145
          have h147 : f111 eo = some (.inr (1, [.ref nw1, .ref na1, .ref nq1, .ref nr1, .int mg1, .int st1, .int tm1, .int sr1, .int li1, .int lp1, .int mi1])) := k114.1 _ _ h146 (Nat.ne_of_beq_eq_false rfl) (ninc (Ne.symm nd_ez_eo) (ninc n144 (ninc n143 nin0)))
          have n148 : nq1 ≠ nr0 := hne k_nq1 k_nr0 (Nat.ne_of_beq_eq_false rfl)
          have n149 : nq1 ≠ ez := hne k_nq1 k_ez (Nat.ne_of_beq_eq_false rfl)
          have h150 : f3 nq1 = some (.inl (cI G, 6, .inl gq1)) := k81.1 _ _ k_nq1 (Nat.ne_of_beq_eq_false rfl) (ninc n149 (ninc (Ne.symm nd_nq0_nq1) (ninc n148 nin0)))
          have h151 : f98 nq1 = some (.inl (cI G, 6, .inl gq1)) := by rw [ef98, va_up_ne _ _ n149]; exact h150
          have h152 : f111 nq1 = some (.inl (cI G, 6, .inl gq1)) := k114.1 _ _ h151 (Nat.ne_of_beq_eq_false rfl) (ninc n149 (ninc (Ne.symm nd_nq0_nq1) (ninc n148 nin0)))
          have n153 : nr1 ≠ nq0 := hne k_nr1 k_nq0 (Nat.ne_of_beq_eq_false rfl)
          have n154 : nr1 ≠ ez := hne k_nr1 k_ez (Nat.ne_of_beq_eq_false rfl)
          have h155 : f3 nr1 = some (.inr (3, [hd1, tl1, .int cn1])) := k81.1 _ _ k_nr1 (Nat.ne_of_beq_eq_false rfl) (ninc n154 (ninc n153 (ninc (Ne.symm nd_nr0_nr1) nin0)))
          have h156 : f98 nr1 = some (.inr (3, [hd1, tl1, .int cn1])) := by rw [ef98, va_up_ne _ _ n154]; exact h155
          have h157 : f111 nr1 = some (.inr (3, [hd1, tl1, .int cn1])) := k114.1 _ _ h156 (Nat.ne_of_beq_eq_false rfl) (ninc n154 (ninc n153 (ninc (Ne.symm nd_nr0_nr1) nin0)))
          have n158 : xo ≠ nr0 := hne k_xo k_nr0 (Nat.ne_of_beq_eq_false rfl)
          have n159 : xo ≠ nq0 := hne k_xo k_nq0 (Nat.ne_of_beq_eq_false rfl)
          have n160 : xo ≠ ez := hne k_xo k_ez (Nat.ne_of_beq_eq_false rfl)
          have h161 : f3 xo = some (.inr (4, [.ref ez, .ref eo, .ref bu])) := k81.1 _ _ k_xo (Nat.ne_of_beq_eq_false rfl) (ninc n160 (ninc n159 (ninc n158 nin0)))
          have h162 : f98 xo = some (.inr (4, [.ref ez, .ref eo, .ref bu])) := by rw [ef98, va_up_ne _ _ n160]; exact h161
          have h163 : f111 xo = some (.inr (4, [.ref ez, .ref eo, .ref bu])) := k114.1 _ _ h162 (Nat.ne_of_beq_eq_false rfl) (ninc n160 (ninc n159 (ninc n158 nin0)))
          have n164 : nw0 ≠ nr0 := hne k_nw0 k_nr0 (Nat.ne_of_beq_eq_false rfl)
          have n165 : nw0 ≠ ez := hne k_nw0 k_ez (Nat.ne_of_beq_eq_false rfl)
          have h166 : f3 nw0 = some (.inl (cI G, 6, .inl gw0)) := k81.1 _ _ k_nw0 (Nat.ne_of_beq_eq_false rfl) (ninc n165 (ninc nd_nw0_nq0 (ninc n164 nin0)))
          have h167 : f98 nw0 = some (.inl (cI G, 6, .inl gw0)) := by rw [ef98, va_up_ne _ _ n165]; exact h166
          have h168 : f111 nw0 = some (.inl (cI G, 6, .inl gw0)) := k114.1 _ _ h167 (Nat.ne_of_beq_eq_false rfl) (ninc n165 (ninc nd_nw0_nq0 (ninc n164 nin0)))
          have h169 : f111 na0 = some (.inl (cI G, 6, .inl ga0)) := k114.1 _ _ h110 (Nat.ne_of_beq_eq_false rfl) (ninc n108 (ninc nd_na0_nq0 (ninc n107 nin0)))
          have n170 : nw1 ≠ nr0 := hne k_nw1 k_nr0 (Nat.ne_of_beq_eq_false rfl)
          have n171 : nw1 ≠ ez := hne k_nw1 k_ez (Nat.ne_of_beq_eq_false rfl)
          have h172 : f3 nw1 = some (.inl (cI G, 6, .inl gw1)) := k81.1 _ _ k_nw1 (Nat.ne_of_beq_eq_false rfl) (ninc n171 (ninc (Ne.symm nd_nq0_nw1) (ninc n170 nin0)))
          have h173 : f98 nw1 = some (.inl (cI G, 6, .inl gw1)) := by rw [ef98, va_up_ne _ _ n171]; exact h172
          have h174 : f111 nw1 = some (.inl (cI G, 6, .inl gw1)) := k114.1 _ _ h173 (Nat.ne_of_beq_eq_false rfl) (ninc n171 (ninc (Ne.symm nd_nq0_nw1) (ninc n170 nin0)))
          have n175 : na1 ≠ nr0 := hne k_na1 k_nr0 (Nat.ne_of_beq_eq_false rfl)
          have n176 : na1 ≠ ez := hne k_na1 k_ez (Nat.ne_of_beq_eq_false rfl)
          have h177 : f3 na1 = some (.inl (cI G, 6, .inl ga1)) := k81.1 _ _ k_na1 (Nat.ne_of_beq_eq_false rfl) (ninc n176 (ninc (Ne.symm nd_nq0_na1) (ninc n175 nin0)))
          have h178 : f98 na1 = some (.inl (cI G, 6, .inl ga1)) := by rw [ef98, va_up_ne _ _ n176]; exact h177
          have h179 : f111 na1 = some (.inl (cI G, 6, .inl ga1)) := k114.1 _ _ h178 (Nat.ne_of_beq_eq_false rfl) (ninc n176 (ninc (Ne.symm nd_nq0_na1) (ninc n175 nin0)))
          have n180 : bu ≠ nr0 := hne k_bu k_nr0 (Nat.ne_of_beq_eq_false rfl)
          have n181 : bu ≠ nq0 := hne k_bu k_nq0 (Nat.ne_of_beq_eq_false rfl)
          have n182 : bu ≠ ez := hne k_bu k_ez (Nat.ne_of_beq_eq_false rfl)
          have h183 : f3 bu = some (.inr (0, [.ref bs, .ref bp, .ref bh, .ref bf, .ref bl, .ref bg, .int (nI n), .int (nI cg), .int (nI x)])) := k81.1 _ _ k_bu (Nat.ne_of_beq_eq_false rfl) (ninc n182 (ninc n181 (ninc n180 nin0)))
          have h184 : f98 bu = some (.inr (0, [.ref bs, .ref bp, .ref bh, .ref bf, .ref bl, .ref bg, .int (nI n), .int (nI cg), .int (nI x)])) := by rw [ef98, va_up_ne _ _ n182]; exact h183
          have h185 : f111 bu = some (.inr (0, [.ref bs, .ref bp, .ref bh, .ref bf, .ref bl, .ref bg, .int (nI n), .int (nI cg), .int (nI x)])) := k114.1 _ _ h184 (Nat.ne_of_beq_eq_false rfl) (ninc n182 (ninc n181 (ninc n180 nin0)))
          have n186 : bs ≠ nr0 := hne k_bs k_nr0 (Nat.ne_of_beq_eq_false rfl)
          have n187 : bs ≠ nq0 := hneL k_bs k_nq0 (Nat.ne_of_beq_eq_false rfl)
          have n188 : bs ≠ ez := hne k_bs k_ez (Nat.ne_of_beq_eq_false rfl)
          have h189 : f3 bs = some (.inl (cI G, 61, .inl (nf sa))) := k81.1 _ _ k_bs (Nat.ne_of_beq_eq_false rfl) (ninc n188 (ninc n187 (ninc n186 nin0)))
          have h190 : f98 bs = some (.inl (cI G, 61, .inl (nf sa))) := by rw [ef98, va_up_ne _ _ n188]; exact h189
          have h191 : f111 bs = some (.inl (cI G, 61, .inl (nf sa))) := k114.1 _ _ h190 (Nat.ne_of_beq_eq_false rfl) (ninc n188 (ninc n187 (ninc n186 nin0)))
          have n192 : bp ≠ nr0 := hne k_bp k_nr0 (Nat.ne_of_beq_eq_false rfl)
          have n193 : bp ≠ nq0 := hneL k_bp k_nq0 (Nat.ne_of_beq_eq_false rfl)
          have n194 : bp ≠ ez := hne k_bp k_ez (Nat.ne_of_beq_eq_false rfl)
          have h195 : f3 bp = some (.inl (cI G, 240, .inl (nf pk))) := k81.1 _ _ k_bp (Nat.ne_of_beq_eq_false rfl) (ninc n194 (ninc n193 (ninc n192 nin0)))
          have h196 : f98 bp = some (.inl (cI G, 240, .inl (nf pk))) := by rw [ef98, va_up_ne _ _ n194]; exact h195
          have h197 : f111 bp = some (.inl (cI G, 240, .inl (nf pk))) := k114.1 _ _ h196 (Nat.ne_of_beq_eq_false rfl) (ninc n194 (ninc n193 (ninc n192 nin0)))
          have n198 : bh ≠ nr0 := hne k_bh k_nr0 (Nat.ne_of_beq_eq_false rfl)
          have n199 : bh ≠ nq0 := hneL k_bh k_nq0 (Nat.ne_of_beq_eq_false rfl)
          have n200 : bh ≠ ez := hne k_bh k_ez (Nat.ne_of_beq_eq_false rfl)
          have h201 : f3 bh = some (.inl (cZ G, 240, .inl gh)) := k81.1 _ _ k_bh (Nat.ne_of_beq_eq_false rfl) (ninc n200 (ninc n199 (ninc n198 nin0)))
          have h202 : f98 bh = some (.inl (cZ G, 240, .inl gh)) := by rw [ef98, va_up_ne _ _ n200]; exact h201
          have h203 : f111 bh = some (.inl (cZ G, 240, .inl gh)) := k114.1 _ _ h202 (Nat.ne_of_beq_eq_false rfl) (ninc n200 (ninc n199 (ninc n198 nin0)))
          have n204 : bf ≠ nr0 := hne k_bf k_nr0 (Nat.ne_of_beq_eq_false rfl)
          have n205 : bf ≠ nq0 := hneL k_bf k_nq0 (Nat.ne_of_beq_eq_false rfl)
          have n206 : bf ≠ ez := hne k_bf k_ez (Nat.ne_of_beq_eq_false rfl)
          have h207 : f3 bf = some (.inl (cI G, 3, .inl (nf fl))) := k81.1 _ _ k_bf (Nat.ne_of_beq_eq_false rfl) (ninc n206 (ninc n205 (ninc n204 nin0)))
          have h208 : f98 bf = some (.inl (cI G, 3, .inl (nf fl))) := by rw [ef98, va_up_ne _ _ n206]; exact h207
          have h209 : f111 bf = some (.inl (cI G, 3, .inl (nf fl))) := k114.1 _ _ h208 (Nat.ne_of_beq_eq_false rfl) (ninc n206 (ninc n205 (ninc n204 nin0)))
          have n210 : bl ≠ nr0 := hne k_bl k_nr0 (Nat.ne_of_beq_eq_false rfl)
          have n211 : bl ≠ nq0 := hneL k_bl k_nq0 (Nat.ne_of_beq_eq_false rfl)
          have n212 : bl ≠ ez := hne k_bl k_ez (Nat.ne_of_beq_eq_false rfl)
          have h213 : f3 bl = some (.inl (cI G, 3, .inl gl)) := k81.1 _ _ k_bl (Nat.ne_of_beq_eq_false rfl) (ninc n212 (ninc n211 (ninc n210 nin0)))
          have h214 : f98 bl = some (.inl (cI G, 3, .inl gl)) := by rw [ef98, va_up_ne _ _ n212]; exact h213
          have h215 : f111 bl = some (.inl (cI G, 3, .inl gl)) := k114.1 _ _ h214 (Nat.ne_of_beq_eq_false rfl) (ninc n212 (ninc n211 (ninc n210 nin0)))
          have n216 : bg ≠ nr0 := hne k_bg k_nr0 (Nat.ne_of_beq_eq_false rfl)
          have n217 : bg ≠ nq0 := hneL k_bg k_nq0 (Nat.ne_of_beq_eq_false rfl)
          have n218 : bg ≠ ez := hne k_bg k_ez (Nat.ne_of_beq_eq_false rfl)
          have h219 : f3 bg = some (.inl (cI G, 60, .inl (nf gv))) := k81.1 _ _ k_bg (Nat.ne_of_beq_eq_false rfl) (ninc n218 (ninc n217 (ninc n216 nin0)))
          have h220 : f98 bg = some (.inl (cI G, 60, .inl (nf gv))) := by rw [ef98, va_up_ne _ _ n218]; exact h219
          have h221 : f111 bg = some (.inl (cI G, 60, .inl (nf gv))) := k114.1 _ _ h220 (Nat.ne_of_beq_eq_false rfl) (ninc n218 (ninc n217 (ninc n216 nin0)))
          exact hp_iret (v := x133) B0 hw hS hr ⟨Nat.le_of_ble_eq_true rfl, Nat.le_of_ble_eq_true rfl⟩ dX4_loop_30 (⟨⟨_, rfl⟩, ⟨h163, ⟨_, _, _, _, _, _, _, _, _, _, h125, h126, h127, h128, h129, h130⟩, ⟨_, _, _, _, _, _, _, _, _, _, h147, h152, h157, (fhd1.kp ((show hKp [xo, ez, eo, bu, nw0, na0, nq0, nr0, nw1, na1, nq1, nr1, bs, bp, bh, bf, bl, bg] f f3 from (k81.mono (fun x9 hx9 => by simp only [List.mem_cons, List.not_mem_nil, or_false] at hx9; rcases hx9 with hx9 | hx9 | hx9 <;> (rw [hx9]; simp)))).tr ((show hKp [xo, ez, eo, bu, nw0, na0, nq0, nr0, nw1, na1, nq1, nr1, bs, bp, bh, bf, bl, bg] f3 f98 from (by rw [ef98]; exact hKp.up h92 (Nat.ne_of_beq_eq_false rfl) (by simp))).tr (show hKp [xo, ez, eo, bu, nw0, na0, nq0, nr0, nw1, na1, nq1, nr1, bs, bp, bh, bf, bl, bg] f98 f111 from (k114.mono (fun x9 hx9 => by simp only [List.mem_cons, List.not_mem_nil, or_false] at hx9; rcases hx9 with hx9 | hx9 | hx9 <;> (rw [hx9]; simp))))))), (ftl1.kp ((show hKp [xo, ez, eo, bu, nw0, na0, nq0, nr0, nw1, na1, nq1, nr1, bs, bp, bh, bf, bl, bg] f f3 from (k81.mono (fun x9 hx9 => by simp only [List.mem_cons, List.not_mem_nil, or_false] at hx9; rcases hx9 with hx9 | hx9 | hx9 <;> (rw [hx9]; simp)))).tr ((show hKp [xo, ez, eo, bu, nw0, na0, nq0, nr0, nw1, na1, nq1, nr1, bs, bp, bh, bf, bl, bg] f3 f98 from (by rw [ef98]; exact hKp.up h92 (Nat.ne_of_beq_eq_false rfl) (by simp))).tr (show hKp [xo, ez, eo, bu, nw0, na0, nq0, nr0, nw1, na1, nq1, nr1, bs, bp, bh, bf, bl, bg] f98 f111 from (k114.mono (fun x9 hx9 => by simp only [List.mem_cons, List.not_mem_nil, or_false] at hx9; rcases hx9 with hx9 | hx9 | hx9 <;> (rw [hx9]; simp))))))), blp1⟩, h168, h169, h174, h179, h185, h191, h197, h203, h209, h215, h221, p113, hB9, hfl9, nd_ez_eo, nd_nr0_nr1, nd_nw0_na0, nd_nw0_nq0, nd_nw0_nw1, nd_nw0_na1, nd_nw0_nq1, nd_na0_nq0, nd_na0_nw1, nd_na0_na1, nd_na0_nq1, nd_nq0_nw1, nd_nq0_na1, nd_nq0_nq1, nd_nw1_na1, nd_nw1_nq1, nd_na1_nq1, nd_bh_bp, nd_bf_bl⟩, ((show hKp [xo, ez, eo, bu, nw0, na0, nq0, nr0, nw1, na1, nq1, nr1, bs, bp, bh, bf, bl, bg] f f3 from (k81.mono (fun x9 hx9 => by simp only [List.mem_cons, List.not_mem_nil, or_false] at hx9; rcases hx9 with hx9 | hx9 | hx9 <;> (rw [hx9]; simp)))).tr ((show hKp [xo, ez, eo, bu, nw0, na0, nq0, nr0, nw1, na1, nq1, nr1, bs, bp, bh, bf, bl, bg] f3 f98 from (by rw [ef98]; exact hKp.up h92 (Nat.ne_of_beq_eq_false rfl) (by simp))).tr (show hKp [xo, ez, eo, bu, nw0, na0, nq0, nr0, nw1, na1, nq1, nr1, bs, bp, bh, bf, bl, bg] f98 f111 from (k114.mono (fun x9 hx9 => by simp only [List.mem_cons, List.not_mem_nil, or_false] at hx9; rcases hx9 with hx9 | hx9 | hx9 <;> (rw [hx9]; simp))))))⟩)
    · subst ev9
      refine W.eq (g2 := F0 m 5 ls [.ref eo]) rfl ?_
      refine lv_astore_n (lv' := [(2, .ref eo), (0, .ref xo), (1, .int i)]) hx hb dX4_loop_5 rfl hl9 (by decide) rfl (fun ls hl9 => ?_)
      refine lv_aload_n hx hb dX4_loop_6 rfl (lv_at hl9 0 rfl) ?_
      refine hp_S (As := [.ref eo]) (rest := []) B0 hw hS (c_X4_takeFrame hl G f eo nw1 na1 nq1 nr1 mg1 ⟨_, _, _, _, _, _, _, _, _, _, k_eo, k_nq1, k_nr1, fhd1, ftl1, blp1⟩ hPx) mS_X4_takeFrame qM_X4_73 rfl rfl hl9.1 (Nat.le_of_ble_eq_true rfl) ⟨⟨Nat.le_of_ble_eq_true rfl, Nat.le_of_ble_eq_true rfl⟩, Nat.le_of_ble_eq_true rfl, Nat.le_of_ble_eq_true rfl⟩ dX4_loop_7 (fun E ce q9 f222 H locs hPX hw hS hce hcv hcl => ?_) (fun v f222 H locs hP hw hS => ?_)
      · have hP := hPX
        obtain ⟨eE9, h223, p224, k225⟩ := hP
        obtain ⟨st226, tm227, sr228, li229, lp230, mi231, cn232, gq233, hd234, tl235, h236, h237, h238, h239, h240, h241⟩ := h223
        subst eE9
        have n242 : ez ≠ nr1 := hne k_ez k_nr1 (Nat.ne_of_beq_eq_false rfl)
        have n243 : ez ≠ nq1 := hne k_ez k_nq1 (Nat.ne_of_beq_eq_false rfl)
        have h244 : f222 ez = some (.inr (1, [.ref nw0, .ref na0, .ref nq0, .ref nr0, .int mg0, .int st0, .int tm0, .int sr0, .int li0, .int lp0, .int mi0])) := k225.1 _ _ k_ez (Nat.ne_of_beq_eq_false rfl) (ninc nd_ez_eo (ninc n243 (ninc n242 nin0)))
        have n245 : nq0 ≠ nr1 := hne k_nq0 k_nr1 (Nat.ne_of_beq_eq_false rfl)
        have n246 : nq0 ≠ eo := hne k_nq0 k_eo (Nat.ne_of_beq_eq_false rfl)
        have h247 : f222 nq0 = some (.inl (cI G, 6, .inl gq0)) := k225.1 _ _ k_nq0 (Nat.ne_of_beq_eq_false rfl) (ninc n246 (ninc nd_nq0_nq1 (ninc n245 nin0)))
        have n248 : nr0 ≠ nq1 := hne k_nr0 k_nq1 (Nat.ne_of_beq_eq_false rfl)
        have n249 : nr0 ≠ eo := hne k_nr0 k_eo (Nat.ne_of_beq_eq_false rfl)
        have h250 : f222 nr0 = some (.inr (3, [hd0, tl0, .int cn0])) := k225.1 _ _ k_nr0 (Nat.ne_of_beq_eq_false rfl) (ninc n249 (ninc n248 (ninc nd_nr0_nr1 nin0)))
        have n251 : xo ≠ nr1 := hne k_xo k_nr1 (Nat.ne_of_beq_eq_false rfl)
        have n252 : xo ≠ nq1 := hne k_xo k_nq1 (Nat.ne_of_beq_eq_false rfl)
        have n253 : xo ≠ eo := hne k_xo k_eo (Nat.ne_of_beq_eq_false rfl)
        have h254 : f222 xo = some (.inr (4, [.ref ez, .ref eo, .ref bu])) := k225.1 _ _ k_xo (Nat.ne_of_beq_eq_false rfl) (ninc n253 (ninc n252 (ninc n251 nin0)))
        have n255 : nw0 ≠ nr1 := hne k_nw0 k_nr1 (Nat.ne_of_beq_eq_false rfl)
        have n256 : nw0 ≠ eo := hne k_nw0 k_eo (Nat.ne_of_beq_eq_false rfl)
        have h257 : f222 nw0 = some (.inl (cI G, 6, .inl gw0)) := k225.1 _ _ k_nw0 (Nat.ne_of_beq_eq_false rfl) (ninc n256 (ninc nd_nw0_nq1 (ninc n255 nin0)))
        have n258 : na0 ≠ nr1 := hne k_na0 k_nr1 (Nat.ne_of_beq_eq_false rfl)
        have n259 : na0 ≠ eo := hne k_na0 k_eo (Nat.ne_of_beq_eq_false rfl)
        have h260 : f222 na0 = some (.inl (cI G, 6, .inl ga0)) := k225.1 _ _ k_na0 (Nat.ne_of_beq_eq_false rfl) (ninc n259 (ninc nd_na0_nq1 (ninc n258 nin0)))
        have n261 : nw1 ≠ nr1 := hne k_nw1 k_nr1 (Nat.ne_of_beq_eq_false rfl)
        have n262 : nw1 ≠ eo := hne k_nw1 k_eo (Nat.ne_of_beq_eq_false rfl)
        have h263 : f222 nw1 = some (.inl (cI G, 6, .inl gw1)) := k225.1 _ _ k_nw1 (Nat.ne_of_beq_eq_false rfl) (ninc n262 (ninc nd_nw1_nq1 (ninc n261 nin0)))
        have n264 : na1 ≠ nr1 := hne k_na1 k_nr1 (Nat.ne_of_beq_eq_false rfl)
        have n265 : na1 ≠ eo := hne k_na1 k_eo (Nat.ne_of_beq_eq_false rfl)
        have h266 : f222 na1 = some (.inl (cI G, 6, .inl ga1)) := k225.1 _ _ k_na1 (Nat.ne_of_beq_eq_false rfl) (ninc n265 (ninc nd_na1_nq1 (ninc n264 nin0)))
        have n267 : bu ≠ nr1 := hne k_bu k_nr1 (Nat.ne_of_beq_eq_false rfl)
        have n268 : bu ≠ nq1 := hne k_bu k_nq1 (Nat.ne_of_beq_eq_false rfl)
        have n269 : bu ≠ eo := hne k_bu k_eo (Nat.ne_of_beq_eq_false rfl)
        have h270 : f222 bu = some (.inr (0, [.ref bs, .ref bp, .ref bh, .ref bf, .ref bl, .ref bg, .int (nI n), .int (nI cg), .int (nI x)])) := k225.1 _ _ k_bu (Nat.ne_of_beq_eq_false rfl) (ninc n269 (ninc n268 (ninc n267 nin0)))
        have n271 : bs ≠ nr1 := hne k_bs k_nr1 (Nat.ne_of_beq_eq_false rfl)
        have n272 : bs ≠ nq1 := hneL k_bs k_nq1 (Nat.ne_of_beq_eq_false rfl)
        have n273 : bs ≠ eo := hne k_bs k_eo (Nat.ne_of_beq_eq_false rfl)
        have h274 : f222 bs = some (.inl (cI G, 61, .inl (nf sa))) := k225.1 _ _ k_bs (Nat.ne_of_beq_eq_false rfl) (ninc n273 (ninc n272 (ninc n271 nin0)))
        have n275 : bp ≠ nr1 := hne k_bp k_nr1 (Nat.ne_of_beq_eq_false rfl)
        have n276 : bp ≠ nq1 := hneL k_bp k_nq1 (Nat.ne_of_beq_eq_false rfl)
        have n277 : bp ≠ eo := hne k_bp k_eo (Nat.ne_of_beq_eq_false rfl)
        have h278 : f222 bp = some (.inl (cI G, 240, .inl (nf pk))) := k225.1 _ _ k_bp (Nat.ne_of_beq_eq_false rfl) (ninc n277 (ninc n276 (ninc n275 nin0)))
        have n279 : bh ≠ nr1 := hne k_bh k_nr1 (Nat.ne_of_beq_eq_false rfl)
        have n280 : bh ≠ nq1 := hneL k_bh k_nq1 (Nat.ne_of_beq_eq_false rfl)
        have n281 : bh ≠ eo := hne k_bh k_eo (Nat.ne_of_beq_eq_false rfl)
        have h282 : f222 bh = some (.inl (cZ G, 240, .inl gh)) := k225.1 _ _ k_bh (Nat.ne_of_beq_eq_false rfl) (ninc n281 (ninc n280 (ninc n279 nin0)))
        have n283 : bf ≠ nr1 := hne k_bf k_nr1 (Nat.ne_of_beq_eq_false rfl)
        have n284 : bf ≠ nq1 := hneL k_bf k_nq1 (Nat.ne_of_beq_eq_false rfl)
        have n285 : bf ≠ eo := hne k_bf k_eo (Nat.ne_of_beq_eq_false rfl)
        have h286 : f222 bf = some (.inl (cI G, 3, .inl (nf fl))) := k225.1 _ _ k_bf (Nat.ne_of_beq_eq_false rfl) (ninc n285 (ninc n284 (ninc n283 nin0)))
        have n287 : bl ≠ nr1 := hne k_bl k_nr1 (Nat.ne_of_beq_eq_false rfl)
        have n288 : bl ≠ nq1 := hneL k_bl k_nq1 (Nat.ne_of_beq_eq_false rfl)
        have n289 : bl ≠ eo := hne k_bl k_eo (Nat.ne_of_beq_eq_false rfl)
        have h290 : f222 bl = some (.inl (cI G, 3, .inl gl)) := k225.1 _ _ k_bl (Nat.ne_of_beq_eq_false rfl) (ninc n289 (ninc n288 (ninc n287 nin0)))
        have n291 : bg ≠ nr1 := hne k_bg k_nr1 (Nat.ne_of_beq_eq_false rfl)
        have n292 : bg ≠ nq1 := hneL k_bg k_nq1 (Nat.ne_of_beq_eq_false rfl)
        have n293 : bg ≠ eo := hne k_bg k_eo (Nat.ne_of_beq_eq_false rfl)
        have h294 : f222 bg = some (.inl (cI G, 60, .inl (nf gv))) := k225.1 _ _ k_bg (Nat.ne_of_beq_eq_false rfl) (ninc n293 (ninc n292 (ninc n291 nin0)))
        exact hp_out B0 hw hS hout hce hcv hcl ⟨Nat.le_of_ble_eq_true rfl, Nat.le_of_ble_eq_true rfl⟩ (⟨(Or.inr rfl), ⟨h254, ⟨_, _, _, _, _, _, _, _, _, _, h244, h247, h250, (fhd0.kp (show hKp [xo, ez, eo, bu, nw0, na0, nq0, nr0, nw1, na1, nq1, nr1, bs, bp, bh, bf, bl, bg] f f222 from (k225.mono (fun x9 hx9 => by simp only [List.mem_cons, List.not_mem_nil, or_false] at hx9; rcases hx9 with hx9 | hx9 | hx9 <;> (rw [hx9]; simp))))), (ftl0.kp (show hKp [xo, ez, eo, bu, nw0, na0, nq0, nr0, nw1, na1, nq1, nr1, bs, bp, bh, bf, bl, bg] f f222 from (k225.mono (fun x9 hx9 => by simp only [List.mem_cons, List.not_mem_nil, or_false] at hx9; rcases hx9 with hx9 | hx9 | hx9 <;> (rw [hx9]; simp))))), blp0⟩, ⟨_, _, _, _, _, _, _, _, _, _, h236, h237, h238, h239, h240, h241⟩, h257, h260, h263, h266, h270, h274, h278, h282, h286, h290, h294, p224, hB9, hfl9, nd_ez_eo, nd_nr0_nr1, nd_nw0_na0, nd_nw0_nq0, nd_nw0_nw1, nd_nw0_na1, nd_nw0_nq1, nd_na0_nq0, nd_na0_nw1, nd_na0_na1, nd_na0_nq1, nd_nq0_nw1, nd_nq0_na1, nd_nq0_nq1, nd_nw1_na1, nd_nw1_nq1, nd_na1_nq1, nd_bh_bp, nd_bf_bl⟩, (show hKp [xo, ez, eo, bu, nw0, na0, nq0, nr0, nw1, na1, nq1, nr1, bs, bp, bh, bf, bl, bg] f f222 from (k225.mono (fun x9 hx9 => by simp only [List.mem_cons, List.not_mem_nil, or_false] at hx9; rcases hx9 with hx9 | hx9 | hx9 <;> (rw [hx9]; simp))))⟩)
      · obtain ⟨⟨t295, k296, ev9, h297⟩, h298, p299, k300⟩ := hP
        obtain ⟨st301, tm302, sr303, li304, lp305, mi306, cn307, gq308, hd309, tl310, h311, h312, h313, h314, h315, h316⟩ := h298
        subst ev9
        refine W.eq (g2 := F0 m 10 ls [.ref t295]) rfl ?_
        refine lv_astore_n (lv' := [(3, .ref t295), (2, .ref eo), (0, .ref xo), (1, .int i)]) hx hb dX4_loop_10 rfl hl9 (by decide) rfl (fun ls hl9 => ?_)
        refine lv_aload_n hx hb dX4_loop_11 rfl (lv_at hl9 1 rfl) ?_
        refine lv_dup hx hb dX4_loop_12 rfl ?_
        refine hp_getN B0 hw 1 rfl in_X1 h311 10 (by decide) oF_X4_86 rfl dX4_loop_13 ?_
        refine lv_iconst (v := 1) hx hb dX4_loop_16 (by decide) ?_
        refine lv_iadd hx hb dX4_loop_17 ?_
        refine hp_putN (fs1 := [.ref nw1, .ref na1, .ref nq1, .ref nr1, .int mg1, .int st301, .int tm302, .int sr303, .int li304, .int lp305, .int (mi306 + 1)]) (ty := .int) B0 hw hS 1 rfl in_X1 tyX1 tyX1_ok nmX1 h311 10 (by decide) oF_X4_86 rfl (by decide +kernel) rfl rfl (Nat.le_of_ble_eq_true rfl) rfl dX4_loop_18 (fun H locs f317 ef317 hw hS => ?_)
        have h318 : f317 eo = some (.inr (1, [.ref nw1, .ref na1, .ref nq1, .ref nr1, .int mg1, .int st301, .int tm302, .int sr303, .int li304, .int lp305, .int (mi306 + 1)])) := by rw [ef317, va_up_self]
        refine lv_aload_n hx hb dX4_loop_21 rfl (lv_at hl9 1 rfl) ?_
        refine lv_aload_n hx hb dX4_loop_22 rfl (lv_at hl9 0 rfl) ?_
        have n320 : nq1 ≠ eo := hne k_nq1 k_eo (Nat.ne_of_beq_eq_false rfl)
        have h319 : f317 nq1 = some (.inl (cI G, 6, .inl gq308)) := by rw [ef317, va_up_ne _ _ n320]; exact h312
        have n322 : nr1 ≠ eo := hne k_nr1 k_eo (Nat.ne_of_beq_eq_false rfl)
        have h321 : f317 nr1 = some (.inr (3, [hd309, tl310, .int cn307])) := by rw [ef317, va_up_ne _ _ n322]; exact h313
        have p323 : PoolX G [] f317 := by rw [ef317]; exact px_upd p299 h311 (Nat.ne_of_beq_eq_false rfl) (Nat.ne_of_beq_eq_false rfl) (fun g9 h9 => nomatch h9)
        have n325 : t295 ≠ eo := hne h297 h311 (Nat.ne_of_beq_eq_false rfl)
        have h324 : f317 t295 = some (.inr (2, k296)) := by rw [ef317, va_up_ne _ _ n325]; exact h297
        have n326 : na1 ≠ nr1 := hne k_na1 k_nr1 (Nat.ne_of_beq_eq_false rfl)
        have n327 : na1 ≠ eo := hne k_na1 k_eo (Nat.ne_of_beq_eq_false rfl)
        have h328 : f222 na1 = some (.inl (cI G, 6, .inl ga1)) := k300.1 _ _ k_na1 (Nat.ne_of_beq_eq_false rfl) (ninc n327 (ninc nd_na1_nq1 (ninc n326 nin0)))
        have h329 : f317 na1 = some (.inl (cI G, 6, .inl ga1)) := by rw [ef317, va_up_ne _ _ n327]; exact h328
        refine hp_V (ci := 1) (As := [.ref t295]) (rest := []) B0 hw hS (c_X1_hear hl G f317 eo nw1 na1 nq1 nr1 mg1 ⟨_, _, _, _, _, _, _, _, _, _, h318, h319, h321, (h314.kp (show hKp [xo, ez, eo, bu, nw0, na0, nq0, nr0, nw1, na1, nq1, nr1, bs, bp, bh, bf, bl, bg] f222 f317 from (by rw [ef317]; exact hKp.up h311 (Nat.ne_of_beq_eq_false rfl) (by simp)))), (h315.kp (show hKp [xo, ez, eo, bu, nw0, na0, nq0, nr0, nw1, na1, nq1, nr1, bs, bp, bh, bf, bl, bg] f222 f317 from (by rw [ef317]; exact hKp.up h311 (Nat.ne_of_beq_eq_false rfl) (by simp)))), h316⟩ p323 ga1 h329 nd_na1_nq1 t295 _ h324) mV_X1_hear qM_X4_77 rfl h318 rfl rfl hl9.1 (Nat.le_of_ble_eq_true rfl) ⟨⟨Nat.le_of_ble_eq_true rfl, Nat.le_of_ble_eq_true rfl⟩, Nat.le_of_ble_eq_true rfl, Nat.le_of_ble_eq_true rfl⟩ dX4_loop_23 (fun E ce q9 f330 H locs hPX hw hS hce hcv hcl => ?_) (fun v f330 H locs hP hw hS => ?_)
        · exact hPX.elim
        · obtain ⟨ev9, h331, p332, k333⟩ := hP
          obtain ⟨st334, tm335, sr336, li337, lp338, mi339, cn340, gq341, hd342, tl343, h344, h345, h346, h347, h348, h349⟩ := h331
          subst ev9
          refine W.eq (g2 := F0 m 26 ls []) rfl ?_
          refine lv_aload_n hx hb dX4_loop_26 rfl (lv_at hl9 0 rfl) ?_
          obtain ⟨k350, h351⟩ := k333.2 _ _ h324
          obtain ⟨x352, x353, x354, v355, y356, g357, e358, h359, h360⟩ := p332 _ _ h351 nin0
          rw [e358] at h351
          refine hp_get B0 hw 2 rfl in_X2 h351 0 (by decide) qF_X4_81 rfl dX4_loop_27 ?_
          have n362 : ez ≠ nr1 := hne k_ez k_nr1 (Nat.ne_of_beq_eq_false rfl)
          have n363 : ez ≠ nq1 := hne k_ez k_nq1 (Nat.ne_of_beq_eq_false rfl)
          have h364 : f222 ez = some (.inr (1, [.ref nw0, .ref na0, .ref nq0, .ref nr0, .int mg0, .int st0, .int tm0, .int sr0, .int li0, .int lp0, .int mi0])) := k300.1 _ _ k_ez (Nat.ne_of_beq_eq_false rfl) (ninc nd_ez_eo (ninc n363 (ninc n362 nin0)))
          have h365 : f317 ez = some (.inr (1, [.ref nw0, .ref na0, .ref nq0, .ref nr0, .int mg0, .int st0, .int tm0, .int sr0, .int li0, .int lp0, .int mi0])) := by rw [ef317, va_up_ne _ _ nd_ez_eo]; exact h364
          have h366 : f330 ez = some (.inr (1, [.ref nw0, .ref na0, .ref nq0, .ref nr0, .int mg0, .int st0, .int tm0, .int sr0, .int li0, .int lp0, .int mi0])) := k333.1 _ _ h365 (Nat.ne_of_beq_eq_false rfl) (ninc nd_ez_eo (ninc n363 (ninc n362 nin0)))
          have n367 : nq0 ≠ nr1 := hne k_nq0 k_nr1 (Nat.ne_of_beq_eq_false rfl)
          have n368 : nq0 ≠ eo := hne k_nq0 k_eo (Nat.ne_of_beq_eq_false rfl)
          have h369 : f222 nq0 = some (.inl (cI G, 6, .inl gq0)) := k300.1 _ _ k_nq0 (Nat.ne_of_beq_eq_false rfl) (ninc n368 (ninc nd_nq0_nq1 (ninc n367 nin0)))
          have h370 : f317 nq0 = some (.inl (cI G, 6, .inl gq0)) := by rw [ef317, va_up_ne _ _ n368]; exact h369
          have h371 : f330 nq0 = some (.inl (cI G, 6, .inl gq0)) := k333.1 _ _ h370 (Nat.ne_of_beq_eq_false rfl) (ninc n368 (ninc nd_nq0_nq1 (ninc n367 nin0)))
          have n372 : nr0 ≠ nq1 := hne k_nr0 k_nq1 (Nat.ne_of_beq_eq_false rfl)
          have n373 : nr0 ≠ eo := hne k_nr0 k_eo (Nat.ne_of_beq_eq_false rfl)
          have h374 : f222 nr0 = some (.inr (3, [hd0, tl0, .int cn0])) := k300.1 _ _ k_nr0 (Nat.ne_of_beq_eq_false rfl) (ninc n373 (ninc n372 (ninc nd_nr0_nr1 nin0)))
          have h375 : f317 nr0 = some (.inr (3, [hd0, tl0, .int cn0])) := by rw [ef317, va_up_ne _ _ n373]; exact h374
          have h376 : f330 nr0 = some (.inr (3, [hd0, tl0, .int cn0])) := k333.1 _ _ h375 (Nat.ne_of_beq_eq_false rfl) (ninc n373 (ninc n372 (ninc nd_nr0_nr1 nin0)))
          have n377 : xo ≠ nr1 := hne k_xo k_nr1 (Nat.ne_of_beq_eq_false rfl)
          have n378 : xo ≠ nq1 := hne k_xo k_nq1 (Nat.ne_of_beq_eq_false rfl)
          have n379 : xo ≠ eo := hne k_xo k_eo (Nat.ne_of_beq_eq_false rfl)
          have h380 : f222 xo = some (.inr (4, [.ref ez, .ref eo, .ref bu])) := k300.1 _ _ k_xo (Nat.ne_of_beq_eq_false rfl) (ninc n379 (ninc n378 (ninc n377 nin0)))
          have h381 : f317 xo = some (.inr (4, [.ref ez, .ref eo, .ref bu])) := by rw [ef317, va_up_ne _ _ n379]; exact h380
          have h382 : f330 xo = some (.inr (4, [.ref ez, .ref eo, .ref bu])) := k333.1 _ _ h381 (Nat.ne_of_beq_eq_false rfl) (ninc n379 (ninc n378 (ninc n377 nin0)))
          have n383 : nw0 ≠ nr1 := hne k_nw0 k_nr1 (Nat.ne_of_beq_eq_false rfl)
          have n384 : nw0 ≠ eo := hne k_nw0 k_eo (Nat.ne_of_beq_eq_false rfl)
          have h385 : f222 nw0 = some (.inl (cI G, 6, .inl gw0)) := k300.1 _ _ k_nw0 (Nat.ne_of_beq_eq_false rfl) (ninc n384 (ninc nd_nw0_nq1 (ninc n383 nin0)))
          have h386 : f317 nw0 = some (.inl (cI G, 6, .inl gw0)) := by rw [ef317, va_up_ne _ _ n384]; exact h385
          have h387 : f330 nw0 = some (.inl (cI G, 6, .inl gw0)) := k333.1 _ _ h386 (Nat.ne_of_beq_eq_false rfl) (ninc n384 (ninc nd_nw0_nq1 (ninc n383 nin0)))
          have n388 : na0 ≠ nr1 := hne k_na0 k_nr1 (Nat.ne_of_beq_eq_false rfl)
          have n389 : na0 ≠ eo := hne k_na0 k_eo (Nat.ne_of_beq_eq_false rfl)
          have h390 : f222 na0 = some (.inl (cI G, 6, .inl ga0)) := k300.1 _ _ k_na0 (Nat.ne_of_beq_eq_false rfl) (ninc n389 (ninc nd_na0_nq1 (ninc n388 nin0)))
          have h391 : f317 na0 = some (.inl (cI G, 6, .inl ga0)) := by rw [ef317, va_up_ne _ _ n389]; exact h390
          have h392 : f330 na0 = some (.inl (cI G, 6, .inl ga0)) := k333.1 _ _ h391 (Nat.ne_of_beq_eq_false rfl) (ninc n389 (ninc nd_na0_nq1 (ninc n388 nin0)))
          have n393 : nw1 ≠ nr1 := hne k_nw1 k_nr1 (Nat.ne_of_beq_eq_false rfl)
          have n394 : nw1 ≠ eo := hne k_nw1 k_eo (Nat.ne_of_beq_eq_false rfl)
          have h395 : f222 nw1 = some (.inl (cI G, 6, .inl gw1)) := k300.1 _ _ k_nw1 (Nat.ne_of_beq_eq_false rfl) (ninc n394 (ninc nd_nw1_nq1 (ninc n393 nin0)))
          have h396 : f317 nw1 = some (.inl (cI G, 6, .inl gw1)) := by rw [ef317, va_up_ne _ _ n394]; exact h395
          have h397 : f330 nw1 = some (.inl (cI G, 6, .inl gw1)) := k333.1 _ _ h396 (Nat.ne_of_beq_eq_false rfl) (ninc n394 (ninc nd_nw1_nq1 (ninc n393 nin0)))
          have h398 : f330 na1 = some (.inl (cI G, 6, .inl ga1)) := k333.1 _ _ h329 (Nat.ne_of_beq_eq_false rfl) (ninc n327 (ninc nd_na1_nq1 (ninc n326 nin0)))
          have n399 : bu ≠ nr1 := hne k_bu k_nr1 (Nat.ne_of_beq_eq_false rfl)
          have n400 : bu ≠ nq1 := hne k_bu k_nq1 (Nat.ne_of_beq_eq_false rfl)
          have n401 : bu ≠ eo := hne k_bu k_eo (Nat.ne_of_beq_eq_false rfl)
          have h402 : f222 bu = some (.inr (0, [.ref bs, .ref bp, .ref bh, .ref bf, .ref bl, .ref bg, .int (nI n), .int (nI cg), .int (nI x)])) := k300.1 _ _ k_bu (Nat.ne_of_beq_eq_false rfl) (ninc n401 (ninc n400 (ninc n399 nin0)))
          have h403 : f317 bu = some (.inr (0, [.ref bs, .ref bp, .ref bh, .ref bf, .ref bl, .ref bg, .int (nI n), .int (nI cg), .int (nI x)])) := by rw [ef317, va_up_ne _ _ n401]; exact h402
          have h404 : f330 bu = some (.inr (0, [.ref bs, .ref bp, .ref bh, .ref bf, .ref bl, .ref bg, .int (nI n), .int (nI cg), .int (nI x)])) := k333.1 _ _ h403 (Nat.ne_of_beq_eq_false rfl) (ninc n401 (ninc n400 (ninc n399 nin0)))
          have n405 : bs ≠ nr1 := hne k_bs k_nr1 (Nat.ne_of_beq_eq_false rfl)
          have n406 : bs ≠ nq1 := hneL k_bs k_nq1 (Nat.ne_of_beq_eq_false rfl)
          have n407 : bs ≠ eo := hne k_bs k_eo (Nat.ne_of_beq_eq_false rfl)
          have h408 : f222 bs = some (.inl (cI G, 61, .inl (nf sa))) := k300.1 _ _ k_bs (Nat.ne_of_beq_eq_false rfl) (ninc n407 (ninc n406 (ninc n405 nin0)))
          have h409 : f317 bs = some (.inl (cI G, 61, .inl (nf sa))) := by rw [ef317, va_up_ne _ _ n407]; exact h408
          have h410 : f330 bs = some (.inl (cI G, 61, .inl (nf sa))) := k333.1 _ _ h409 (Nat.ne_of_beq_eq_false rfl) (ninc n407 (ninc n406 (ninc n405 nin0)))
          have n411 : bp ≠ nr1 := hne k_bp k_nr1 (Nat.ne_of_beq_eq_false rfl)
          have n412 : bp ≠ nq1 := hneL k_bp k_nq1 (Nat.ne_of_beq_eq_false rfl)
          have n413 : bp ≠ eo := hne k_bp k_eo (Nat.ne_of_beq_eq_false rfl)
          have h414 : f222 bp = some (.inl (cI G, 240, .inl (nf pk))) := k300.1 _ _ k_bp (Nat.ne_of_beq_eq_false rfl) (ninc n413 (ninc n412 (ninc n411 nin0)))
          have h415 : f317 bp = some (.inl (cI G, 240, .inl (nf pk))) := by rw [ef317, va_up_ne _ _ n413]; exact h414
          have h416 : f330 bp = some (.inl (cI G, 240, .inl (nf pk))) := k333.1 _ _ h415 (Nat.ne_of_beq_eq_false rfl) (ninc n413 (ninc n412 (ninc n411 nin0)))
          have n417 : bh ≠ nr1 := hne k_bh k_nr1 (Nat.ne_of_beq_eq_false rfl)
          have n418 : bh ≠ nq1 := hneL k_bh k_nq1 (Nat.ne_of_beq_eq_false rfl)
          have n419 : bh ≠ eo := hne k_bh k_eo (Nat.ne_of_beq_eq_false rfl)
          have h420 : f222 bh = some (.inl (cZ G, 240, .inl gh)) := k300.1 _ _ k_bh (Nat.ne_of_beq_eq_false rfl) (ninc n419 (ninc n418 (ninc n417 nin0)))
          have h421 : f317 bh = some (.inl (cZ G, 240, .inl gh)) := by rw [ef317, va_up_ne _ _ n419]; exact h420
          have h422 : f330 bh = some (.inl (cZ G, 240, .inl gh)) := k333.1 _ _ h421 (Nat.ne_of_beq_eq_false rfl) (ninc n419 (ninc n418 (ninc n417 nin0)))
          have n423 : bf ≠ nr1 := hne k_bf k_nr1 (Nat.ne_of_beq_eq_false rfl)
          have n424 : bf ≠ nq1 := hneL k_bf k_nq1 (Nat.ne_of_beq_eq_false rfl)
          have n425 : bf ≠ eo := hne k_bf k_eo (Nat.ne_of_beq_eq_false rfl)
          have h426 : f222 bf = some (.inl (cI G, 3, .inl (nf fl))) := k300.1 _ _ k_bf (Nat.ne_of_beq_eq_false rfl) (ninc n425 (ninc n424 (ninc n423 nin0)))
          have h427 : f317 bf = some (.inl (cI G, 3, .inl (nf fl))) := by rw [ef317, va_up_ne _ _ n425]; exact h426
          have h428 : f330 bf = some (.inl (cI G, 3, .inl (nf fl))) := k333.1 _ _ h427 (Nat.ne_of_beq_eq_false rfl) (ninc n425 (ninc n424 (ninc n423 nin0)))
          have n429 : bl ≠ nr1 := hne k_bl k_nr1 (Nat.ne_of_beq_eq_false rfl)
          have n430 : bl ≠ nq1 := hneL k_bl k_nq1 (Nat.ne_of_beq_eq_false rfl)
          have n431 : bl ≠ eo := hne k_bl k_eo (Nat.ne_of_beq_eq_false rfl)
          have h432 : f222 bl = some (.inl (cI G, 3, .inl gl)) := k300.1 _ _ k_bl (Nat.ne_of_beq_eq_false rfl) (ninc n431 (ninc n430 (ninc n429 nin0)))
          have h433 : f317 bl = some (.inl (cI G, 3, .inl gl)) := by rw [ef317, va_up_ne _ _ n431]; exact h432
          have h434 : f330 bl = some (.inl (cI G, 3, .inl gl)) := k333.1 _ _ h433 (Nat.ne_of_beq_eq_false rfl) (ninc n431 (ninc n430 (ninc n429 nin0)))
          have n435 : bg ≠ nr1 := hne k_bg k_nr1 (Nat.ne_of_beq_eq_false rfl)
          have n436 : bg ≠ nq1 := hneL k_bg k_nq1 (Nat.ne_of_beq_eq_false rfl)
          have n437 : bg ≠ eo := hne k_bg k_eo (Nat.ne_of_beq_eq_false rfl)
          have h438 : f222 bg = some (.inl (cI G, 60, .inl (nf gv))) := k300.1 _ _ k_bg (Nat.ne_of_beq_eq_false rfl) (ninc n437 (ninc n436 (ninc n435 nin0)))
          have h439 : f317 bg = some (.inl (cI G, 60, .inl (nf gv))) := by rw [ef317, va_up_ne _ _ n437]; exact h438
          have h440 : f330 bg = some (.inl (cI G, 60, .inl (nf gv))) := k333.1 _ _ h439 (Nat.ne_of_beq_eq_false rfl) (ninc n437 (ninc n436 (ninc n435 nin0)))
          exact hp_iret (v := x352) B0 hw hS hr ⟨Nat.le_of_ble_eq_true rfl, Nat.le_of_ble_eq_true rfl⟩ dX4_loop_30 (⟨⟨_, rfl⟩, ⟨h382, ⟨_, _, _, _, _, _, _, _, _, _, h366, h371, h376, (fhd0.kp ((show hKp [xo, ez, eo, bu, nw0, na0, nq0, nr0, nw1, na1, nq1, nr1, bs, bp, bh, bf, bl, bg] f f222 from (k300.mono (fun x9 hx9 => by simp only [List.mem_cons, List.not_mem_nil, or_false] at hx9; rcases hx9 with hx9 | hx9 | hx9 <;> (rw [hx9]; simp)))).tr ((show hKp [xo, ez, eo, bu, nw0, na0, nq0, nr0, nw1, na1, nq1, nr1, bs, bp, bh, bf, bl, bg] f222 f317 from (by rw [ef317]; exact hKp.up h311 (Nat.ne_of_beq_eq_false rfl) (by simp))).tr (show hKp [xo, ez, eo, bu, nw0, na0, nq0, nr0, nw1, na1, nq1, nr1, bs, bp, bh, bf, bl, bg] f317 f330 from (k333.mono (fun x9 hx9 => by simp only [List.mem_cons, List.not_mem_nil, or_false] at hx9; rcases hx9 with hx9 | hx9 | hx9 <;> (rw [hx9]; simp))))))), (ftl0.kp ((show hKp [xo, ez, eo, bu, nw0, na0, nq0, nr0, nw1, na1, nq1, nr1, bs, bp, bh, bf, bl, bg] f f222 from (k300.mono (fun x9 hx9 => by simp only [List.mem_cons, List.not_mem_nil, or_false] at hx9; rcases hx9 with hx9 | hx9 | hx9 <;> (rw [hx9]; simp)))).tr ((show hKp [xo, ez, eo, bu, nw0, na0, nq0, nr0, nw1, na1, nq1, nr1, bs, bp, bh, bf, bl, bg] f222 f317 from (by rw [ef317]; exact hKp.up h311 (Nat.ne_of_beq_eq_false rfl) (by simp))).tr (show hKp [xo, ez, eo, bu, nw0, na0, nq0, nr0, nw1, na1, nq1, nr1, bs, bp, bh, bf, bl, bg] f317 f330 from (k333.mono (fun x9 hx9 => by simp only [List.mem_cons, List.not_mem_nil, or_false] at hx9; rcases hx9 with hx9 | hx9 | hx9 <;> (rw [hx9]; simp))))))), blp0⟩, ⟨_, _, _, _, _, _, _, _, _, _, h344, h345, h346, h347, h348, h349⟩, h387, h392, h397, h398, h404, h410, h416, h422, h428, h434, h440, p332, hB9, hfl9, nd_ez_eo, nd_nr0_nr1, nd_nw0_na0, nd_nw0_nq0, nd_nw0_nw1, nd_nw0_na1, nd_nw0_nq1, nd_na0_nq0, nd_na0_nw1, nd_na0_na1, nd_na0_nq1, nd_nq0_nw1, nd_nq0_na1, nd_nq0_nq1, nd_nw1_na1, nd_nw1_nq1, nd_na1_nq1, nd_bh_bp, nd_bf_bl⟩, ((show hKp [xo, ez, eo, bu, nw0, na0, nq0, nr0, nw1, na1, nq1, nr1, bs, bp, bh, bf, bl, bg] f f222 from (k300.mono (fun x9 hx9 => by simp only [List.mem_cons, List.not_mem_nil, or_false] at hx9; rcases hx9 with hx9 | hx9 | hx9 <;> (rw [hx9]; simp)))).tr ((show hKp [xo, ez, eo, bu, nw0, na0, nq0, nr0, nw1, na1, nq1, nr1, bs, bp, bh, bf, bl, bg] f222 f317 from (by rw [ef317]; exact hKp.up h311 (Nat.ne_of_beq_eq_false rfl) (by simp))).tr (show hKp [xo, ez, eo, bu, nw0, na0, nq0, nr0, nw1, na1, nq1, nr1, bs, bp, bh, bf, bl, bg] f317 f330 from (k333.mono (fun x9 hx9 => by simp only [List.mem_cons, List.not_mem_nil, or_false] at hx9; rcases hx9 with hx9 | hx9 | hx9 <;> (rw [hx9]; simp))))))⟩)

set_option maxHeartbeats 4000000 in
set_option maxRecDepth 100000 in
theorem c_W4_stateOf {l : Launch} (hl : l.stackTraces = false) (G : hG) (f : hM) (xo ez eo bu nw0 na0 nq0 nr0 nw1 na1 nq1 nr1 bs bp bh bf bl bg : Nat) (gw0 : Nat → Int32) (ga0 : Nat → Int32) (gw1 : Nat → Int32) (ga1 : Nat → Int32) (mg0 : Int32) (mg1 : Int32) (n : Nat) (a : Nat) (cg : Nat) (x : Nat) (sa : Nat → Nat) (pk : Nat → Nat) (fl : Nat → Nat) (gv : Nat → Nat) (gh : Nat → Int32) (gl : Nat → Int32) (hC : CW G f xo ez eo bu nw0 na0 nq0 nr0 nw1 na1 nq1 nr1 bs bp bh bf bl bg gw0 ga0 gw1 ga1 mg0 mg1 n a cg x sa pk fl gv gh gl) (i : Int32) : CT l yX4_stateOf (.code yX4_stateOf cX4_stateOf 2 (some .int)) 7 103 1 6 G [.ref xo, .int i] f (fun v f1 => (∃ r9 : Int32, v = some (.int r9)) ∧ CW G f1 xo ez eo bu nw0 na0 nq0 nr0 nw1 na1 nq1 nr1 bs bp bh bf bl bg gw0 ga0 gw1 ga1 mg0 mg1 n a cg x sa pk fl gv gh gl ∧ hKp [xo, ez, eo, bu, nw0, na0, nq0, nr0, nw1, na1, nq1, nr1, bs, bp, bh, bf, bl, bg] f f1) (fun E f1 => (E = eI) ∧ CW G f1 xo ez eo bu nw0 na0 nq0 nr0 nw1 na1 nq1 nr1 bs bp bh bf bl bg gw0 ga0 gw1 ga1 mg0 mg1 n a cg x sa pk fl gv gh gl ∧ hKp [xo, ez, eo, bu, nw0, na0, nq0, nr0, nw1, na1, nq1, nr1, bs, bp, bh, bf, bl, bg] f f1) := by
  refine hp_start hl (own := RX4) (by decide) rfl (Nat.le_of_ble_eq_true rfl) ?_
  intro p e s m args below meth c B0 hr hnm hout hw hS ls hl9
  have hx := B0.1
  have hb := B0.2.1
  have hl9 : lv_has ls 2 [(0, .ref xo), (1, .int i)] := hl9
  obtain ⟨k_xo, ⟨st0, tm0, sr0, li0, lp0, mi0, cn0, gq0, hd0, tl0, k_ez, k_nq0, k_nr0, fhd0, ftl0, blp0⟩, ⟨st1, tm1, sr1, li1, lp1, mi1, cn1, gq1, hd1, tl1, k_eo, k_nq1, k_nr1, fhd1, ftl1, blp1⟩, k_nw0, k_na0, k_nw1, k_na1, k_bu, k_bs, k_bp, k_bh, k_bf, k_bl, k_bg, hPx, hB9, hfl9, nd_ez_eo, nd_nr0_nr1, nd_nw0_na0, nd_nw0_nq0, nd_nw0_nw1, nd_nw0_na1, nd_nw0_nq1, nd_na0_nq0, nd_na0_nw1, nd_na0_na1, nd_na0_nq1, nd_nq0_nw1, nd_nq0_na1, nd_nq0_nq1, nd_nw1_na1, nd_nw1_nq1, nd_na1_nq1, nd_bh_bp, nd_bf_bl⟩ := id hC
  refine lv_aload_n hx hb dX4_stateOf_0 rfl (lv_at hl9 0 rfl) ?_
  refine lv_iload_n hx hb dX4_stateOf_1 rfl (lv_at hl9 1 rfl) ?_
  refine hp_V (ci := 4) (As := [.int i]) (rest := []) B0 hw hS (c_X4_endAt hl G f xo ez eo bu k_xo i) mV_X4_endAt qM_X4_28 rfl k_xo rfl rfl hl9.1 (Nat.le_of_ble_eq_true rfl) ⟨⟨Nat.le_of_ble_eq_true rfl, Nat.le_of_ble_eq_true rfl⟩, Nat.le_of_ble_eq_true rfl, Nat.le_of_ble_eq_true rfl⟩ dX4_stateOf_2 (fun E ce q9 f1 H locs hPX hw hS hce hcv hcl => ?_) (fun v f1 H locs hP hw hS => ?_)
  · obtain ⟨ef9, eE9, hE9⟩ := hPX
    rw [ef9] at hw
    subst eE9
    exact hp_out B0 hw hS hout hce hcv hcl ⟨Nat.le_of_ble_eq_true rfl, Nat.le_of_ble_eq_true rfl⟩ (⟨rfl, ⟨k_xo, ⟨_, _, _, _, _, _, _, _, _, _, k_ez, k_nq0, k_nr0, fhd0, ftl0, blp0⟩, ⟨_, _, _, _, _, _, _, _, _, _, k_eo, k_nq1, k_nr1, fhd1, ftl1, blp1⟩, k_nw0, k_na0, k_nw1, k_na1, k_bu, k_bs, k_bp, k_bh, k_bf, k_bl, k_bg, hPx, hB9, hfl9, nd_ez_eo, nd_nr0_nr1, nd_nw0_na0, nd_nw0_nq0, nd_nw0_nw1, nd_nw0_na1, nd_nw0_nq1, nd_na0_nq0, nd_na0_nw1, nd_na0_na1, nd_na0_nq1, nd_nq0_nw1, nd_nq0_na1, nd_nq0_nq1, nd_nw1_na1, nd_nw1_nq1, nd_na1_nq1, nd_bh_bp, nd_bf_bl⟩, hKp.rf⟩)
  · obtain ⟨ef9, hv9⟩ := hP
    rw [ef9] at hw
    rcases hv9 with ⟨k2, ev9⟩ | ⟨k2, ev9⟩
    · subst ev9
      refine W.eq (g2 := F0 m 5 ls [.ref ez]) rfl ?_
      refine hp_getN B0 hw 1 rfl in_X1 k_ez 5 (by decide) oF_X4_55 rfl dX4_stateOf_5 ?_
      exact hp_iret (v := st0) B0 hw hS hr ⟨Nat.le_of_ble_eq_true rfl, Nat.le_of_ble_eq_true rfl⟩ dX4_stateOf_8 (⟨⟨_, rfl⟩, ⟨k_xo, ⟨_, _, _, _, _, _, _, _, _, _, k_ez, k_nq0, k_nr0, fhd0, ftl0, blp0⟩, ⟨_, _, _, _, _, _, _, _, _, _, k_eo, k_nq1, k_nr1, fhd1, ftl1, blp1⟩, k_nw0, k_na0, k_nw1, k_na1, k_bu, k_bs, k_bp, k_bh, k_bf, k_bl, k_bg, hPx, hB9, hfl9, nd_ez_eo, nd_nr0_nr1, nd_nw0_na0, nd_nw0_nq0, nd_nw0_nw1, nd_nw0_na1, nd_nw0_nq1, nd_na0_nq0, nd_na0_nw1, nd_na0_na1, nd_na0_nq1, nd_nq0_nw1, nd_nq0_na1, nd_nq0_nq1, nd_nw1_na1, nd_nw1_nq1, nd_na1_nq1, nd_bh_bp, nd_bf_bl⟩, hKp.rf⟩)
    · subst ev9
      refine W.eq (g2 := F0 m 5 ls [.ref eo]) rfl ?_
      refine hp_getN B0 hw 1 rfl in_X1 k_eo 5 (by decide) oF_X4_55 rfl dX4_stateOf_5 ?_
      exact hp_iret (v := st1) B0 hw hS hr ⟨Nat.le_of_ble_eq_true rfl, Nat.le_of_ble_eq_true rfl⟩ dX4_stateOf_8 (⟨⟨_, rfl⟩, ⟨k_xo, ⟨_, _, _, _, _, _, _, _, _, _, k_ez, k_nq0, k_nr0, fhd0, ftl0, blp0⟩, ⟨_, _, _, _, _, _, _, _, _, _, k_eo, k_nq1, k_nr1, fhd1, ftl1, blp1⟩, k_nw0, k_na0, k_nw1, k_na1, k_bu, k_bs, k_bp, k_bh, k_bf, k_bl, k_bg, hPx, hB9, hfl9, nd_ez_eo, nd_nr0_nr1, nd_nw0_na0, nd_nw0_nq0, nd_nw0_nw1, nd_nw0_na1, nd_nw0_nq1, nd_na0_nq0, nd_na0_nw1, nd_na0_na1, nd_na0_nq1, nd_nq0_nw1, nd_nq0_na1, nd_nq0_nq1, nd_nw1_na1, nd_nw1_nq1, nd_na1_nq1, nd_bh_bp, nd_bf_bl⟩, hKp.rf⟩)

set_option maxHeartbeats 4000000 in
set_option maxRecDepth 100000 in
theorem c_W4_requests {l : Launch} (hl : l.stackTraces = false) (G : hG) (f : hM) (xo ez eo bu nw0 na0 nq0 nr0 nw1 na1 nq1 nr1 bs bp bh bf bl bg : Nat) (gw0 : Nat → Int32) (ga0 : Nat → Int32) (gw1 : Nat → Int32) (ga1 : Nat → Int32) (mg0 : Int32) (mg1 : Int32) (n : Nat) (a : Nat) (cg : Nat) (x : Nat) (sa : Nat → Nat) (pk : Nat → Nat) (fl : Nat → Nat) (gv : Nat → Nat) (gh : Nat → Int32) (gl : Nat → Int32) (hC : CW G f xo ez eo bu nw0 na0 nq0 nr0 nw1 na1 nq1 nr1 bs bp bh bf bl bg gw0 ga0 gw1 ga1 mg0 mg1 n a cg x sa pk fl gv gh gl) (i : Int32) : CT l yX4_requests (.code yX4_requests cX4_requests 2 (some .int)) 7 103 1 6 G [.ref xo, .int i] f (fun v f1 => (∃ r9 : Int32, v = some (.int r9)) ∧ CW G f1 xo ez eo bu nw0 na0 nq0 nr0 nw1 na1 nq1 nr1 bs bp bh bf bl bg gw0 ga0 gw1 ga1 mg0 mg1 n a cg x sa pk fl gv gh gl ∧ hKp [xo, ez, eo, bu, nw0, na0, nq0, nr0, nw1, na1, nq1, nr1, bs, bp, bh, bf, bl, bg] f f1) (fun E f1 => (E = eI) ∧ CW G f1 xo ez eo bu nw0 na0 nq0 nr0 nw1 na1 nq1 nr1 bs bp bh bf bl bg gw0 ga0 gw1 ga1 mg0 mg1 n a cg x sa pk fl gv gh gl ∧ hKp [xo, ez, eo, bu, nw0, na0, nq0, nr0, nw1, na1, nq1, nr1, bs, bp, bh, bf, bl, bg] f f1) := by
  refine hp_start hl (own := RX4) (by decide) rfl (Nat.le_of_ble_eq_true rfl) ?_
  intro p e s m args below meth c B0 hr hnm hout hw hS ls hl9
  have hx := B0.1
  have hb := B0.2.1
  have hl9 : lv_has ls 2 [(0, .ref xo), (1, .int i)] := hl9
  obtain ⟨k_xo, ⟨st0, tm0, sr0, li0, lp0, mi0, cn0, gq0, hd0, tl0, k_ez, k_nq0, k_nr0, fhd0, ftl0, blp0⟩, ⟨st1, tm1, sr1, li1, lp1, mi1, cn1, gq1, hd1, tl1, k_eo, k_nq1, k_nr1, fhd1, ftl1, blp1⟩, k_nw0, k_na0, k_nw1, k_na1, k_bu, k_bs, k_bp, k_bh, k_bf, k_bl, k_bg, hPx, hB9, hfl9, nd_ez_eo, nd_nr0_nr1, nd_nw0_na0, nd_nw0_nq0, nd_nw0_nw1, nd_nw0_na1, nd_nw0_nq1, nd_na0_nq0, nd_na0_nw1, nd_na0_na1, nd_na0_nq1, nd_nq0_nw1, nd_nq0_na1, nd_nq0_nq1, nd_nw1_na1, nd_nw1_nq1, nd_na1_nq1, nd_bh_bp, nd_bf_bl⟩ := id hC
  refine lv_aload_n hx hb dX4_requests_0 rfl (lv_at hl9 0 rfl) ?_
  refine lv_iload_n hx hb dX4_requests_1 rfl (lv_at hl9 1 rfl) ?_
  refine hp_V (ci := 4) (As := [.int i]) (rest := []) B0 hw hS (c_X4_endAt hl G f xo ez eo bu k_xo i) mV_X4_endAt qM_X4_28 rfl k_xo rfl rfl hl9.1 (Nat.le_of_ble_eq_true rfl) ⟨⟨Nat.le_of_ble_eq_true rfl, Nat.le_of_ble_eq_true rfl⟩, Nat.le_of_ble_eq_true rfl, Nat.le_of_ble_eq_true rfl⟩ dX4_requests_2 (fun E ce q9 f1 H locs hPX hw hS hce hcv hcl => ?_) (fun v f1 H locs hP hw hS => ?_)
  · obtain ⟨ef9, eE9, hE9⟩ := hPX
    rw [ef9] at hw
    subst eE9
    exact hp_out B0 hw hS hout hce hcv hcl ⟨Nat.le_of_ble_eq_true rfl, Nat.le_of_ble_eq_true rfl⟩ (⟨rfl, ⟨k_xo, ⟨_, _, _, _, _, _, _, _, _, _, k_ez, k_nq0, k_nr0, fhd0, ftl0, blp0⟩, ⟨_, _, _, _, _, _, _, _, _, _, k_eo, k_nq1, k_nr1, fhd1, ftl1, blp1⟩, k_nw0, k_na0, k_nw1, k_na1, k_bu, k_bs, k_bp, k_bh, k_bf, k_bl, k_bg, hPx, hB9, hfl9, nd_ez_eo, nd_nr0_nr1, nd_nw0_na0, nd_nw0_nq0, nd_nw0_nw1, nd_nw0_na1, nd_nw0_nq1, nd_na0_nq0, nd_na0_nw1, nd_na0_na1, nd_na0_nq1, nd_nq0_nw1, nd_nq0_na1, nd_nq0_nq1, nd_nw1_na1, nd_nw1_nq1, nd_na1_nq1, nd_bh_bp, nd_bf_bl⟩, hKp.rf⟩)
  · obtain ⟨ef9, hv9⟩ := hP
    rw [ef9] at hw
    rcases hv9 with ⟨k2, ev9⟩ | ⟨k2, ev9⟩
    · subst ev9
      refine W.eq (g2 := F0 m 5 ls [.ref ez]) rfl ?_
      refine hp_getN B0 hw 1 rfl in_X1 k_ez 7 (by decide) oF_X4_99 rfl dX4_requests_5 ?_
      exact hp_iret (v := sr0) B0 hw hS hr ⟨Nat.le_of_ble_eq_true rfl, Nat.le_of_ble_eq_true rfl⟩ dX4_requests_8 (⟨⟨_, rfl⟩, ⟨k_xo, ⟨_, _, _, _, _, _, _, _, _, _, k_ez, k_nq0, k_nr0, fhd0, ftl0, blp0⟩, ⟨_, _, _, _, _, _, _, _, _, _, k_eo, k_nq1, k_nr1, fhd1, ftl1, blp1⟩, k_nw0, k_na0, k_nw1, k_na1, k_bu, k_bs, k_bp, k_bh, k_bf, k_bl, k_bg, hPx, hB9, hfl9, nd_ez_eo, nd_nr0_nr1, nd_nw0_na0, nd_nw0_nq0, nd_nw0_nw1, nd_nw0_na1, nd_nw0_nq1, nd_na0_nq0, nd_na0_nw1, nd_na0_na1, nd_na0_nq1, nd_nq0_nw1, nd_nq0_na1, nd_nq0_nq1, nd_nw1_na1, nd_nw1_nq1, nd_na1_nq1, nd_bh_bp, nd_bf_bl⟩, hKp.rf⟩)
    · subst ev9
      refine W.eq (g2 := F0 m 5 ls [.ref eo]) rfl ?_
      refine hp_getN B0 hw 1 rfl in_X1 k_eo 7 (by decide) oF_X4_99 rfl dX4_requests_5 ?_
      exact hp_iret (v := sr1) B0 hw hS hr ⟨Nat.le_of_ble_eq_true rfl, Nat.le_of_ble_eq_true rfl⟩ dX4_requests_8 (⟨⟨_, rfl⟩, ⟨k_xo, ⟨_, _, _, _, _, _, _, _, _, _, k_ez, k_nq0, k_nr0, fhd0, ftl0, blp0⟩, ⟨_, _, _, _, _, _, _, _, _, _, k_eo, k_nq1, k_nr1, fhd1, ftl1, blp1⟩, k_nw0, k_na0, k_nw1, k_na1, k_bu, k_bs, k_bp, k_bh, k_bf, k_bl, k_bg, hPx, hB9, hfl9, nd_ez_eo, nd_nr0_nr1, nd_nw0_na0, nd_nw0_nq0, nd_nw0_nw1, nd_nw0_na1, nd_nw0_nq1, nd_na0_nq0, nd_na0_nw1, nd_na0_na1, nd_na0_nq1, nd_nq0_nw1, nd_nq0_na1, nd_nq0_nq1, nd_nw1_na1, nd_nw1_nq1, nd_na1_nq1, nd_bh_bp, nd_bf_bl⟩, hKp.rf⟩)

set_option maxHeartbeats 4000000 in
set_option maxRecDepth 100000 in
theorem c_W4_missed {l : Launch} (hl : l.stackTraces = false) (G : hG) (f : hM) (xo ez eo bu nw0 na0 nq0 nr0 nw1 na1 nq1 nr1 bs bp bh bf bl bg : Nat) (gw0 : Nat → Int32) (ga0 : Nat → Int32) (gw1 : Nat → Int32) (ga1 : Nat → Int32) (mg0 : Int32) (mg1 : Int32) (n : Nat) (a : Nat) (cg : Nat) (x : Nat) (sa : Nat → Nat) (pk : Nat → Nat) (fl : Nat → Nat) (gv : Nat → Nat) (gh : Nat → Int32) (gl : Nat → Int32) (hC : CW G f xo ez eo bu nw0 na0 nq0 nr0 nw1 na1 nq1 nr1 bs bp bh bf bl bg gw0 ga0 gw1 ga1 mg0 mg1 n a cg x sa pk fl gv gh gl) (i : Int32) : CT l yX4_missed (.code yX4_missed cX4_missed 2 (some .int)) 7 103 1 6 G [.ref xo, .int i] f (fun v f1 => (∃ r9 : Int32, v = some (.int r9)) ∧ CW G f1 xo ez eo bu nw0 na0 nq0 nr0 nw1 na1 nq1 nr1 bs bp bh bf bl bg gw0 ga0 gw1 ga1 mg0 mg1 n a cg x sa pk fl gv gh gl ∧ hKp [xo, ez, eo, bu, nw0, na0, nq0, nr0, nw1, na1, nq1, nr1, bs, bp, bh, bf, bl, bg] f f1) (fun E f1 => (E = eI) ∧ CW G f1 xo ez eo bu nw0 na0 nq0 nr0 nw1 na1 nq1 nr1 bs bp bh bf bl bg gw0 ga0 gw1 ga1 mg0 mg1 n a cg x sa pk fl gv gh gl ∧ hKp [xo, ez, eo, bu, nw0, na0, nq0, nr0, nw1, na1, nq1, nr1, bs, bp, bh, bf, bl, bg] f f1) := by
  refine hp_start hl (own := RX4) (by decide) rfl (Nat.le_of_ble_eq_true rfl) ?_
  intro p e s m args below meth c B0 hr hnm hout hw hS ls hl9
  have hx := B0.1
  have hb := B0.2.1
  have hl9 : lv_has ls 2 [(0, .ref xo), (1, .int i)] := hl9
  obtain ⟨k_xo, ⟨st0, tm0, sr0, li0, lp0, mi0, cn0, gq0, hd0, tl0, k_ez, k_nq0, k_nr0, fhd0, ftl0, blp0⟩, ⟨st1, tm1, sr1, li1, lp1, mi1, cn1, gq1, hd1, tl1, k_eo, k_nq1, k_nr1, fhd1, ftl1, blp1⟩, k_nw0, k_na0, k_nw1, k_na1, k_bu, k_bs, k_bp, k_bh, k_bf, k_bl, k_bg, hPx, hB9, hfl9, nd_ez_eo, nd_nr0_nr1, nd_nw0_na0, nd_nw0_nq0, nd_nw0_nw1, nd_nw0_na1, nd_nw0_nq1, nd_na0_nq0, nd_na0_nw1, nd_na0_na1, nd_na0_nq1, nd_nq0_nw1, nd_nq0_na1, nd_nq0_nq1, nd_nw1_na1, nd_nw1_nq1, nd_na1_nq1, nd_bh_bp, nd_bf_bl⟩ := id hC
  refine lv_aload_n hx hb dX4_missed_0 rfl (lv_at hl9 0 rfl) ?_
  refine lv_iload_n hx hb dX4_missed_1 rfl (lv_at hl9 1 rfl) ?_
  refine hp_V (ci := 4) (As := [.int i]) (rest := []) B0 hw hS (c_X4_endAt hl G f xo ez eo bu k_xo i) mV_X4_endAt qM_X4_28 rfl k_xo rfl rfl hl9.1 (Nat.le_of_ble_eq_true rfl) ⟨⟨Nat.le_of_ble_eq_true rfl, Nat.le_of_ble_eq_true rfl⟩, Nat.le_of_ble_eq_true rfl, Nat.le_of_ble_eq_true rfl⟩ dX4_missed_2 (fun E ce q9 f1 H locs hPX hw hS hce hcv hcl => ?_) (fun v f1 H locs hP hw hS => ?_)
  · obtain ⟨ef9, eE9, hE9⟩ := hPX
    rw [ef9] at hw
    subst eE9
    exact hp_out B0 hw hS hout hce hcv hcl ⟨Nat.le_of_ble_eq_true rfl, Nat.le_of_ble_eq_true rfl⟩ (⟨rfl, ⟨k_xo, ⟨_, _, _, _, _, _, _, _, _, _, k_ez, k_nq0, k_nr0, fhd0, ftl0, blp0⟩, ⟨_, _, _, _, _, _, _, _, _, _, k_eo, k_nq1, k_nr1, fhd1, ftl1, blp1⟩, k_nw0, k_na0, k_nw1, k_na1, k_bu, k_bs, k_bp, k_bh, k_bf, k_bl, k_bg, hPx, hB9, hfl9, nd_ez_eo, nd_nr0_nr1, nd_nw0_na0, nd_nw0_nq0, nd_nw0_nw1, nd_nw0_na1, nd_nw0_nq1, nd_na0_nq0, nd_na0_nw1, nd_na0_na1, nd_na0_nq1, nd_nq0_nw1, nd_nq0_na1, nd_nq0_nq1, nd_nw1_na1, nd_nw1_nq1, nd_na1_nq1, nd_bh_bp, nd_bf_bl⟩, hKp.rf⟩)
  · obtain ⟨ef9, hv9⟩ := hP
    rw [ef9] at hw
    rcases hv9 with ⟨k2, ev9⟩ | ⟨k2, ev9⟩
    · subst ev9
      refine W.eq (g2 := F0 m 5 ls [.ref ez]) rfl ?_
      refine hp_getN B0 hw 1 rfl in_X1 k_ez 10 (by decide) oF_X4_86 rfl dX4_missed_5 ?_
      exact hp_iret (v := mi0) B0 hw hS hr ⟨Nat.le_of_ble_eq_true rfl, Nat.le_of_ble_eq_true rfl⟩ dX4_missed_8 (⟨⟨_, rfl⟩, ⟨k_xo, ⟨_, _, _, _, _, _, _, _, _, _, k_ez, k_nq0, k_nr0, fhd0, ftl0, blp0⟩, ⟨_, _, _, _, _, _, _, _, _, _, k_eo, k_nq1, k_nr1, fhd1, ftl1, blp1⟩, k_nw0, k_na0, k_nw1, k_na1, k_bu, k_bs, k_bp, k_bh, k_bf, k_bl, k_bg, hPx, hB9, hfl9, nd_ez_eo, nd_nr0_nr1, nd_nw0_na0, nd_nw0_nq0, nd_nw0_nw1, nd_nw0_na1, nd_nw0_nq1, nd_na0_nq0, nd_na0_nw1, nd_na0_na1, nd_na0_nq1, nd_nq0_nw1, nd_nq0_na1, nd_nq0_nq1, nd_nw1_na1, nd_nw1_nq1, nd_na1_nq1, nd_bh_bp, nd_bf_bl⟩, hKp.rf⟩)
    · subst ev9
      refine W.eq (g2 := F0 m 5 ls [.ref eo]) rfl ?_
      refine hp_getN B0 hw 1 rfl in_X1 k_eo 10 (by decide) oF_X4_86 rfl dX4_missed_5 ?_
      exact hp_iret (v := mi1) B0 hw hS hr ⟨Nat.le_of_ble_eq_true rfl, Nat.le_of_ble_eq_true rfl⟩ dX4_missed_8 (⟨⟨_, rfl⟩, ⟨k_xo, ⟨_, _, _, _, _, _, _, _, _, _, k_ez, k_nq0, k_nr0, fhd0, ftl0, blp0⟩, ⟨_, _, _, _, _, _, _, _, _, _, k_eo, k_nq1, k_nr1, fhd1, ftl1, blp1⟩, k_nw0, k_na0, k_nw1, k_na1, k_bu, k_bs, k_bp, k_bh, k_bf, k_bl, k_bg, hPx, hB9, hfl9, nd_ez_eo, nd_nr0_nr1, nd_nw0_na0, nd_nw0_nq0, nd_nw0_nw1, nd_nw0_na1, nd_nw0_nq1, nd_na0_nq0, nd_na0_nw1, nd_na0_na1, nd_na0_nq1, nd_nq0_nw1, nd_nq0_na1, nd_nq0_nq1, nd_nw1_na1, nd_nw1_nq1, nd_na1_nq1, nd_bh_bp, nd_bf_bl⟩, hKp.rf⟩)

set_option maxHeartbeats 4000000 in
set_option maxRecDepth 100000 in
theorem c_W4_isLooped {l : Launch} (hl : l.stackTraces = false) (G : hG) (f : hM) (xo ez eo bu nw0 na0 nq0 nr0 nw1 na1 nq1 nr1 bs bp bh bf bl bg : Nat) (gw0 : Nat → Int32) (ga0 : Nat → Int32) (gw1 : Nat → Int32) (ga1 : Nat → Int32) (mg0 : Int32) (mg1 : Int32) (n : Nat) (a : Nat) (cg : Nat) (x : Nat) (sa : Nat → Nat) (pk : Nat → Nat) (fl : Nat → Nat) (gv : Nat → Nat) (gh : Nat → Int32) (gl : Nat → Int32) (hC : CW G f xo ez eo bu nw0 na0 nq0 nr0 nw1 na1 nq1 nr1 bs bp bh bf bl bg gw0 ga0 gw1 ga1 mg0 mg1 n a cg x sa pk fl gv gh gl) (i : Int32) : CT l yX4_isLooped (.code yX4_isLooped cX4_isLooped 2 (some .boolean)) 7 103 1 6 G [.ref xo, .int i] f (fun v f1 => (∃ r9 : Int32, v = some (.int r9)) ∧ CW G f1 xo ez eo bu nw0 na0 nq0 nr0 nw1 na1 nq1 nr1 bs bp bh bf bl bg gw0 ga0 gw1 ga1 mg0 mg1 n a cg x sa pk fl gv gh gl ∧ hKp [xo, ez, eo, bu, nw0, na0, nq0, nr0, nw1, na1, nq1, nr1, bs, bp, bh, bf, bl, bg] f f1) (fun E f1 => (E = eI) ∧ CW G f1 xo ez eo bu nw0 na0 nq0 nr0 nw1 na1 nq1 nr1 bs bp bh bf bl bg gw0 ga0 gw1 ga1 mg0 mg1 n a cg x sa pk fl gv gh gl ∧ hKp [xo, ez, eo, bu, nw0, na0, nq0, nr0, nw1, na1, nq1, nr1, bs, bp, bh, bf, bl, bg] f f1) := by
  refine hp_start hl (own := RX4) (by decide) rfl (Nat.le_of_ble_eq_true rfl) ?_
  intro p e s m args below meth c B0 hr hnm hout hw hS ls hl9
  have hx := B0.1
  have hb := B0.2.1
  have hl9 : lv_has ls 2 [(0, .ref xo), (1, .int i)] := hl9
  obtain ⟨k_xo, ⟨st0, tm0, sr0, li0, lp0, mi0, cn0, gq0, hd0, tl0, k_ez, k_nq0, k_nr0, fhd0, ftl0, blp0⟩, ⟨st1, tm1, sr1, li1, lp1, mi1, cn1, gq1, hd1, tl1, k_eo, k_nq1, k_nr1, fhd1, ftl1, blp1⟩, k_nw0, k_na0, k_nw1, k_na1, k_bu, k_bs, k_bp, k_bh, k_bf, k_bl, k_bg, hPx, hB9, hfl9, nd_ez_eo, nd_nr0_nr1, nd_nw0_na0, nd_nw0_nq0, nd_nw0_nw1, nd_nw0_na1, nd_nw0_nq1, nd_na0_nq0, nd_na0_nw1, nd_na0_na1, nd_na0_nq1, nd_nq0_nw1, nd_nq0_na1, nd_nq0_nq1, nd_nw1_na1, nd_nw1_nq1, nd_na1_nq1, nd_bh_bp, nd_bf_bl⟩ := id hC
  refine lv_aload_n hx hb dX4_isLooped_0 rfl (lv_at hl9 0 rfl) ?_
  refine lv_iload_n hx hb dX4_isLooped_1 rfl (lv_at hl9 1 rfl) ?_
  refine hp_V (ci := 4) (As := [.int i]) (rest := []) B0 hw hS (c_X4_endAt hl G f xo ez eo bu k_xo i) mV_X4_endAt qM_X4_28 rfl k_xo rfl rfl hl9.1 (Nat.le_of_ble_eq_true rfl) ⟨⟨Nat.le_of_ble_eq_true rfl, Nat.le_of_ble_eq_true rfl⟩, Nat.le_of_ble_eq_true rfl, Nat.le_of_ble_eq_true rfl⟩ dX4_isLooped_2 (fun E ce q9 f1 H locs hPX hw hS hce hcv hcl => ?_) (fun v f1 H locs hP hw hS => ?_)
  · obtain ⟨ef9, eE9, hE9⟩ := hPX
    rw [ef9] at hw
    subst eE9
    exact hp_out B0 hw hS hout hce hcv hcl ⟨Nat.le_of_ble_eq_true rfl, Nat.le_of_ble_eq_true rfl⟩ (⟨rfl, ⟨k_xo, ⟨_, _, _, _, _, _, _, _, _, _, k_ez, k_nq0, k_nr0, fhd0, ftl0, blp0⟩, ⟨_, _, _, _, _, _, _, _, _, _, k_eo, k_nq1, k_nr1, fhd1, ftl1, blp1⟩, k_nw0, k_na0, k_nw1, k_na1, k_bu, k_bs, k_bp, k_bh, k_bf, k_bl, k_bg, hPx, hB9, hfl9, nd_ez_eo, nd_nr0_nr1, nd_nw0_na0, nd_nw0_nq0, nd_nw0_nw1, nd_nw0_na1, nd_nw0_nq1, nd_na0_nq0, nd_na0_nw1, nd_na0_na1, nd_na0_nq1, nd_nq0_nw1, nd_nq0_na1, nd_nq0_nq1, nd_nw1_na1, nd_nw1_nq1, nd_na1_nq1, nd_bh_bp, nd_bf_bl⟩, hKp.rf⟩)
  · obtain ⟨ef9, hv9⟩ := hP
    rw [ef9] at hw
    rcases hv9 with ⟨k2, ev9⟩ | ⟨k2, ev9⟩
    · subst ev9
      refine W.eq (g2 := F0 m 5 ls [.ref ez]) rfl ?_
      refine hp_getN B0 hw 1 rfl in_X1 k_ez 9 (by decide) oF_X4_102 rfl dX4_isLooped_5 ?_
      exact hp_zret (v := lp0) B0 hw hS hr ⟨Nat.le_of_ble_eq_true rfl, Nat.le_of_ble_eq_true rfl⟩ (blp0) dX4_isLooped_8 (⟨⟨_, rfl⟩, ⟨k_xo, ⟨_, _, _, _, _, _, _, _, _, _, k_ez, k_nq0, k_nr0, fhd0, ftl0, blp0⟩, ⟨_, _, _, _, _, _, _, _, _, _, k_eo, k_nq1, k_nr1, fhd1, ftl1, blp1⟩, k_nw0, k_na0, k_nw1, k_na1, k_bu, k_bs, k_bp, k_bh, k_bf, k_bl, k_bg, hPx, hB9, hfl9, nd_ez_eo, nd_nr0_nr1, nd_nw0_na0, nd_nw0_nq0, nd_nw0_nw1, nd_nw0_na1, nd_nw0_nq1, nd_na0_nq0, nd_na0_nw1, nd_na0_na1, nd_na0_nq1, nd_nq0_nw1, nd_nq0_na1, nd_nq0_nq1, nd_nw1_na1, nd_nw1_nq1, nd_na1_nq1, nd_bh_bp, nd_bf_bl⟩, hKp.rf⟩)
    · subst ev9
      refine W.eq (g2 := F0 m 5 ls [.ref eo]) rfl ?_
      refine hp_getN B0 hw 1 rfl in_X1 k_eo 9 (by decide) oF_X4_102 rfl dX4_isLooped_5 ?_
      exact hp_zret (v := lp1) B0 hw hS hr ⟨Nat.le_of_ble_eq_true rfl, Nat.le_of_ble_eq_true rfl⟩ (blp1) dX4_isLooped_8 (⟨⟨_, rfl⟩, ⟨k_xo, ⟨_, _, _, _, _, _, _, _, _, _, k_ez, k_nq0, k_nr0, fhd0, ftl0, blp0⟩, ⟨_, _, _, _, _, _, _, _, _, _, k_eo, k_nq1, k_nr1, fhd1, ftl1, blp1⟩, k_nw0, k_na0, k_nw1, k_na1, k_bu, k_bs, k_bp, k_bh, k_bf, k_bl, k_bg, hPx, hB9, hfl9, nd_ez_eo, nd_nr0_nr1, nd_nw0_na0, nd_nw0_nq0, nd_nw0_nw1, nd_nw0_na1, nd_nw0_nq1, nd_na0_nq0, nd_na0_nw1, nd_na0_na1, nd_na0_nq1, nd_nq0_nw1, nd_nq0_na1, nd_nq0_nq1, nd_nw1_na1, nd_nw1_nq1, nd_na1_nq1, nd_bh_bp, nd_bf_bl⟩, hKp.rf⟩)

set_option maxHeartbeats 4000000 in
set_option maxRecDepth 100000 in
theorem c_W4_underWay {l : Launch} (hl : l.stackTraces = false) (G : hG) (f : hM) (xo ez eo bu nw0 na0 nq0 nr0 nw1 na1 nq1 nr1 bs bp bh bf bl bg : Nat) (gw0 : Nat → Int32) (ga0 : Nat → Int32) (gw1 : Nat → Int32) (ga1 : Nat → Int32) (mg0 : Int32) (mg1 : Int32) (n : Nat) (a : Nat) (cg : Nat) (x : Nat) (sa : Nat → Nat) (pk : Nat → Nat) (fl : Nat → Nat) (gv : Nat → Nat) (gh : Nat → Int32) (gl : Nat → Int32) (hC : CW G f xo ez eo bu nw0 na0 nq0 nr0 nw1 na1 nq1 nr1 bs bp bh bf bl bg gw0 ga0 gw1 ga1 mg0 mg1 n a cg x sa pk fl gv gh gl) (i : Int32) : CT l yX4_underWay (.code yX4_underWay cX4_underWay 2 (some .int)) 7 103 1 6 G [.ref xo, .int i] f (fun v f1 => (∃ r9 : Int32, v = some (.int r9)) ∧ CW G f1 xo ez eo bu nw0 na0 nq0 nr0 nw1 na1 nq1 nr1 bs bp bh bf bl bg gw0 ga0 gw1 ga1 mg0 mg1 n a cg x sa pk fl gv gh gl ∧ hKp [xo, ez, eo, bu, nw0, na0, nq0, nr0, nw1, na1, nq1, nr1, bs, bp, bh, bf, bl, bg] f f1) (fun E f1 => (E = eI) ∧ CW G f1 xo ez eo bu nw0 na0 nq0 nr0 nw1 na1 nq1 nr1 bs bp bh bf bl bg gw0 ga0 gw1 ga1 mg0 mg1 n a cg x sa pk fl gv gh gl ∧ hKp [xo, ez, eo, bu, nw0, na0, nq0, nr0, nw1, na1, nq1, nr1, bs, bp, bh, bf, bl, bg] f f1) := by
  refine hp_start hl (own := RX4) (by decide) rfl (Nat.le_of_ble_eq_true rfl) ?_
  intro p e s m args below meth c B0 hr hnm hout hw hS ls hl9
  have hx := B0.1
  have hb := B0.2.1
  have hl9 : lv_has ls 2 [(0, .ref xo), (1, .int i)] := hl9
  obtain ⟨k_xo, ⟨st0, tm0, sr0, li0, lp0, mi0, cn0, gq0, hd0, tl0, k_ez, k_nq0, k_nr0, fhd0, ftl0, blp0⟩, ⟨st1, tm1, sr1, li1, lp1, mi1, cn1, gq1, hd1, tl1, k_eo, k_nq1, k_nr1, fhd1, ftl1, blp1⟩, k_nw0, k_na0, k_nw1, k_na1, k_bu, k_bs, k_bp, k_bh, k_bf, k_bl, k_bg, hPx, hB9, hfl9, nd_ez_eo, nd_nr0_nr1, nd_nw0_na0, nd_nw0_nq0, nd_nw0_nw1, nd_nw0_na1, nd_nw0_nq1, nd_na0_nq0, nd_na0_nw1, nd_na0_na1, nd_na0_nq1, nd_nq0_nw1, nd_nq0_na1, nd_nq0_nq1, nd_nw1_na1, nd_nw1_nq1, nd_na1_nq1, nd_bh_bp, nd_bf_bl⟩ := id hC
  refine lv_aload_n hx hb dX4_underWay_0 rfl (lv_at hl9 0 rfl) ?_
  refine lv_iload_n hx hb dX4_underWay_1 rfl (lv_at hl9 1 rfl) ?_
  refine hp_V (ci := 4) (As := [.int i]) (rest := []) B0 hw hS (c_X4_endAt hl G f xo ez eo bu k_xo i) mV_X4_endAt qM_X4_28 rfl k_xo rfl rfl hl9.1 (Nat.le_of_ble_eq_true rfl) ⟨⟨Nat.le_of_ble_eq_true rfl, Nat.le_of_ble_eq_true rfl⟩, Nat.le_of_ble_eq_true rfl, Nat.le_of_ble_eq_true rfl⟩ dX4_underWay_2 (fun E ce q9 f1 H locs hPX hw hS hce hcv hcl => ?_) (fun v f1 H locs hP hw hS => ?_)
  · obtain ⟨ef9, eE9, hE9⟩ := hPX
    rw [ef9] at hw
    subst eE9
    exact hp_out B0 hw hS hout hce hcv hcl ⟨Nat.le_of_ble_eq_true rfl, Nat.le_of_ble_eq_true rfl⟩ (⟨rfl, ⟨k_xo, ⟨_, _, _, _, _, _, _, _, _, _, k_ez, k_nq0, k_nr0, fhd0, ftl0, blp0⟩, ⟨_, _, _, _, _, _, _, _, _, _, k_eo, k_nq1, k_nr1, fhd1, ftl1, blp1⟩, k_nw0, k_na0, k_nw1, k_na1, k_bu, k_bs, k_bp, k_bh, k_bf, k_bl, k_bg, hPx, hB9, hfl9, nd_ez_eo, nd_nr0_nr1, nd_nw0_na0, nd_nw0_nq0, nd_nw0_nw1, nd_nw0_na1, nd_nw0_nq1, nd_na0_nq0, nd_na0_nw1, nd_na0_na1, nd_na0_nq1, nd_nq0_nw1, nd_nq0_na1, nd_nq0_nq1, nd_nw1_na1, nd_nw1_nq1, nd_na1_nq1, nd_bh_bp, nd_bf_bl⟩, hKp.rf⟩)
  · obtain ⟨ef9, hv9⟩ := hP
    rw [ef9] at hw
    rcases hv9 with ⟨k2, ev9⟩ | ⟨k2, ev9⟩
    · subst ev9
      refine W.eq (g2 := F0 m 5 ls [.ref ez]) rfl ?_
      refine hp_getN B0 hw 1 rfl in_X1 k_ez 3 (by decide) oF_X4_106 rfl dX4_underWay_5 ?_
      refine hp_getN B0 hw 3 rfl in_X3 k_nr0 2 (by decide) oF_X4_110 rfl dX4_underWay_8 ?_
      exact hp_iret (v := cn0) B0 hw hS hr ⟨Nat.le_of_ble_eq_true rfl, Nat.le_of_ble_eq_true rfl⟩ dX4_underWay_11 (⟨⟨_, rfl⟩, ⟨k_xo, ⟨_, _, _, _, _, _, _, _, _, _, k_ez, k_nq0, k_nr0, fhd0, ftl0, blp0⟩, ⟨_, _, _, _, _, _, _, _, _, _, k_eo, k_nq1, k_nr1, fhd1, ftl1, blp1⟩, k_nw0, k_na0, k_nw1, k_na1, k_bu, k_bs, k_bp, k_bh, k_bf, k_bl, k_bg, hPx, hB9, hfl9, nd_ez_eo, nd_nr0_nr1, nd_nw0_na0, nd_nw0_nq0, nd_nw0_nw1, nd_nw0_na1, nd_nw0_nq1, nd_na0_nq0, nd_na0_nw1, nd_na0_na1, nd_na0_nq1, nd_nq0_nw1, nd_nq0_na1, nd_nq0_nq1, nd_nw1_na1, nd_nw1_nq1, nd_na1_nq1, nd_bh_bp, nd_bf_bl⟩, hKp.rf⟩)
    · subst ev9
      refine W.eq (g2 := F0 m 5 ls [.ref eo]) rfl ?_
      refine hp_getN B0 hw 1 rfl in_X1 k_eo 3 (by decide) oF_X4_106 rfl dX4_underWay_5 ?_
      refine hp_getN B0 hw 3 rfl in_X3 k_nr1 2 (by decide) oF_X4_110 rfl dX4_underWay_8 ?_
      exact hp_iret (v := cn1) B0 hw hS hr ⟨Nat.le_of_ble_eq_true rfl, Nat.le_of_ble_eq_true rfl⟩ dX4_underWay_11 (⟨⟨_, rfl⟩, ⟨k_xo, ⟨_, _, _, _, _, _, _, _, _, _, k_ez, k_nq0, k_nr0, fhd0, ftl0, blp0⟩, ⟨_, _, _, _, _, _, _, _, _, _, k_eo, k_nq1, k_nr1, fhd1, ftl1, blp1⟩, k_nw0, k_na0, k_nw1, k_na1, k_bu, k_bs, k_bp, k_bh, k_bf, k_bl, k_bg, hPx, hB9, hfl9, nd_ez_eo, nd_nr0_nr1, nd_nw0_na0, nd_nw0_nq0, nd_nw0_nw1, nd_nw0_na1, nd_nw0_nq1, nd_na0_nq0, nd_na0_nw1, nd_na0_na1, nd_na0_nq1, nd_nq0_nw1, nd_nq0_na1, nd_nq0_nq1, nd_nw1_na1, nd_nw1_nq1, nd_na1_nq1, nd_bh_bp, nd_bf_bl⟩, hKp.rf⟩)

set_option maxHeartbeats 4000000 in
set_option maxRecDepth 100000 in
theorem c_W4_asked {l : Launch} (hl : l.stackTraces = false) (G : hG) (f : hM) (xo ez eo bu nw0 na0 nq0 nr0 nw1 na1 nq1 nr1 bs bp bh bf bl bg : Nat) (gw0 : Nat → Int32) (ga0 : Nat → Int32) (gw1 : Nat → Int32) (ga1 : Nat → Int32) (mg0 : Int32) (mg1 : Int32) (n : Nat) (a : Nat) (cg : Nat) (x : Nat) (sa : Nat → Nat) (pk : Nat → Nat) (fl : Nat → Nat) (gv : Nat → Nat) (gh : Nat → Int32) (gl : Nat → Int32) (hC : CW G f xo ez eo bu nw0 na0 nq0 nr0 nw1 na1 nq1 nr1 bs bp bh bf bl bg gw0 ga0 gw1 ga1 mg0 mg1 n a cg x sa pk fl gv gh gl) (i o : Int32) : CT l yX4_asked (.code yX4_asked cX4_asked 4 (some .int)) 7 103 2 12 G [.ref xo, .int i, .int o] f (fun v f1 => (∃ r9 : Int32, v = some (.int r9)) ∧ CW G f1 xo ez eo bu nw0 na0 nq0 nr0 nw1 na1 nq1 nr1 bs bp bh bf bl bg gw0 ga0 gw1 ga1 mg0 mg1 n a cg x sa pk fl gv gh gl ∧ hKp [xo, ez, eo, bu, nw0, na0, nq0, nr0, nw1, na1, nq1, nr1, bs, bp, bh, bf, bl, bg] f f1) (fun E f1 => (E = eI) ∧ CW G f1 xo ez eo bu nw0 na0 nq0 nr0 nw1 na1 nq1 nr1 bs bp bh bf bl bg gw0 ga0 gw1 ga1 mg0 mg1 n a cg x sa pk fl gv gh gl ∧ hKp [xo, ez, eo, bu, nw0, na0, nq0, nr0, nw1, na1, nq1, nr1, bs, bp, bh, bf, bl, bg] f f1) := by
  refine hp_start hl (own := RX4) (by decide) rfl (Nat.le_of_ble_eq_true rfl) ?_
  intro p e s m args below meth c B0 hr hnm hout hw hS ls hl9
  have hx := B0.1
  have hb := B0.2.1
  have hl9 : lv_has ls 4 [(0, .ref xo), (1, .int i), (2, .int o)] := hl9
  obtain ⟨k_xo, ⟨st0, tm0, sr0, li0, lp0, mi0, cn0, gq0, hd0, tl0, k_ez, k_nq0, k_nr0, fhd0, ftl0, blp0⟩, ⟨st1, tm1, sr1, li1, lp1, mi1, cn1, gq1, hd1, tl1, k_eo, k_nq1, k_nr1, fhd1, ftl1, blp1⟩, k_nw0, k_na0, k_nw1, k_na1, k_bu, k_bs, k_bp, k_bh, k_bf, k_bl, k_bg, hPx, hB9, hfl9, nd_ez_eo, nd_nr0_nr1, nd_nw0_na0, nd_nw0_nq0, nd_nw0_nw1, nd_nw0_na1, nd_nw0_nq1, nd_na0_nq0, nd_na0_nw1, nd_na0_na1, nd_na0_nq1, nd_nq0_nw1, nd_nq0_na1, nd_nq0_nq1, nd_nw1_na1, nd_nw1_nq1, nd_na1_nq1, nd_bh_bp, nd_bf_bl⟩ := id hC
  refine lv_aload_n hx hb dX4_asked_0 rfl (lv_at hl9 0 rfl) ?_
  refine lv_iload_n hx hb dX4_asked_1 rfl (lv_at hl9 1 rfl) ?_
  refine hp_V (ci := 4) (As := [.int i]) (rest := []) B0 hw hS (c_X4_endAt hl G f xo ez eo bu k_xo i) mV_X4_endAt qM_X4_28 rfl k_xo rfl rfl hl9.1 (Nat.le_of_ble_eq_true rfl) ⟨⟨Nat.le_of_ble_eq_true rfl, Nat.le_of_ble_eq_true rfl⟩, Nat.le_of_ble_eq_true rfl, Nat.le_of_ble_eq_true rfl⟩ dX4_asked_2 (fun E ce q9 f1 H locs hPX hw hS hce hcv hcl => ?_) (fun v f1 H locs hP hw hS => ?_)
  · obtain ⟨ef9, eE9, hE9⟩ := hPX
    rw [ef9] at hw
    subst eE9
    exact hp_out B0 hw hS hout hce hcv hcl ⟨Nat.le_of_ble_eq_true rfl, Nat.le_of_ble_eq_true rfl⟩ (⟨rfl, ⟨k_xo, ⟨_, _, _, _, _, _, _, _, _, _, k_ez, k_nq0, k_nr0, fhd0, ftl0, blp0⟩, ⟨_, _, _, _, _, _, _, _, _, _, k_eo, k_nq1, k_nr1, fhd1, ftl1, blp1⟩, k_nw0, k_na0, k_nw1, k_na1, k_bu, k_bs, k_bp, k_bh, k_bf, k_bl, k_bg, hPx, hB9, hfl9, nd_ez_eo, nd_nr0_nr1, nd_nw0_na0, nd_nw0_nq0, nd_nw0_nw1, nd_nw0_na1, nd_nw0_nq1, nd_na0_nq0, nd_na0_nw1, nd_na0_na1, nd_na0_nq1, nd_nq0_nw1, nd_nq0_na1, nd_nq0_nq1, nd_nw1_na1, nd_nw1_nq1, nd_na1_nq1, nd_bh_bp, nd_bf_bl⟩, hKp.rf⟩)
  · obtain ⟨ef9, hv9⟩ := hP
    rw [ef9] at hw
    rcases hv9 with ⟨k2, ev9⟩ | ⟨k2, ev9⟩
    · subst ev9
      refine W.eq (g2 := F0 m 5 ls [.ref ez]) rfl ?_
      refine lv_astore_n (lv' := [(3, .ref ez), (0, .ref xo), (1, .int i), (2, .int o)]) hx hb dX4_asked_5 rfl hl9 (by decide) rfl (fun ls hl9 => ?_)
      refine lv_iload_n hx hb dX4_asked_6 rfl (lv_at hl9 3 rfl) ?_
      refine hp_S (As := [.int o]) (rest := []) B0 hw hS (c_X4_refuseNoOption hl G f o) mS_X4_refuseNoOption qM_X4_32 rfl rfl hl9.1 (Nat.le_of_ble_eq_true rfl) ⟨⟨Nat.le_of_ble_eq_true rfl, Nat.le_of_ble_eq_true rfl⟩, Nat.le_of_ble_eq_true rfl, Nat.le_of_ble_eq_true rfl⟩ dX4_asked_7 (fun E ce q9 f3 H locs hPX hw hS hce hcv hcl => ?_) (fun v f3 H locs hP hw hS => ?_)
      · obtain ⟨ef9, eE9, hE9⟩ := hPX
        rw [ef9] at hw
        subst eE9
        exact hp_out B0 hw hS hout hce hcv hcl ⟨Nat.le_of_ble_eq_true rfl, Nat.le_of_ble_eq_true rfl⟩ (⟨rfl, ⟨k_xo, ⟨_, _, _, _, _, _, _, _, _, _, k_ez, k_nq0, k_nr0, fhd0, ftl0, blp0⟩, ⟨_, _, _, _, _, _, _, _, _, _, k_eo, k_nq1, k_nr1, fhd1, ftl1, blp1⟩, k_nw0, k_na0, k_nw1, k_na1, k_bu, k_bs, k_bp, k_bh, k_bf, k_bl, k_bg, hPx, hB9, hfl9, nd_ez_eo, nd_nr0_nr1, nd_nw0_na0, nd_nw0_nq0, nd_nw0_nw1, nd_nw0_na1, nd_nw0_nq1, nd_na0_nq0, nd_na0_nw1, nd_na0_na1, nd_na0_nq1, nd_nq0_nw1, nd_nq0_na1, nd_nq0_nq1, nd_nw1_na1, nd_nw1_nq1, nd_na1_nq1, nd_bh_bp, nd_bf_bl⟩, hKp.rf⟩)
      · obtain ⟨ef9, ev9, ho4⟩ := hP
        rw [ef9] at hw
        subst ev9
        refine W.eq (g2 := F0 m 10 ls []) rfl ?_
        refine lv_aload_n hx hb dX4_asked_10 rfl (lv_at hl9 0 rfl) ?_
        refine hp_getN B0 hw 1 rfl in_X1 k_ez 2 (by decide) oF_X4_95 rfl dX4_asked_11 ?_
        refine lv_iload_n hx hb dX4_asked_14 rfl (lv_at hl9 3 rfl) ?_
        refine hp_iald B0 hw k_nq0 (vin6 ho4) dX4_asked_15 ?_
        exact hp_iret (v := (gq0 (o : Int32).toNatClampNeg)) B0 hw hS hr ⟨Nat.le_of_ble_eq_true rfl, Nat.le_of_ble_eq_true rfl⟩ dX4_asked_16 (⟨⟨_, rfl⟩, ⟨k_xo, ⟨_, _, _, _, _, _, _, _, _, _, k_ez, k_nq0, k_nr0, fhd0, ftl0, blp0⟩, ⟨_, _, _, _, _, _, _, _, _, _, k_eo, k_nq1, k_nr1, fhd1, ftl1, blp1⟩, k_nw0, k_na0, k_nw1, k_na1, k_bu, k_bs, k_bp, k_bh, k_bf, k_bl, k_bg, hPx, hB9, hfl9, nd_ez_eo, nd_nr0_nr1, nd_nw0_na0, nd_nw0_nq0, nd_nw0_nw1, nd_nw0_na1, nd_nw0_nq1, nd_na0_nq0, nd_na0_nw1, nd_na0_na1, nd_na0_nq1, nd_nq0_nw1, nd_nq0_na1, nd_nq0_nq1, nd_nw1_na1, nd_nw1_nq1, nd_na1_nq1, nd_bh_bp, nd_bf_bl⟩, hKp.rf⟩)
    · subst ev9
      refine W.eq (g2 := F0 m 5 ls [.ref eo]) rfl ?_
      refine lv_astore_n (lv' := [(3, .ref eo), (0, .ref xo), (1, .int i), (2, .int o)]) hx hb dX4_asked_5 rfl hl9 (by decide) rfl (fun ls hl9 => ?_)
      refine lv_iload_n hx hb dX4_asked_6 rfl (lv_at hl9 3 rfl) ?_
      refine hp_S (As := [.int o]) (rest := []) B0 hw hS (c_X4_refuseNoOption hl G f o) mS_X4_refuseNoOption qM_X4_32 rfl rfl hl9.1 (Nat.le_of_ble_eq_true rfl) ⟨⟨Nat.le_of_ble_eq_true rfl, Nat.le_of_ble_eq_true rfl⟩, Nat.le_of_ble_eq_true rfl, Nat.le_of_ble_eq_true rfl⟩ dX4_asked_7 (fun E ce q9 f5 H locs hPX hw hS hce hcv hcl => ?_) (fun v f5 H locs hP hw hS => ?_)
      · obtain ⟨ef9, eE9, hE9⟩ := hPX
        rw [ef9] at hw
        subst eE9
        exact hp_out B0 hw hS hout hce hcv hcl ⟨Nat.le_of_ble_eq_true rfl, Nat.le_of_ble_eq_true rfl⟩ (⟨rfl, ⟨k_xo, ⟨_, _, _, _, _, _, _, _, _, _, k_ez, k_nq0, k_nr0, fhd0, ftl0, blp0⟩, ⟨_, _, _, _, _, _, _, _, _, _, k_eo, k_nq1, k_nr1, fhd1, ftl1, blp1⟩, k_nw0, k_na0, k_nw1, k_na1, k_bu, k_bs, k_bp, k_bh, k_bf, k_bl, k_bg, hPx, hB9, hfl9, nd_ez_eo, nd_nr0_nr1, nd_nw0_na0, nd_nw0_nq0, nd_nw0_nw1, nd_nw0_na1, nd_nw0_nq1, nd_na0_nq0, nd_na0_nw1, nd_na0_na1, nd_na0_nq1, nd_nq0_nw1, nd_nq0_na1, nd_nq0_nq1, nd_nw1_na1, nd_nw1_nq1, nd_na1_nq1, nd_bh_bp, nd_bf_bl⟩, hKp.rf⟩)
      · obtain ⟨ef9, ev9, ho6⟩ := hP
        rw [ef9] at hw
        subst ev9
        refine W.eq (g2 := F0 m 10 ls []) rfl ?_
        refine lv_aload_n hx hb dX4_asked_10 rfl (lv_at hl9 0 rfl) ?_
        refine hp_getN B0 hw 1 rfl in_X1 k_eo 2 (by decide) oF_X4_95 rfl dX4_asked_11 ?_
        refine lv_iload_n hx hb dX4_asked_14 rfl (lv_at hl9 3 rfl) ?_
        refine hp_iald B0 hw k_nq1 (vin6 ho6) dX4_asked_15 ?_
        exact hp_iret (v := (gq1 (o : Int32).toNatClampNeg)) B0 hw hS hr ⟨Nat.le_of_ble_eq_true rfl, Nat.le_of_ble_eq_true rfl⟩ dX4_asked_16 (⟨⟨_, rfl⟩, ⟨k_xo, ⟨_, _, _, _, _, _, _, _, _, _, k_ez, k_nq0, k_nr0, fhd0, ftl0, blp0⟩, ⟨_, _, _, _, _, _, _, _, _, _, k_eo, k_nq1, k_nr1, fhd1, ftl1, blp1⟩, k_nw0, k_na0, k_nw1, k_na1, k_bu, k_bs, k_bp, k_bh, k_bf, k_bl, k_bg, hPx, hB9, hfl9, nd_ez_eo, nd_nr0_nr1, nd_nw0_na0, nd_nw0_nq0, nd_nw0_nw1, nd_nw0_na1, nd_nw0_nq1, nd_na0_nq0, nd_na0_nw1, nd_na0_na1, nd_na0_nq1, nd_nq0_nw1, nd_nq0_na1, nd_nq0_nq1, nd_nw1_na1, nd_nw1_nq1, nd_na1_nq1, nd_bh_bp, nd_bf_bl⟩, hKp.rf⟩)

set_option maxHeartbeats 4000000 in
set_option maxRecDepth 100000 in
theorem c_W4_pass {l : Launch} (hl : l.stackTraces = false) (G : hG) (f : hM) (xo ez eo bu nw0 na0 nq0 nr0 nw1 na1 nq1 nr1 bs bp bh bf bl bg : Nat) (gw0 : Nat → Int32) (ga0 : Nat → Int32) (gw1 : Nat → Int32) (ga1 : Nat → Int32) (mg0 : Int32) (mg1 : Int32) (n : Nat) (a : Nat) (cg : Nat) (x : Nat) (sa : Nat → Nat) (pk : Nat → Nat) (fl : Nat → Nat) (gv : Nat → Nat) (gh : Nat → Int32) (gl : Nat → Int32) (hC : CW G f xo ez eo bu nw0 na0 nq0 nr0 nw1 na1 nq1 nr1 bs bp bh bf bl bg gw0 ga0 gw1 ga1 mg0 mg1 n a cg x sa pk fl gv gh gl) (xv : Int32) : CT l yX4_pass (.code yX4_pass cX4_pass 4 (some .int)) 6 82 200 1100 G [.ref xo, .int xv] f (fun v f1 => (∃ r9 : Int32, v = some (.int r9)) ∧ CW G f1 xo ez eo bu nw0 na0 nq0 nr0 nw1 na1 nq1 nr1 bs bp bh bf bl bg gw0 ga0 gw1 ga1 mg0 mg1 n a cg x sa pk fl gv gh gl ∧ hKp [xo, ez, eo, bu, nw0, na0, nq0, nr0, nw1, na1, nq1, nr1, bs, bp, bh, bf, bl, bg] f f1) (fun E f1 => (E = eA) ∧ CW G f1 xo ez eo bu nw0 na0 nq0 nr0 nw1 na1 nq1 nr1 bs bp bh bf bl bg gw0 ga0 gw1 ga1 mg0 mg1 n a cg x sa pk fl gv gh gl ∧ hKp [xo, ez, eo, bu, nw0, na0, nq0, nr0, nw1, na1, nq1, nr1, bs, bp, bh, bf, bl, bg] f f1) := by
  refine hp_start hl (own := RX4) (by decide) rfl (Nat.le_of_ble_eq_true rfl) ?_
  intro p e s m args below meth c B0 hr hnm hout hw hS ls hl9
  have hx := B0.1
  have hb := B0.2.1
  have hl9 : lv_has ls 4 [(0, .ref xo), (1, .int xv)] := hl9
  obtain ⟨k_xo, ⟨st0, tm0, sr0, li0, lp0, mi0, cn0, gq0, hd0, tl0, k_ez, k_nq0, k_nr0, fhd0, ftl0, blp0⟩, ⟨st1, tm1, sr1, li1, lp1, mi1, cn1, gq1, hd1, tl1, k_eo, k_nq1, k_nr1, fhd1, ftl1, blp1⟩, k_nw0, k_na0, k_nw1, k_na1, k_bu, k_bs, k_bp, k_bh, k_bf, k_bl, k_bg, hPx, hB9, hfl9, nd_ez_eo, nd_nr0_nr1, nd_nw0_na0, nd_nw0_nq0, nd_nw0_nw1, nd_nw0_na1, nd_nw0_nq1, nd_na0_nq0, nd_na0_nw1, nd_na0_na1, nd_na0_nq1, nd_nq0_nw1, nd_nq0_na1, nd_nq0_nq1, nd_nw1_na1, nd_nw1_nq1, nd_na1_nq1, nd_bh_bp, nd_bf_bl⟩ := id hC
  refine lv_iload_n hx hb dX4_pass_0 rfl (lv_at hl9 1 rfl) ?_
  refine lv_iconst (v := 1) hx hb dX4_pass_1 (by decide) ?_
  refine lv_icmp_lt (tgt := 11) hx hb dX4_pass_2 (by decide) (fun c1 => ?_) (fun c1 => ?_)
  · exact hp_throw (cls := eA) (names := tNm) B0 hw hS hout tF_eA qC_X4_35 qN_java_lang_IllegalArgumentException sR_X4_89 tA_eA tB_eA tG_eA hl9.1 dX4_pass_11 dX4_pass_14 dX4_pass_15 dX4_pass_17 dX4_pass_20 ⟨⟨Nat.le_of_ble_eq_true rfl, Nat.le_of_ble_eq_true rfl⟩, Nat.le_of_ble_eq_true rfl, Nat.le_of_ble_eq_true rfl⟩ ⟨Nat.le_of_ble_eq_true rfl, Nat.le_of_ble_eq_true rfl⟩ (⟨rfl, ⟨k_xo, ⟨_, _, _, _, _, _, _, _, _, _, k_ez, k_nq0, k_nr0, fhd0, ftl0, blp0⟩, ⟨_, _, _, _, _, _, _, _, _, _, k_eo, k_nq1, k_nr1, fhd1, ftl1, blp1⟩, k_nw0, k_na0, k_nw1, k_na1, k_bu, k_bs, k_bp, k_bh, k_bf, k_bl, k_bg, hPx, hB9, hfl9, nd_ez_eo, nd_nr0_nr1, nd_nw0_na0, nd_nw0_nq0, nd_nw0_nw1, nd_nw0_na1, nd_nw0_nq1, nd_na0_nq0, nd_na0_nw1, nd_na0_na1, nd_na0_nq1, nd_nq0_nw1, nd_nq0_na1, nd_nq0_nq1, nd_nw1_na1, nd_nw1_nq1, nd_na1_nq1, nd_bh_bp, nd_bf_bl⟩, hKp.rf⟩)
  · refine lv_iload_n hx hb dX4_pass_5 rfl (lv_at hl9 1 rfl) ?_
    refine lv_bipush (v := 50) hx hb dX4_pass_6 (by decide) ?_
    refine lv_icmp_le (tgt := 21) hx hb dX4_pass_8 (by decide) (fun c2 => ?_) (fun c2 => ?_)
    · refine lv_iconst (v := 0) hx hb dX4_pass_21 (by decide) ?_
      refine lv_istore_n (lv' := [(2, .int 0), (0, .ref xo), (1, .int xv)]) hx hb dX4_pass_22 rfl hl9 (by decide) rfl (fun ls hl9 => ?_)
      refine lv_iconst (v := 0) hx hb dX4_pass_23 (by decide) ?_
      refine lv_istore_n (lv' := [(3, .int 0), (2, .int 0), (0, .ref xo), (1, .int xv)]) hx hb dX4_pass_24 rfl hl9 (by decide) rfl (fun ls hl9 => ?_)
      have hsT : sT xv := (by have h1 := c1; have h2 := c2; simp only [jlt, jle, tq0, tq1, tq3, tq4, tq6, tq9, tq50, tq60, tq1023, tqm1] at h1 h2; exact ⟨by omega, by omega⟩)
      obtain ⟨T, hT, eT⟩ := nI_of2 (x := xv) (M := 50) (n := 50) rfl (by have h1 := hsT.1; simp only [jlt, jle, tq0, tq1, tq3, tq4, tq6, tq9, tq50, tq60, tq1023, tqm1]; omega) (by have h1 := hsT.2; simp only [jlt, jle, tq0, tq1, tq3, tq4, tq6, tq9, tq50, tq60, tq1023, tqm1]; omega)
      refine hp_cs (c2 := 0 + 0 * 4) (s2 := 0 + 0 * 22) rfl rfl ?_
      refine hp_forC (nL := 4) (pc := 25) (fun j f9 lv9 => (∃ k9 : Int32, CW G f9 xo ez eo bu nw0 na0 nq0 nr0 nw1 na1 nq1 nr1 bs bp bh bf bl bg gw0 ga0 gw1 ga1 mg0 mg1 n a cg x sa pk fl gv gh gl ∧ hKp [xo, ez, eo, bu, nw0, na0, nq0, nr0, nw1, na1, nq1, nr1, bs, bp, bh, bf, bl, bg] f f9 ∧ lv9 = [(3, .int (nI j)), (0, .ref xo), (1, .int xv), (2, .int k9)])) T 0 0 4 22 (fun j f9 lv9 H locs ls hj hI hw hS hl9 ih => ?_) (fun f9 lv9 H locs ls hI hw hS hl9 => ?_) T 0 (by omega) f _ _ _ ls ⟨_, hC, hKp.rf, rfl⟩ hw hS (lv_sub hl9 [0, 2, 3, 1] rfl)
      · obtain ⟨k9, hC9, hk9, el9⟩ := hI
        rw [el9] at hl9
        obtain ⟨k_xoq, ⟨st0q, tm0q, sr0q, li0q, lp0q, mi0q, cn0q, gq0q, hd0q, tl0q, k_ezq, k_nq0q, k_nr0q, fhd0q, ftl0q, blp0q⟩, ⟨st1q, tm1q, sr1q, li1q, lp1q, mi1q, cn1q, gq1q, hd1q, tl1q, k_eoq, k_nq1q, k_nr1q, fhd1q, ftl1q, blp1q⟩, k_nw0q, k_na0q, k_nw1q, k_na1q, k_buq, k_bsq, k_bpq, k_bhq, k_bfq, k_blq, k_bgq, hPxq, hB9q, hfl9q, nd_ez_eo, nd_nr0_nr1, nd_nw0_na0, nd_nw0_nq0, nd_nw0_nw1, nd_nw0_na1, nd_nw0_nq1, nd_na0_nq0, nd_na0_nw1, nd_na0_na1, nd_na0_nq1, nd_nq0_nw1, nd_nq0_na1, nd_nq0_nq1, nd_nw1_na1, nd_nw1_nq1, nd_na1_nq1, nd_bh_bp, nd_bf_bl⟩ := id hC9
        refine lv_iload_n hx hb dX4_pass_25 rfl (lv_at hl9 0 rfl) ?_
        refine lv_iload_n hx hb dX4_pass_26 rfl (lv_at hl9 2 rfl) ?_
        refine lv_icmp_ge (tgt := 72) hx hb dX4_pass_27 (by decide) (fun c9 => absurd c9 (by rw [eT]; exact nI_ge hj (by omega))) (fun _ => ?_)
        refine lv_iload_n hx hb dX4_pass_30 rfl (lv_at hl9 3 rfl) ?_
        refine lv_aload_n hx hb dX4_pass_31 rfl (lv_at hl9 1 rfl) ?_
        refine hp_get B0 hw 4 rfl in_X4 k_xoq 0 (by decide) qF_X4_12 rfl dX4_pass_32 ?_
        refine hp_V (ci := 1) (As := []) (rest := [.int k9]) B0 hw hS (c_X1_tick hl G f9 ez nw0 na0 nq0 nr0 mg0 ⟨_, _, _, _, _, _, _, _, _, _, k_ezq, k_nq0q, k_nr0q, fhd0q, ftl0q, blp0q⟩ hPxq ) mV_X1_tick qM_X4_91 rfl k_ezq rfl rfl hl9.1 (Nat.le_of_ble_eq_true rfl) ⟨⟨Nat.le_of_ble_eq_true rfl, Nat.le_of_ble_eq_true rfl⟩, (by first | omega | (dsimp only; omega)), (by first | omega | (dsimp only; omega))⟩ dX4_pass_35 (fun E ce q9 f3 H locs hPX hw hS hce hcv hcl => ?_) (fun v f3 H locs hP hw hS => ?_)
        · exact hPX.elim
        · obtain ⟨hv9, hr9⟩ := hP
          rcases hv9 with ev9 | ev9
          · subst ev9
            have hP := hr9
            obtain ⟨h4, p5, k6⟩ := hP
            obtain ⟨st7, tm8, sr9, li10, lp11, mi12, cn13, gq14, hd15, tl16, h17, h18, h19, h20, h21, h22⟩ := h4
            refine W.eq (g2 := F0 m 38 ls [.int 0, .int k9]) rfl ?_
            refine lv_if_eq (tgt := 45) hx hb dX4_pass_38 (by decide) (fun _ => ?_) (fun c9 => absurd (by decide) c9)
            refine lv_iconst (v := 0) hx hb dX4_pass_45 (by decide) ?_
            refine lv_iadd hx hb dX4_pass_46 ?_
            refine lv_istore_n (lv' := [(2, .int (k9 + 0)), (3, .int (nI j)), (0, .ref xo), (1, .int xv)]) hx hb dX4_pass_47 rfl hl9 (by decide) rfl (fun ls hl9 => ?_)
            refine lv_iload_n hx hb dX4_pass_48 rfl (lv_at hl9 0 rfl) ?_
            refine lv_aload_n hx hb dX4_pass_49 rfl (lv_at hl9 2 rfl) ?_
            have n23 : xo ≠ nr0 := hne k_xoq k_nr0q (Nat.ne_of_beq_eq_false rfl)
            have n24 : xo ≠ nq0 := hne k_xoq k_nq0q (Nat.ne_of_beq_eq_false rfl)
            have n25 : xo ≠ ez := hne k_xoq k_ezq (Nat.ne_of_beq_eq_false rfl)
            have h26 : f3 xo = some (.inr (4, [.ref ez, .ref eo, .ref bu])) := k6.1 _ _ k_xoq (Nat.ne_of_beq_eq_false rfl) (ninc n25 (ninc n24 (ninc n23 nin0)))
            refine hp_get B0 hw 4 rfl in_X4 h26 1 (by decide) qF_X4_18 rfl dX4_pass_50 ?_
            have n27 : eo ≠ nr0 := hne k_eoq k_nr0q (Nat.ne_of_beq_eq_false rfl)
            have n28 : eo ≠ nq0 := hne k_eoq k_nq0q (Nat.ne_of_beq_eq_false rfl)
            have h29 : f3 eo = some (.inr (1, [.ref nw1, .ref na1, .ref nq1, .ref nr1, .int mg1, .int st1q, .int tm1q, .int sr1q, .int li1q, .int lp1q, .int mi1q])) := k6.1 _ _ k_eoq (Nat.ne_of_beq_eq_false rfl) (ninc (Ne.symm nd_ez_eo) (ninc n28 (ninc n27 nin0)))
            have n30 : nq1 ≠ nr0 := hne k_nq1q k_nr0q (Nat.ne_of_beq_eq_false rfl)
            have n31 : nq1 ≠ ez := hne k_nq1q k_ezq (Nat.ne_of_beq_eq_false rfl)
            have h32 : f3 nq1 = some (.inl (cI G, 6, .inl gq1q)) := k6.1 _ _ k_nq1q (Nat.ne_of_beq_eq_false rfl) (ninc n31 (ninc (Ne.symm nd_nq0_nq1) (ninc n30 nin0)))
            have n33 : nr1 ≠ nq0 := hne k_nr1q k_nq0q (Nat.ne_of_beq_eq_false rfl)
            have n34 : nr1 ≠ ez := hne k_nr1q k_ezq (Nat.ne_of_beq_eq_false rfl)
            have h35 : f3 nr1 = some (.inr (3, [hd1q, tl1q, .int cn1q])) := k6.1 _ _ k_nr1q (Nat.ne_of_beq_eq_false rfl) (ninc n34 (ninc n33 (ninc (Ne.symm nd_nr0_nr1) nin0)))
            refine hp_V (ci := 1) (As := []) (rest := [.int (k9 + 0)]) B0 hw hS (c_X1_tick hl G f3 eo nw1 na1 nq1 nr1 mg1 ⟨_, _, _, _, _, _, _, _, _, _, h29, h32, h35, (fhd1q.kp (show hKp [xo, ez, eo, bu, nw0, na0, nq0, nr0, nw1, na1, nq1, nr1, bs, bp, bh, bf, bl, bg] f9 f3 from (k6.mono (fun x9 hx9 => by simp only [List.mem_cons, List.not_mem_nil, or_false] at hx9; rcases hx9 with hx9 | hx9 | hx9 <;> (rw [hx9]; simp))))), (ftl1q.kp (show hKp [xo, ez, eo, bu, nw0, na0, nq0, nr0, nw1, na1, nq1, nr1, bs, bp, bh, bf, bl, bg] f9 f3 from (k6.mono (fun x9 hx9 => by simp only [List.mem_cons, List.not_mem_nil, or_false] at hx9; rcases hx9 with hx9 | hx9 | hx9 <;> (rw [hx9]; simp))))), blp1q⟩ p5 ) mV_X1_tick qM_X4_91 rfl h29 rfl rfl hl9.1 (Nat.le_of_ble_eq_true rfl) ⟨⟨Nat.le_of_ble_eq_true rfl, Nat.le_of_ble_eq_true rfl⟩, (by first | omega | (dsimp only; omega)), (by first | omega | (dsimp only; omega))⟩ dX4_pass_53 (fun E ce q9 f36 H locs hPX hw hS hce hcv hcl => ?_) (fun v f36 H locs hP hw hS => ?_)
            · exact hPX.elim
            · obtain ⟨hv9, hr9⟩ := hP
              rcases hv9 with ev9 | ev9
              · subst ev9
                have hP := hr9
                obtain ⟨h37, p38, k39⟩ := hP
                obtain ⟨st40, tm41, sr42, li43, lp44, mi45, cn46, gq47, hd48, tl49, h50, h51, h52, h53, h54, h55⟩ := h37
                refine W.eq (g2 := F0 m 56 ls [.int 0, .int (k9 + 0)]) rfl ?_
                refine lv_if_eq (tgt := 63) hx hb dX4_pass_56 (by decide) (fun _ => ?_) (fun c9 => absurd (by decide) c9)
                refine lv_iconst (v := 0) hx hb dX4_pass_63 (by decide) ?_
                refine lv_iadd hx hb dX4_pass_64 ?_
                refine lv_istore_n (lv' := [(2, .int ((k9 + 0) + 0)), (3, .int (nI j)), (0, .ref xo), (1, .int xv)]) hx hb dX4_pass_65 rfl hl9 (by decide) rfl (fun ls hl9 => ?_)
                refine lv_iinc (v := (nI (j + 1))) (lv' := [(3, .int (nI (j + 1))), (2, .int ((k9 + 0) + 0)), (0, .ref xo), (1, .int xv)]) hx hb dX4_pass_66 hl9 (k := 1) rfl (nI_1 j) (by decide) rfl (fun ls hl9 => ?_)
                refine lv_goto (tgt := 25) hx hb dX4_pass_69 (by decide) ?_
                have h56 : f36 ez = some (.inr (1, [.ref nw0, .ref na0, .ref nq0, .ref nr0, .int mg0, .int st7, .int tm8, .int sr9, .int li10, .int lp11, .int mi12])) := k39.1 _ _ h17 (Nat.ne_of_beq_eq_false rfl) (ninc nd_ez_eo (ninc (Ne.symm n31) (ninc (Ne.symm n34) nin0)))
                have h57 : f36 nq0 = some (.inl (cI G, 6, .inl gq14)) := k39.1 _ _ h18 (Nat.ne_of_beq_eq_false rfl) (ninc (Ne.symm n28) (ninc nd_nq0_nq1 (ninc (Ne.symm n33) nin0)))
                have h58 : f36 nr0 = some (.inr (3, [hd15, tl16, .int cn13])) := k39.1 _ _ h19 (Nat.ne_of_beq_eq_false rfl) (ninc (Ne.symm n27) (ninc (Ne.symm n30) (ninc nd_nr0_nr1 nin0)))
                have n59 : xo ≠ nr1 := hne k_xoq k_nr1q (Nat.ne_of_beq_eq_false rfl)
                have n60 : xo ≠ nq1 := hne k_xoq k_nq1q (Nat.ne_of_beq_eq_false rfl)
                have n61 : xo ≠ eo := hne k_xoq k_eoq (Nat.ne_of_beq_eq_false rfl)
                have h62 : f36 xo = some (.inr (4, [.ref ez, .ref eo, .ref bu])) := k39.1 _ _ h26 (Nat.ne_of_beq_eq_false rfl) (ninc n61 (ninc n60 (ninc n59 nin0)))
                have n63 : nw0 ≠ nr0 := hne k_nw0q k_nr0q (Nat.ne_of_beq_eq_false rfl)
                have n64 : nw0 ≠ ez := hne k_nw0q k_ezq (Nat.ne_of_beq_eq_false rfl)
                have h65 : f3 nw0 = some (.inl (cI G, 6, .inl gw0)) := k6.1 _ _ k_nw0q (Nat.ne_of_beq_eq_false rfl) (ninc n64 (ninc nd_nw0_nq0 (ninc n63 nin0)))
                have n66 : nw0 ≠ nr1 := hne k_nw0q k_nr1q (Nat.ne_of_beq_eq_false rfl)
                have n67 : nw0 ≠ eo := hne k_nw0q k_eoq (Nat.ne_of_beq_eq_false rfl)
                have h68 : f36 nw0 = some (.inl (cI G, 6, .inl gw0)) := k39.1 _ _ h65 (Nat.ne_of_beq_eq_false rfl) (ninc n67 (ninc nd_nw0_nq1 (ninc n66 nin0)))
                have n69 : na0 ≠ nr0 := hne k_na0q k_nr0q (Nat.ne_of_beq_eq_false rfl)
                have n70 : na0 ≠ ez := hne k_na0q k_ezq (Nat.ne_of_beq_eq_false rfl)
                have h71 : f3 na0 = some (.inl (cI G, 6, .inl ga0)) := k6.1 _ _ k_na0q (Nat.ne_of_beq_eq_false rfl) (ninc n70 (ninc nd_na0_nq0 (ninc n69 nin0)))
                have n72 : na0 ≠ nr1 := hne k_na0q k_nr1q (Nat.ne_of_beq_eq_false rfl)
                have n73 : na0 ≠ eo := hne k_na0q k_eoq (Nat.ne_of_beq_eq_false rfl)
                have h74 : f36 na0 = some (.inl (cI G, 6, .inl ga0)) := k39.1 _ _ h71 (Nat.ne_of_beq_eq_false rfl) (ninc n73 (ninc nd_na0_nq1 (ninc n72 nin0)))
                have n75 : nw1 ≠ nr0 := hne k_nw1q k_nr0q (Nat.ne_of_beq_eq_false rfl)
                have n76 : nw1 ≠ ez := hne k_nw1q k_ezq (Nat.ne_of_beq_eq_false rfl)
                have h77 : f3 nw1 = some (.inl (cI G, 6, .inl gw1)) := k6.1 _ _ k_nw1q (Nat.ne_of_beq_eq_false rfl) (ninc n76 (ninc (Ne.symm nd_nq0_nw1) (ninc n75 nin0)))
                have n78 : nw1 ≠ nr1 := hne k_nw1q k_nr1q (Nat.ne_of_beq_eq_false rfl)
                have n79 : nw1 ≠ eo := hne k_nw1q k_eoq (Nat.ne_of_beq_eq_false rfl)
                have h80 : f36 nw1 = some (.inl (cI G, 6, .inl gw1)) := k39.1 _ _ h77 (Nat.ne_of_beq_eq_false rfl) (ninc n79 (ninc nd_nw1_nq1 (ninc n78 nin0)))
                have n81 : na1 ≠ nr0 := hne k_na1q k_nr0q (Nat.ne_of_beq_eq_false rfl)
                have n82 : na1 ≠ ez := hne k_na1q k_ezq (Nat.ne_of_beq_eq_false rfl)
                have h83 : f3 na1 = some (.inl (cI G, 6, .inl ga1)) := k6.1 _ _ k_na1q (Nat.ne_of_beq_eq_false rfl) (ninc n82 (ninc (Ne.symm nd_nq0_na1) (ninc n81 nin0)))
                have n84 : na1 ≠ nr1 := hne k_na1q k_nr1q (Nat.ne_of_beq_eq_false rfl)
                have n85 : na1 ≠ eo := hne k_na1q k_eoq (Nat.ne_of_beq_eq_false rfl)
                have h86 : f36 na1 = some (.inl (cI G, 6, .inl ga1)) := k39.1 _ _ h83 (Nat.ne_of_beq_eq_false rfl) (ninc n85 (ninc nd_na1_nq1 (ninc n84 nin0)))
                have n87 : bu ≠ nr0 := hne k_buq k_nr0q (Nat.ne_of_beq_eq_false rfl)
                have n88 : bu ≠ nq0 := hne k_buq k_nq0q (Nat.ne_of_beq_eq_false rfl)
                have n89 : bu ≠ ez := hne k_buq k_ezq (Nat.ne_of_beq_eq_false rfl)
                have h90 : f3 bu = some (.inr (0, [.ref bs, .ref bp, .ref bh, .ref bf, .ref bl, .ref bg, .int (nI n), .int (nI cg), .int (nI x)])) := k6.1 _ _ k_buq (Nat.ne_of_beq_eq_false rfl) (ninc n89 (ninc n88 (ninc n87 nin0)))
                have n91 : bu ≠ nr1 := hne k_buq k_nr1q (Nat.ne_of_beq_eq_false rfl)
                have n92 : bu ≠ nq1 := hne k_buq k_nq1q (Nat.ne_of_beq_eq_false rfl)
                have n93 : bu ≠ eo := hne k_buq k_eoq (Nat.ne_of_beq_eq_false rfl)
                have h94 : f36 bu = some (.inr (0, [.ref bs, .ref bp, .ref bh, .ref bf, .ref bl, .ref bg, .int (nI n), .int (nI cg), .int (nI x)])) := k39.1 _ _ h90 (Nat.ne_of_beq_eq_false rfl) (ninc n93 (ninc n92 (ninc n91 nin0)))
                have n95 : bs ≠ nr0 := hne k_bsq k_nr0q (Nat.ne_of_beq_eq_false rfl)
                have n96 : bs ≠ nq0 := hneL k_bsq k_nq0q (Nat.ne_of_beq_eq_false rfl)
                have n97 : bs ≠ ez := hne k_bsq k_ezq (Nat.ne_of_beq_eq_false rfl)
                have h98 : f3 bs = some (.inl (cI G, 61, .inl (nf sa))) := k6.1 _ _ k_bsq (Nat.ne_of_beq_eq_false rfl) (ninc n97 (ninc n96 (ninc n95 nin0)))
                have n99 : bs ≠ nr1 := hne k_bsq k_nr1q (Nat.ne_of_beq_eq_false rfl)
                have n100 : bs ≠ nq1 := hneL k_bsq k_nq1q (Nat.ne_of_beq_eq_false rfl)
                have n101 : bs ≠ eo := hne k_bsq k_eoq (Nat.ne_of_beq_eq_false rfl)
                have h102 : f36 bs = some (.inl (cI G, 61, .inl (nf sa))) := k39.1 _ _ h98 (Nat.ne_of_beq_eq_false rfl) (ninc n101 (ninc n100 (ninc n99 nin0)))
                have n103 : bp ≠ nr0 := hne k_bpq k_nr0q (Nat.ne_of_beq_eq_false rfl)
                have n104 : bp ≠ nq0 := hneL k_bpq k_nq0q (Nat.ne_of_beq_eq_false rfl)
                have n105 : bp ≠ ez := hne k_bpq k_ezq (Nat.ne_of_beq_eq_false rfl)
                have h106 : f3 bp = some (.inl (cI G, 240, .inl (nf pk))) := k6.1 _ _ k_bpq (Nat.ne_of_beq_eq_false rfl) (ninc n105 (ninc n104 (ninc n103 nin0)))
                have n107 : bp ≠ nr1 := hne k_bpq k_nr1q (Nat.ne_of_beq_eq_false rfl)
                have n108 : bp ≠ nq1 := hneL k_bpq k_nq1q (Nat.ne_of_beq_eq_false rfl)
                have n109 : bp ≠ eo := hne k_bpq k_eoq (Nat.ne_of_beq_eq_false rfl)
                have h110 : f36 bp = some (.inl (cI G, 240, .inl (nf pk))) := k39.1 _ _ h106 (Nat.ne_of_beq_eq_false rfl) (ninc n109 (ninc n108 (ninc n107 nin0)))
                have n111 : bh ≠ nr0 := hne k_bhq k_nr0q (Nat.ne_of_beq_eq_false rfl)
                have n112 : bh ≠ nq0 := hneL k_bhq k_nq0q (Nat.ne_of_beq_eq_false rfl)
                have n113 : bh ≠ ez := hne k_bhq k_ezq (Nat.ne_of_beq_eq_false rfl)
                have h114 : f3 bh = some (.inl (cZ G, 240, .inl gh)) := k6.1 _ _ k_bhq (Nat.ne_of_beq_eq_false rfl) (ninc n113 (ninc n112 (ninc n111 nin0)))
                have n115 : bh ≠ nr1 := hne k_bhq k_nr1q (Nat.ne_of_beq_eq_false rfl)
                have n116 : bh ≠ nq1 := hneL k_bhq k_nq1q (Nat.ne_of_beq_eq_false rfl)
                have n117 : bh ≠ eo := hne k_bhq k_eoq (Nat.ne_of_beq_eq_false rfl)
                have h118 : f36 bh = some (.inl (cZ G, 240, .inl gh)) := k39.1 _ _ h114 (Nat.ne_of_beq_eq_false rfl) (ninc n117 (ninc n116 (ninc n115 nin0)))
                have n119 : bf ≠ nr0 := hne k_bfq k_nr0q (Nat.ne_of_beq_eq_false rfl)
                have n120 : bf ≠ nq0 := hneL k_bfq k_nq0q (Nat.ne_of_beq_eq_false rfl)
                have n121 : bf ≠ ez := hne k_bfq k_ezq (Nat.ne_of_beq_eq_false rfl)
                have h122 : f3 bf = some (.inl (cI G, 3, .inl (nf fl))) := k6.1 _ _ k_bfq (Nat.ne_of_beq_eq_false rfl) (ninc n121 (ninc n120 (ninc n119 nin0)))
                have n123 : bf ≠ nr1 := hne k_bfq k_nr1q (Nat.ne_of_beq_eq_false rfl)
                have n124 : bf ≠ nq1 := hneL k_bfq k_nq1q (Nat.ne_of_beq_eq_false rfl)
                have n125 : bf ≠ eo := hne k_bfq k_eoq (Nat.ne_of_beq_eq_false rfl)
                have h126 : f36 bf = some (.inl (cI G, 3, .inl (nf fl))) := k39.1 _ _ h122 (Nat.ne_of_beq_eq_false rfl) (ninc n125 (ninc n124 (ninc n123 nin0)))
                have n127 : bl ≠ nr0 := hne k_blq k_nr0q (Nat.ne_of_beq_eq_false rfl)
                have n128 : bl ≠ nq0 := hneL k_blq k_nq0q (Nat.ne_of_beq_eq_false rfl)
                have n129 : bl ≠ ez := hne k_blq k_ezq (Nat.ne_of_beq_eq_false rfl)
                have h130 : f3 bl = some (.inl (cI G, 3, .inl gl)) := k6.1 _ _ k_blq (Nat.ne_of_beq_eq_false rfl) (ninc n129 (ninc n128 (ninc n127 nin0)))
                have n131 : bl ≠ nr1 := hne k_blq k_nr1q (Nat.ne_of_beq_eq_false rfl)
                have n132 : bl ≠ nq1 := hneL k_blq k_nq1q (Nat.ne_of_beq_eq_false rfl)
                have n133 : bl ≠ eo := hne k_blq k_eoq (Nat.ne_of_beq_eq_false rfl)
                have h134 : f36 bl = some (.inl (cI G, 3, .inl gl)) := k39.1 _ _ h130 (Nat.ne_of_beq_eq_false rfl) (ninc n133 (ninc n132 (ninc n131 nin0)))
                have n135 : bg ≠ nr0 := hne k_bgq k_nr0q (Nat.ne_of_beq_eq_false rfl)
                have n136 : bg ≠ nq0 := hneL k_bgq k_nq0q (Nat.ne_of_beq_eq_false rfl)
                have n137 : bg ≠ ez := hne k_bgq k_ezq (Nat.ne_of_beq_eq_false rfl)
                have h138 : f3 bg = some (.inl (cI G, 60, .inl (nf gv))) := k6.1 _ _ k_bgq (Nat.ne_of_beq_eq_false rfl) (ninc n137 (ninc n136 (ninc n135 nin0)))
                have n139 : bg ≠ nr1 := hne k_bgq k_nr1q (Nat.ne_of_beq_eq_false rfl)
                have n140 : bg ≠ nq1 := hneL k_bgq k_nq1q (Nat.ne_of_beq_eq_false rfl)
                have n141 : bg ≠ eo := hne k_bgq k_eoq (Nat.ne_of_beq_eq_false rfl)
                have h142 : f36 bg = some (.inl (cI G, 60, .inl (nf gv))) := k39.1 _ _ h138 (Nat.ne_of_beq_eq_false rfl) (ninc n141 (ninc n140 (ninc n139 nin0)))
                exact hp_cs (by omega) (by omega) (ih _ _ H locs ls ⟨_, ⟨h62, ⟨_, _, _, _, _, _, _, _, _, _, h56, h57, h58, (h20.kp (show hKp [xo, ez, eo, bu, nw0, na0, nq0, nr0, nw1, na1, nq1, nr1, bs, bp, bh, bf, bl, bg] f3 f36 from (k39.mono (fun x9 hx9 => by simp only [List.mem_cons, List.not_mem_nil, or_false] at hx9; rcases hx9 with hx9 | hx9 | hx9 <;> (rw [hx9]; simp))))), (h21.kp (show hKp [xo, ez, eo, bu, nw0, na0, nq0, nr0, nw1, na1, nq1, nr1, bs, bp, bh, bf, bl, bg] f3 f36 from (k39.mono (fun x9 hx9 => by simp only [List.mem_cons, List.not_mem_nil, or_false] at hx9; rcases hx9 with hx9 | hx9 | hx9 <;> (rw [hx9]; simp))))), h22⟩, ⟨_, _, _, _, _, _, _, _, _, _, h50, h51, h52, h53, h54, h55⟩, h68, h74, h80, h86, h94, h102, h110, h118, h126, h134, h142, p38, hB9q, hfl9q, nd_ez_eo, nd_nr0_nr1, nd_nw0_na0, nd_nw0_nq0, nd_nw0_nw1, nd_nw0_na1, nd_nw0_nq1, nd_na0_nq0, nd_na0_nw1, nd_na0_na1, nd_na0_nq1, nd_nq0_nw1, nd_nq0_na1, nd_nq0_nq1, nd_nw1_na1, nd_nw1_nq1, nd_na1_nq1, nd_bh_bp, nd_bf_bl⟩, ((show hKp [xo, ez, eo, bu, nw0, na0, nq0, nr0, nw1, na1, nq1, nr1, bs, bp, bh, bf, bl, bg] f f9 from (hk9.mono (fun x9 hx9 => by simp only [List.mem_cons, List.not_mem_nil, or_false] at hx9; rcases hx9 with hx9 | hx9 | hx9 | hx9 | hx9 | hx9 | hx9 | hx9 | hx9 | hx9 | hx9 | hx9 | hx9 | hx9 | hx9 | hx9 | hx9 | hx9 <;> (rw [hx9]; simp)))).tr ((show hKp [xo, ez, eo, bu, nw0, na0, nq0, nr0, nw1, na1, nq1, nr1, bs, bp, bh, bf, bl, bg] f9 f3 from (k6.mono (fun x9 hx9 => by simp only [List.mem_cons, List.not_mem_nil, or_false] at hx9; rcases hx9 with hx9 | hx9 | hx9 <;> (rw [hx9]; simp)))).tr (show hKp [xo, ez, eo, bu, nw0, na0, nq0, nr0, nw1, na1, nq1, nr1, bs, bp, bh, bf, bl, bg] f3 f36 from (k39.mono (fun x9 hx9 => by simp only [List.mem_cons, List.not_mem_nil, or_false] at hx9; rcases hx9 with hx9 | hx9 | hx9 <;> (rw [hx9]; simp)))))), rfl⟩ hw hS (lv_sub hl9 [0, 2, 3, 1] rfl))
              · subst ev9
                have hP := hr9
                obtain ⟨h143, p144, k145⟩ := hP
                obtain ⟨st146, tm147, sr148, li149, lp150, mi151, cn152, gq153, hd154, tl155, h156, h157, h158, h159, h160, h161⟩ := h143
                refine W.eq (g2 := F0 m 56 ls [.int 1, .int (k9 + 0)]) rfl ?_
                refine lv_if_eq (tgt := 63) hx hb dX4_pass_56 (by decide) (fun c9 => absurd c9 (by decide)) (fun _ => ?_)
                refine lv_iconst (v := 1) hx hb dX4_pass_59 (by decide) ?_
                refine lv_goto (tgt := 64) hx hb dX4_pass_60 (by decide) ?_
                refine lv_iadd hx hb dX4_pass_64 ?_
                refine lv_istore_n (lv' := [(2, .int ((k9 + 0) + 1)), (3, .int (nI j)), (0, .ref xo), (1, .int xv)]) hx hb dX4_pass_65 rfl hl9 (by decide) rfl (fun ls hl9 => ?_)
                refine lv_iinc (v := (nI (j + 1))) (lv' := [(3, .int (nI (j + 1))), (2, .int ((k9 + 0) + 1)), (0, .ref xo), (1, .int xv)]) hx hb dX4_pass_66 hl9 (k := 1) rfl (nI_1 j) (by decide) rfl (fun ls hl9 => ?_)
                refine lv_goto (tgt := 25) hx hb dX4_pass_69 (by decide) ?_
                have h162 : f36 ez = some (.inr (1, [.ref nw0, .ref na0, .ref nq0, .ref nr0, .int mg0, .int st7, .int tm8, .int sr9, .int li10, .int lp11, .int mi12])) := k145.1 _ _ h17 (Nat.ne_of_beq_eq_false rfl) (ninc nd_ez_eo (ninc (Ne.symm n31) (ninc (Ne.symm n34) nin0)))
                have h163 : f36 nq0 = some (.inl (cI G, 6, .inl gq14)) := k145.1 _ _ h18 (Nat.ne_of_beq_eq_false rfl) (ninc (Ne.symm n28) (ninc nd_nq0_nq1 (ninc (Ne.symm n33) nin0)))
                have h164 : f36 nr0 = some (.inr (3, [hd15, tl16, .int cn13])) := k145.1 _ _ h19 (Nat.ne_of_beq_eq_false rfl) (ninc (Ne.symm n27) (ninc (Ne.symm n30) (ninc nd_nr0_nr1 nin0)))
                have n165 : xo ≠ nr1 := hne k_xoq k_nr1q (Nat.ne_of_beq_eq_false rfl)
                have n166 : xo ≠ nq1 := hne k_xoq k_nq1q (Nat.ne_of_beq_eq_false rfl)
                have n167 : xo ≠ eo := hne k_xoq k_eoq (Nat.ne_of_beq_eq_false rfl)
                have h168 : f36 xo = some (.inr (4, [.ref ez, .ref eo, .ref bu])) := k145.1 _ _ h26 (Nat.ne_of_beq_eq_false rfl) (ninc n167 (ninc n166 (ninc n165 nin0)))
                have n169 : nw0 ≠ nr0 := hne k_nw0q k_nr0q (Nat.ne_of_beq_eq_false rfl)
                have n170 : nw0 ≠ ez := hne k_nw0q k_ezq (Nat.ne_of_beq_eq_false rfl)
                have h171 : f3 nw0 = some (.inl (cI G, 6, .inl gw0)) := k6.1 _ _ k_nw0q (Nat.ne_of_beq_eq_false rfl) (ninc n170 (ninc nd_nw0_nq0 (ninc n169 nin0)))
                have n172 : nw0 ≠ nr1 := hne k_nw0q k_nr1q (Nat.ne_of_beq_eq_false rfl)
                have n173 : nw0 ≠ eo := hne k_nw0q k_eoq (Nat.ne_of_beq_eq_false rfl)
                have h174 : f36 nw0 = some (.inl (cI G, 6, .inl gw0)) := k145.1 _ _ h171 (Nat.ne_of_beq_eq_false rfl) (ninc n173 (ninc nd_nw0_nq1 (ninc n172 nin0)))
                have n175 : na0 ≠ nr0 := hne k_na0q k_nr0q (Nat.ne_of_beq_eq_false rfl)
                have n176 : na0 ≠ ez := hne k_na0q k_ezq (Nat.ne_of_beq_eq_false rfl)
                have h177 : f3 na0 = some (.inl (cI G, 6, .inl ga0)) := k6.1 _ _ k_na0q (Nat.ne_of_beq_eq_false rfl) (ninc n176 (ninc nd_na0_nq0 (ninc n175 nin0)))
                have n178 : na0 ≠ nr1 := hne k_na0q k_nr1q (Nat.ne_of_beq_eq_false rfl)
                have n179 : na0 ≠ eo := hne k_na0q k_eoq (Nat.ne_of_beq_eq_false rfl)
                have h180 : f36 na0 = some (.inl (cI G, 6, .inl ga0)) := k145.1 _ _ h177 (Nat.ne_of_beq_eq_false rfl) (ninc n179 (ninc nd_na0_nq1 (ninc n178 nin0)))
                have n181 : nw1 ≠ nr0 := hne k_nw1q k_nr0q (Nat.ne_of_beq_eq_false rfl)
                have n182 : nw1 ≠ ez := hne k_nw1q k_ezq (Nat.ne_of_beq_eq_false rfl)
                have h183 : f3 nw1 = some (.inl (cI G, 6, .inl gw1)) := k6.1 _ _ k_nw1q (Nat.ne_of_beq_eq_false rfl) (ninc n182 (ninc (Ne.symm nd_nq0_nw1) (ninc n181 nin0)))
                have n184 : nw1 ≠ nr1 := hne k_nw1q k_nr1q (Nat.ne_of_beq_eq_false rfl)
                have n185 : nw1 ≠ eo := hne k_nw1q k_eoq (Nat.ne_of_beq_eq_false rfl)
                have h186 : f36 nw1 = some (.inl (cI G, 6, .inl gw1)) := k145.1 _ _ h183 (Nat.ne_of_beq_eq_false rfl) (ninc n185 (ninc nd_nw1_nq1 (ninc n184 nin0)))
                have n187 : na1 ≠ nr0 := hne k_na1q k_nr0q (Nat.ne_of_beq_eq_false rfl)
                have n188 : na1 ≠ ez := hne k_na1q k_ezq (Nat.ne_of_beq_eq_false rfl)
                have h189 : f3 na1 = some (.inl (cI G, 6, .inl ga1)) := k6.1 _ _ k_na1q (Nat.ne_of_beq_eq_false rfl) (ninc n188 (ninc (Ne.symm nd_nq0_na1) (ninc n187 nin0)))
                have n190 : na1 ≠ nr1 := hne k_na1q k_nr1q (Nat.ne_of_beq_eq_false rfl)
                have n191 : na1 ≠ eo := hne k_na1q k_eoq (Nat.ne_of_beq_eq_false rfl)
                have h192 : f36 na1 = some (.inl (cI G, 6, .inl ga1)) := k145.1 _ _ h189 (Nat.ne_of_beq_eq_false rfl) (ninc n191 (ninc nd_na1_nq1 (ninc n190 nin0)))
                have n193 : bu ≠ nr0 := hne k_buq k_nr0q (Nat.ne_of_beq_eq_false rfl)
                have n194 : bu ≠ nq0 := hne k_buq k_nq0q (Nat.ne_of_beq_eq_false rfl)
                have n195 : bu ≠ ez := hne k_buq k_ezq (Nat.ne_of_beq_eq_false rfl)
                have h196 : f3 bu = some (.inr (0, [.ref bs, .ref bp, .ref bh, .ref bf, .ref bl, .ref bg, .int (nI n), .int (nI cg), .int (nI x)])) := k6.1 _ _ k_buq (Nat.ne_of_beq_eq_false rfl) (ninc n195 (ninc n194 (ninc n193 nin0)))
                have n197 : bu ≠ nr1 := hne k_buq k_nr1q (Nat.ne_of_beq_eq_false rfl)
                have n198 : bu ≠ nq1 := hne k_buq k_nq1q (Nat.ne_of_beq_eq_false rfl)
                have n199 : bu ≠ eo := hne k_buq k_eoq (Nat.ne_of_beq_eq_false rfl)
                have h200 : f36 bu = some (.inr (0, [.ref bs, .ref bp, .ref bh, .ref bf, .ref bl, .ref bg, .int (nI n), .int (nI cg), .int (nI x)])) := k145.1 _ _ h196 (Nat.ne_of_beq_eq_false rfl) (ninc n199 (ninc n198 (ninc n197 nin0)))
                have n201 : bs ≠ nr0 := hne k_bsq k_nr0q (Nat.ne_of_beq_eq_false rfl)
                have n202 : bs ≠ nq0 := hneL k_bsq k_nq0q (Nat.ne_of_beq_eq_false rfl)
                have n203 : bs ≠ ez := hne k_bsq k_ezq (Nat.ne_of_beq_eq_false rfl)
                have h204 : f3 bs = some (.inl (cI G, 61, .inl (nf sa))) := k6.1 _ _ k_bsq (Nat.ne_of_beq_eq_false rfl) (ninc n203 (ninc n202 (ninc n201 nin0)))
                have n205 : bs ≠ nr1 := hne k_bsq k_nr1q (Nat.ne_of_beq_eq_false rfl)
                have n206 : bs ≠ nq1 := hneL k_bsq k_nq1q (Nat.ne_of_beq_eq_false rfl)
                have n207 : bs ≠ eo := hne k_bsq k_eoq (Nat.ne_of_beq_eq_false rfl)
                have h208 : f36 bs = some (.inl (cI G, 61, .inl (nf sa))) := k145.1 _ _ h204 (Nat.ne_of_beq_eq_false rfl) (ninc n207 (ninc n206 (ninc n205 nin0)))
                have n209 : bp ≠ nr0 := hne k_bpq k_nr0q (Nat.ne_of_beq_eq_false rfl)
                have n210 : bp ≠ nq0 := hneL k_bpq k_nq0q (Nat.ne_of_beq_eq_false rfl)
                have n211 : bp ≠ ez := hne k_bpq k_ezq (Nat.ne_of_beq_eq_false rfl)
                have h212 : f3 bp = some (.inl (cI G, 240, .inl (nf pk))) := k6.1 _ _ k_bpq (Nat.ne_of_beq_eq_false rfl) (ninc n211 (ninc n210 (ninc n209 nin0)))
                have n213 : bp ≠ nr1 := hne k_bpq k_nr1q (Nat.ne_of_beq_eq_false rfl)
                have n214 : bp ≠ nq1 := hneL k_bpq k_nq1q (Nat.ne_of_beq_eq_false rfl)
                have n215 : bp ≠ eo := hne k_bpq k_eoq (Nat.ne_of_beq_eq_false rfl)
                have h216 : f36 bp = some (.inl (cI G, 240, .inl (nf pk))) := k145.1 _ _ h212 (Nat.ne_of_beq_eq_false rfl) (ninc n215 (ninc n214 (ninc n213 nin0)))
                have n217 : bh ≠ nr0 := hne k_bhq k_nr0q (Nat.ne_of_beq_eq_false rfl)
                have n218 : bh ≠ nq0 := hneL k_bhq k_nq0q (Nat.ne_of_beq_eq_false rfl)
                have n219 : bh ≠ ez := hne k_bhq k_ezq (Nat.ne_of_beq_eq_false rfl)
                have h220 : f3 bh = some (.inl (cZ G, 240, .inl gh)) := k6.1 _ _ k_bhq (Nat.ne_of_beq_eq_false rfl) (ninc n219 (ninc n218 (ninc n217 nin0)))
                have n221 : bh ≠ nr1 := hne k_bhq k_nr1q (Nat.ne_of_beq_eq_false rfl)
                have n222 : bh ≠ nq1 := hneL k_bhq k_nq1q (Nat.ne_of_beq_eq_false rfl)
                have n223 : bh ≠ eo := hne k_bhq k_eoq (Nat.ne_of_beq_eq_false rfl)
                have h224 : f36 bh = some (.inl (cZ G, 240, .inl gh)) := k145.1 _ _ h220 (Nat.ne_of_beq_eq_false rfl) (ninc n223 (ninc n222 (ninc n221 nin0)))
                have n225 : bf ≠ nr0 := hne k_bfq k_nr0q (Nat.ne_of_beq_eq_false rfl)
                have n226 : bf ≠ nq0 := hneL k_bfq k_nq0q (Nat.ne_of_beq_eq_false rfl)
                have n227 : bf ≠ ez := hne k_bfq k_ezq (Nat.ne_of_beq_eq_false rfl)
                have h228 : f3 bf = some (.inl (cI G, 3, .inl (nf fl))) := k6.1 _ _ k_bfq (Nat.ne_of_beq_eq_false rfl) (ninc n227 (ninc n226 (ninc n225 nin0)))
                have n229 : bf ≠ nr1 := hne k_bfq k_nr1q (Nat.ne_of_beq_eq_false rfl)
                have n230 : bf ≠ nq1 := hneL k_bfq k_nq1q (Nat.ne_of_beq_eq_false rfl)
                have n231 : bf ≠ eo := hne k_bfq k_eoq (Nat.ne_of_beq_eq_false rfl)
                have h232 : f36 bf = some (.inl (cI G, 3, .inl (nf fl))) := k145.1 _ _ h228 (Nat.ne_of_beq_eq_false rfl) (ninc n231 (ninc n230 (ninc n229 nin0)))
                have n233 : bl ≠ nr0 := hne k_blq k_nr0q (Nat.ne_of_beq_eq_false rfl)
                have n234 : bl ≠ nq0 := hneL k_blq k_nq0q (Nat.ne_of_beq_eq_false rfl)
                have n235 : bl ≠ ez := hne k_blq k_ezq (Nat.ne_of_beq_eq_false rfl)
                have h236 : f3 bl = some (.inl (cI G, 3, .inl gl)) := k6.1 _ _ k_blq (Nat.ne_of_beq_eq_false rfl) (ninc n235 (ninc n234 (ninc n233 nin0)))
                have n237 : bl ≠ nr1 := hne k_blq k_nr1q (Nat.ne_of_beq_eq_false rfl)
                have n238 : bl ≠ nq1 := hneL k_blq k_nq1q (Nat.ne_of_beq_eq_false rfl)
                have n239 : bl ≠ eo := hne k_blq k_eoq (Nat.ne_of_beq_eq_false rfl)
                have h240 : f36 bl = some (.inl (cI G, 3, .inl gl)) := k145.1 _ _ h236 (Nat.ne_of_beq_eq_false rfl) (ninc n239 (ninc n238 (ninc n237 nin0)))
                have n241 : bg ≠ nr0 := hne k_bgq k_nr0q (Nat.ne_of_beq_eq_false rfl)
                have n242 : bg ≠ nq0 := hneL k_bgq k_nq0q (Nat.ne_of_beq_eq_false rfl)
                have n243 : bg ≠ ez := hne k_bgq k_ezq (Nat.ne_of_beq_eq_false rfl)
                have h244 : f3 bg = some (.inl (cI G, 60, .inl (nf gv))) := k6.1 _ _ k_bgq (Nat.ne_of_beq_eq_false rfl) (ninc n243 (ninc n242 (ninc n241 nin0)))
                have n245 : bg ≠ nr1 := hne k_bgq k_nr1q (Nat.ne_of_beq_eq_false rfl)
                have n246 : bg ≠ nq1 := hneL k_bgq k_nq1q (Nat.ne_of_beq_eq_false rfl)
                have n247 : bg ≠ eo := hne k_bgq k_eoq (Nat.ne_of_beq_eq_false rfl)
                have h248 : f36 bg = some (.inl (cI G, 60, .inl (nf gv))) := k145.1 _ _ h244 (Nat.ne_of_beq_eq_false rfl) (ninc n247 (ninc n246 (ninc n245 nin0)))
                exact hp_cs (by omega) (by omega) (ih _ _ H locs ls ⟨_, ⟨h168, ⟨_, _, _, _, _, _, _, _, _, _, h162, h163, h164, (h20.kp (show hKp [xo, ez, eo, bu, nw0, na0, nq0, nr0, nw1, na1, nq1, nr1, bs, bp, bh, bf, bl, bg] f3 f36 from (k145.mono (fun x9 hx9 => by simp only [List.mem_cons, List.not_mem_nil, or_false] at hx9; rcases hx9 with hx9 | hx9 | hx9 <;> (rw [hx9]; simp))))), (h21.kp (show hKp [xo, ez, eo, bu, nw0, na0, nq0, nr0, nw1, na1, nq1, nr1, bs, bp, bh, bf, bl, bg] f3 f36 from (k145.mono (fun x9 hx9 => by simp only [List.mem_cons, List.not_mem_nil, or_false] at hx9; rcases hx9 with hx9 | hx9 | hx9 <;> (rw [hx9]; simp))))), h22⟩, ⟨_, _, _, _, _, _, _, _, _, _, h156, h157, h158, h159, h160, h161⟩, h174, h180, h186, h192, h200, h208, h216, h224, h232, h240, h248, p144, hB9q, hfl9q, nd_ez_eo, nd_nr0_nr1, nd_nw0_na0, nd_nw0_nq0, nd_nw0_nw1, nd_nw0_na1, nd_nw0_nq1, nd_na0_nq0, nd_na0_nw1, nd_na0_na1, nd_na0_nq1, nd_nq0_nw1, nd_nq0_na1, nd_nq0_nq1, nd_nw1_na1, nd_nw1_nq1, nd_na1_nq1, nd_bh_bp, nd_bf_bl⟩, ((show hKp [xo, ez, eo, bu, nw0, na0, nq0, nr0, nw1, na1, nq1, nr1, bs, bp, bh, bf, bl, bg] f f9 from (hk9.mono (fun x9 hx9 => by simp only [List.mem_cons, List.not_mem_nil, or_false] at hx9; rcases hx9 with hx9 | hx9 | hx9 | hx9 | hx9 | hx9 | hx9 | hx9 | hx9 | hx9 | hx9 | hx9 | hx9 | hx9 | hx9 | hx9 | hx9 | hx9 <;> (rw [hx9]; simp)))).tr ((show hKp [xo, ez, eo, bu, nw0, na0, nq0, nr0, nw1, na1, nq1, nr1, bs, bp, bh, bf, bl, bg] f9 f3 from (k6.mono (fun x9 hx9 => by simp only [List.mem_cons, List.not_mem_nil, or_false] at hx9; rcases hx9 with hx9 | hx9 | hx9 <;> (rw [hx9]; simp)))).tr (show hKp [xo, ez, eo, bu, nw0, na0, nq0, nr0, nw1, na1, nq1, nr1, bs, bp, bh, bf, bl, bg] f3 f36 from (k145.mono (fun x9 hx9 => by simp only [List.mem_cons, List.not_mem_nil, or_false] at hx9; rcases hx9 with hx9 | hx9 | hx9 <;> (rw [hx9]; simp)))))), rfl⟩ hw hS (lv_sub hl9 [0, 2, 3, 1] rfl))
          · subst ev9
            have hP := hr9
            obtain ⟨h249, p250, k251⟩ := hP
            obtain ⟨st252, tm253, sr254, li255, lp256, mi257, cn258, gq259, hd260, tl261, h262, h263, h264, h265, h266, h267⟩ := h249
            refine W.eq (g2 := F0 m 38 ls [.int 1, .int k9]) rfl ?_
            refine lv_if_eq (tgt := 45) hx hb dX4_pass_38 (by decide) (fun c9 => absurd c9 (by decide)) (fun _ => ?_)
            refine lv_iconst (v := 1) hx hb dX4_pass_41 (by decide) ?_
            refine lv_goto (tgt := 46) hx hb dX4_pass_42 (by decide) ?_
            refine lv_iadd hx hb dX4_pass_46 ?_
            refine lv_istore_n (lv' := [(2, .int (k9 + 1)), (3, .int (nI j)), (0, .ref xo), (1, .int xv)]) hx hb dX4_pass_47 rfl hl9 (by decide) rfl (fun ls hl9 => ?_)
            refine lv_iload_n hx hb dX4_pass_48 rfl (lv_at hl9 0 rfl) ?_
            refine lv_aload_n hx hb dX4_pass_49 rfl (lv_at hl9 2 rfl) ?_
            have n268 : xo ≠ nr0 := hne k_xoq k_nr0q (Nat.ne_of_beq_eq_false rfl)
            have n269 : xo ≠ nq0 := hne k_xoq k_nq0q (Nat.ne_of_beq_eq_false rfl)
            have n270 : xo ≠ ez := hne k_xoq k_ezq (Nat.ne_of_beq_eq_false rfl)
            have h271 : f3 xo = some (.inr (4, [.ref ez, .ref eo, .ref bu])) := k251.1 _ _ k_xoq (Nat.ne_of_beq_eq_false rfl) (ninc n270 (ninc n269 (ninc n268 nin0)))
            refine hp_get B0 hw 4 rfl in_X4 h271 1 (by decide) qF_X4_18 rfl dX4_pass_50 ?_
            have n272 : eo ≠ nr0 := hne k_eoq k_nr0q (Nat.ne_of_beq_eq_false rfl)
            have n273 : eo ≠ nq0 := hne k_eoq k_nq0q (Nat.ne_of_beq_eq_false rfl)
            have h274 : f3 eo = some (.inr (1, [.ref nw1, .ref na1, .ref nq1, .ref nr1, .int mg1, .int st1q, .int tm1q, .int sr1q, .int li1q, .int lp1q, .int mi1q])) := k251.1 _ _ k_eoq (Nat.ne_of_beq_eq_false rfl) (ninc (Ne.symm nd_ez_eo) (ninc n273 (ninc n272 nin0)))
            have n275 : nq1 ≠ nr0 := hne k_nq1q k_nr0q (Nat.ne_of_beq_eq_false rfl)
            have n276 : nq1 ≠ ez := hne k_nq1q k_ezq (Nat.ne_of_beq_eq_false rfl)
            have h277 : f3 nq1 = some (.inl (cI G, 6, .inl gq1q)) := k251.1 _ _ k_nq1q (Nat.ne_of_beq_eq_false rfl) (ninc n276 (ninc (Ne.symm nd_nq0_nq1) (ninc n275 nin0)))
            have n278 : nr1 ≠ nq0 := hne k_nr1q k_nq0q (Nat.ne_of_beq_eq_false rfl)
            have n279 : nr1 ≠ ez := hne k_nr1q k_ezq (Nat.ne_of_beq_eq_false rfl)
            have h280 : f3 nr1 = some (.inr (3, [hd1q, tl1q, .int cn1q])) := k251.1 _ _ k_nr1q (Nat.ne_of_beq_eq_false rfl) (ninc n279 (ninc n278 (ninc (Ne.symm nd_nr0_nr1) nin0)))
            refine hp_V (ci := 1) (As := []) (rest := [.int (k9 + 1)]) B0 hw hS (c_X1_tick hl G f3 eo nw1 na1 nq1 nr1 mg1 ⟨_, _, _, _, _, _, _, _, _, _, h274, h277, h280, (fhd1q.kp (show hKp [xo, ez, eo, bu, nw0, na0, nq0, nr0, nw1, na1, nq1, nr1, bs, bp, bh, bf, bl, bg] f9 f3 from (k251.mono (fun x9 hx9 => by simp only [List.mem_cons, List.not_mem_nil, or_false] at hx9; rcases hx9 with hx9 | hx9 | hx9 <;> (rw [hx9]; simp))))), (ftl1q.kp (show hKp [xo, ez, eo, bu, nw0, na0, nq0, nr0, nw1, na1, nq1, nr1, bs, bp, bh, bf, bl, bg] f9 f3 from (k251.mono (fun x9 hx9 => by simp only [List.mem_cons, List.not_mem_nil, or_false] at hx9; rcases hx9 with hx9 | hx9 | hx9 <;> (rw [hx9]; simp))))), blp1q⟩ p250 ) mV_X1_tick qM_X4_91 rfl h274 rfl rfl hl9.1 (Nat.le_of_ble_eq_true rfl) ⟨⟨Nat.le_of_ble_eq_true rfl, Nat.le_of_ble_eq_true rfl⟩, (by first | omega | (dsimp only; omega)), (by first | omega | (dsimp only; omega))⟩ dX4_pass_53 (fun E ce q9 f281 H locs hPX hw hS hce hcv hcl => ?_) (fun v f281 H locs hP hw hS => ?_)
            · exact hPX.elim
            · obtain ⟨hv9, hr9⟩ := hP
              rcases hv9 with ev9 | ev9
              · subst ev9
                have hP := hr9
                obtain ⟨h282, p283, k284⟩ := hP
                obtain ⟨st285, tm286, sr287, li288, lp289, mi290, cn291, gq292, hd293, tl294, h295, h296, h297, h298, h299, h300⟩ := h282
                refine W.eq (g2 := F0 m 56 ls [.int 0, .int (k9 + 1)]) rfl ?_
                refine lv_if_eq (tgt := 63) hx hb dX4_pass_56 (by decide) (fun _ => ?_) (fun c9 => absurd (by decide) c9)
                refine lv_iconst (v := 0) hx hb dX4_pass_63 (by decide) ?_
                refine lv_iadd hx hb dX4_pass_64 ?_
                refine lv_istore_n (lv' := [(2, .int ((k9 + 1) + 0)), (3, .int (nI j)), (0, .ref xo), (1, .int xv)]) hx hb dX4_pass_65 rfl hl9 (by decide) rfl (fun ls hl9 => ?_)
                refine lv_iinc (v := (nI (j + 1))) (lv' := [(3, .int (nI (j + 1))), (2, .int ((k9 + 1) + 0)), (0, .ref xo), (1, .int xv)]) hx hb dX4_pass_66 hl9 (k := 1) rfl (nI_1 j) (by decide) rfl (fun ls hl9 => ?_)
                refine lv_goto (tgt := 25) hx hb dX4_pass_69 (by decide) ?_
                have h301 : f281 ez = some (.inr (1, [.ref nw0, .ref na0, .ref nq0, .ref nr0, .int mg0, .int st252, .int tm253, .int sr254, .int li255, .int lp256, .int mi257])) := k284.1 _ _ h262 (Nat.ne_of_beq_eq_false rfl) (ninc nd_ez_eo (ninc (Ne.symm n276) (ninc (Ne.symm n279) nin0)))
                have h302 : f281 nq0 = some (.inl (cI G, 6, .inl gq259)) := k284.1 _ _ h263 (Nat.ne_of_beq_eq_false rfl) (ninc (Ne.symm n273) (ninc nd_nq0_nq1 (ninc (Ne.symm n278) nin0)))
                have h303 : f281 nr0 = some (.inr (3, [hd260, tl261, .int cn258])) := k284.1 _ _ h264 (Nat.ne_of_beq_eq_false rfl) (ninc (Ne.symm n272) (ninc (Ne.symm n275) (ninc nd_nr0_nr1 nin0)))
                have n304 : xo ≠ nr1 := hne k_xoq k_nr1q (Nat.ne_of_beq_eq_false rfl)
                have n305 : xo ≠ nq1 := hne k_xoq k_nq1q (Nat.ne_of_beq_eq_false rfl)
                have n306 : xo ≠ eo := hne k_xoq k_eoq (Nat.ne_of_beq_eq_false rfl)
                have h307 : f281 xo = some (.inr (4, [.ref ez, .ref eo, .ref bu])) := k284.1 _ _ h271 (Nat.ne_of_beq_eq_false rfl) (ninc n306 (ninc n305 (ninc n304 nin0)))
                have n308 : nw0 ≠ nr0 := hne k_nw0q k_nr0q (Nat.ne_of_beq_eq_false rfl)
                have n309 : nw0 ≠ ez := hne k_nw0q k_ezq (Nat.ne_of_beq_eq_false rfl)
                have h310 : f3 nw0 = some (.inl (cI G, 6, .inl gw0)) := k251.1 _ _ k_nw0q (Nat.ne_of_beq_eq_false rfl) (ninc n309 (ninc nd_nw0_nq0 (ninc n308 nin0)))
                have n311 : nw0 ≠ nr1 := hne k_nw0q k_nr1q (Nat.ne_of_beq_eq_false rfl)
                have n312 : nw0 ≠ eo := hne k_nw0q k_eoq (Nat.ne_of_beq_eq_false rfl)
                have h313 : f281 nw0 = some (.inl (cI G, 6, .inl gw0)) := k284.1 _ _ h310 (Nat.ne_of_beq_eq_false rfl) (ninc n312 (ninc nd_nw0_nq1 (ninc n311 nin0)))
                have n314 : na0 ≠ nr0 := hne k_na0q k_nr0q (Nat.ne_of_beq_eq_false rfl)
                have n315 : na0 ≠ ez := hne k_na0q k_ezq (Nat.ne_of_beq_eq_false rfl)
                have h316 : f3 na0 = some (.inl (cI G, 6, .inl ga0)) := k251.1 _ _ k_na0q (Nat.ne_of_beq_eq_false rfl) (ninc n315 (ninc nd_na0_nq0 (ninc n314 nin0)))
                have n317 : na0 ≠ nr1 := hne k_na0q k_nr1q (Nat.ne_of_beq_eq_false rfl)
                have n318 : na0 ≠ eo := hne k_na0q k_eoq (Nat.ne_of_beq_eq_false rfl)
                have h319 : f281 na0 = some (.inl (cI G, 6, .inl ga0)) := k284.1 _ _ h316 (Nat.ne_of_beq_eq_false rfl) (ninc n318 (ninc nd_na0_nq1 (ninc n317 nin0)))
                have n320 : nw1 ≠ nr0 := hne k_nw1q k_nr0q (Nat.ne_of_beq_eq_false rfl)
                have n321 : nw1 ≠ ez := hne k_nw1q k_ezq (Nat.ne_of_beq_eq_false rfl)
                have h322 : f3 nw1 = some (.inl (cI G, 6, .inl gw1)) := k251.1 _ _ k_nw1q (Nat.ne_of_beq_eq_false rfl) (ninc n321 (ninc (Ne.symm nd_nq0_nw1) (ninc n320 nin0)))
                have n323 : nw1 ≠ nr1 := hne k_nw1q k_nr1q (Nat.ne_of_beq_eq_false rfl)
                have n324 : nw1 ≠ eo := hne k_nw1q k_eoq (Nat.ne_of_beq_eq_false rfl)
                have h325 : f281 nw1 = some (.inl (cI G, 6, .inl gw1)) := k284.1 _ _ h322 (Nat.ne_of_beq_eq_false rfl) (ninc n324 (ninc nd_nw1_nq1 (ninc n323 nin0)))
                have n326 : na1 ≠ nr0 := hne k_na1q k_nr0q (Nat.ne_of_beq_eq_false rfl)
                have n327 : na1 ≠ ez := hne k_na1q k_ezq (Nat.ne_of_beq_eq_false rfl)
                have h328 : f3 na1 = some (.inl (cI G, 6, .inl ga1)) := k251.1 _ _ k_na1q (Nat.ne_of_beq_eq_false rfl) (ninc n327 (ninc (Ne.symm nd_nq0_na1) (ninc n326 nin0)))
                have n329 : na1 ≠ nr1 := hne k_na1q k_nr1q (Nat.ne_of_beq_eq_false rfl)
                have n330 : na1 ≠ eo := hne k_na1q k_eoq (Nat.ne_of_beq_eq_false rfl)
                have h331 : f281 na1 = some (.inl (cI G, 6, .inl ga1)) := k284.1 _ _ h328 (Nat.ne_of_beq_eq_false rfl) (ninc n330 (ninc nd_na1_nq1 (ninc n329 nin0)))
                have n332 : bu ≠ nr0 := hne k_buq k_nr0q (Nat.ne_of_beq_eq_false rfl)
                have n333 : bu ≠ nq0 := hne k_buq k_nq0q (Nat.ne_of_beq_eq_false rfl)
                have n334 : bu ≠ ez := hne k_buq k_ezq (Nat.ne_of_beq_eq_false rfl)
                have h335 : f3 bu = some (.inr (0, [.ref bs, .ref bp, .ref bh, .ref bf, .ref bl, .ref bg, .int (nI n), .int (nI cg), .int (nI x)])) := k251.1 _ _ k_buq (Nat.ne_of_beq_eq_false rfl) (ninc n334 (ninc n333 (ninc n332 nin0)))
                have n336 : bu ≠ nr1 := hne k_buq k_nr1q (Nat.ne_of_beq_eq_false rfl)
                have n337 : bu ≠ nq1 := hne k_buq k_nq1q (Nat.ne_of_beq_eq_false rfl)
                have n338 : bu ≠ eo := hne k_buq k_eoq (Nat.ne_of_beq_eq_false rfl)
                have h339 : f281 bu = some (.inr (0, [.ref bs, .ref bp, .ref bh, .ref bf, .ref bl, .ref bg, .int (nI n), .int (nI cg), .int (nI x)])) := k284.1 _ _ h335 (Nat.ne_of_beq_eq_false rfl) (ninc n338 (ninc n337 (ninc n336 nin0)))
                have n340 : bs ≠ nr0 := hne k_bsq k_nr0q (Nat.ne_of_beq_eq_false rfl)
                have n341 : bs ≠ nq0 := hneL k_bsq k_nq0q (Nat.ne_of_beq_eq_false rfl)
                have n342 : bs ≠ ez := hne k_bsq k_ezq (Nat.ne_of_beq_eq_false rfl)
                have h343 : f3 bs = some (.inl (cI G, 61, .inl (nf sa))) := k251.1 _ _ k_bsq (Nat.ne_of_beq_eq_false rfl) (ninc n342 (ninc n341 (ninc n340 nin0)))
                have n344 : bs ≠ nr1 := hne k_bsq k_nr1q (Nat.ne_of_beq_eq_false rfl)
                have n345 : bs ≠ nq1 := hneL k_bsq k_nq1q (Nat.ne_of_beq_eq_false rfl)
                have n346 : bs ≠ eo := hne k_bsq k_eoq (Nat.ne_of_beq_eq_false rfl)
                have h347 : f281 bs = some (.inl (cI G, 61, .inl (nf sa))) := k284.1 _ _ h343 (Nat.ne_of_beq_eq_false rfl) (ninc n346 (ninc n345 (ninc n344 nin0)))
                have n348 : bp ≠ nr0 := hne k_bpq k_nr0q (Nat.ne_of_beq_eq_false rfl)
                have n349 : bp ≠ nq0 := hneL k_bpq k_nq0q (Nat.ne_of_beq_eq_false rfl)
                have n350 : bp ≠ ez := hne k_bpq k_ezq (Nat.ne_of_beq_eq_false rfl)
                have h351 : f3 bp = some (.inl (cI G, 240, .inl (nf pk))) := k251.1 _ _ k_bpq (Nat.ne_of_beq_eq_false rfl) (ninc n350 (ninc n349 (ninc n348 nin0)))
                have n352 : bp ≠ nr1 := hne k_bpq k_nr1q (Nat.ne_of_beq_eq_false rfl)
                have n353 : bp ≠ nq1 := hneL k_bpq k_nq1q (Nat.ne_of_beq_eq_false rfl)
                have n354 : bp ≠ eo := hne k_bpq k_eoq (Nat.ne_of_beq_eq_false rfl)
                have h355 : f281 bp = some (.inl (cI G, 240, .inl (nf pk))) := k284.1 _ _ h351 (Nat.ne_of_beq_eq_false rfl) (ninc n354 (ninc n353 (ninc n352 nin0)))
                have n356 : bh ≠ nr0 := hne k_bhq k_nr0q (Nat.ne_of_beq_eq_false rfl)
                have n357 : bh ≠ nq0 := hneL k_bhq k_nq0q (Nat.ne_of_beq_eq_false rfl)
                have n358 : bh ≠ ez := hne k_bhq k_ezq (Nat.ne_of_beq_eq_false rfl)
                have h359 : f3 bh = some (.inl (cZ G, 240, .inl gh)) := k251.1 _ _ k_bhq (Nat.ne_of_beq_eq_false rfl) (ninc n358 (ninc n357 (ninc n356 nin0)))
                have n360 : bh ≠ nr1 := hne k_bhq k_nr1q (Nat.ne_of_beq_eq_false rfl)
                have n361 : bh ≠ nq1 := hneL k_bhq k_nq1q (Nat.ne_of_beq_eq_false rfl)
                have n362 : bh ≠ eo := hne k_bhq k_eoq (Nat.ne_of_beq_eq_false rfl)
                have h363 : f281 bh = some (.inl (cZ G, 240, .inl gh)) := k284.1 _ _ h359 (Nat.ne_of_beq_eq_false rfl) (ninc n362 (ninc n361 (ninc n360 nin0)))
                have n364 : bf ≠ nr0 := hne k_bfq k_nr0q (Nat.ne_of_beq_eq_false rfl)
                have n365 : bf ≠ nq0 := hneL k_bfq k_nq0q (Nat.ne_of_beq_eq_false rfl)
                have n366 : bf ≠ ez := hne k_bfq k_ezq (Nat.ne_of_beq_eq_false rfl)
                have h367 : f3 bf = some (.inl (cI G, 3, .inl (nf fl))) := k251.1 _ _ k_bfq (Nat.ne_of_beq_eq_false rfl) (ninc n366 (ninc n365 (ninc n364 nin0)))
                have n368 : bf ≠ nr1 := hne k_bfq k_nr1q (Nat.ne_of_beq_eq_false rfl)
                have n369 : bf ≠ nq1 := hneL k_bfq k_nq1q (Nat.ne_of_beq_eq_false rfl)
                have n370 : bf ≠ eo := hne k_bfq k_eoq (Nat.ne_of_beq_eq_false rfl)
                have h371 : f281 bf = some (.inl (cI G, 3, .inl (nf fl))) := k284.1 _ _ h367 (Nat.ne_of_beq_eq_false rfl) (ninc n370 (ninc n369 (ninc n368 nin0)))
                have n372 : bl ≠ nr0 := hne k_blq k_nr0q (Nat.ne_of_beq_eq_false rfl)
                have n373 : bl ≠ nq0 := hneL k_blq k_nq0q (Nat.ne_of_beq_eq_false rfl)
                have n374 : bl ≠ ez := hne k_blq k_ezq (Nat.ne_of_beq_eq_false rfl)
                have h375 : f3 bl = some (.inl (cI G, 3, .inl gl)) := k251.1 _ _ k_blq (Nat.ne_of_beq_eq_false rfl) (ninc n374 (ninc n373 (ninc n372 nin0)))
                have n376 : bl ≠ nr1 := hne k_blq k_nr1q (Nat.ne_of_beq_eq_false rfl)
                have n377 : bl ≠ nq1 := hneL k_blq k_nq1q (Nat.ne_of_beq_eq_false rfl)
                have n378 : bl ≠ eo := hne k_blq k_eoq (Nat.ne_of_beq_eq_false rfl)
                have h379 : f281 bl = some (.inl (cI G, 3, .inl gl)) := k284.1 _ _ h375 (Nat.ne_of_beq_eq_false rfl) (ninc n378 (ninc n377 (ninc n376 nin0)))
                have n380 : bg ≠ nr0 := hne k_bgq k_nr0q (Nat.ne_of_beq_eq_false rfl)
                have n381 : bg ≠ nq0 := hneL k_bgq k_nq0q (Nat.ne_of_beq_eq_false rfl)
                have n382 : bg ≠ ez := hne k_bgq k_ezq (Nat.ne_of_beq_eq_false rfl)
                have h383 : f3 bg = some (.inl (cI G, 60, .inl (nf gv))) := k251.1 _ _ k_bgq (Nat.ne_of_beq_eq_false rfl) (ninc n382 (ninc n381 (ninc n380 nin0)))
                have n384 : bg ≠ nr1 := hne k_bgq k_nr1q (Nat.ne_of_beq_eq_false rfl)
                have n385 : bg ≠ nq1 := hneL k_bgq k_nq1q (Nat.ne_of_beq_eq_false rfl)
                have n386 : bg ≠ eo := hne k_bgq k_eoq (Nat.ne_of_beq_eq_false rfl)
                have h387 : f281 bg = some (.inl (cI G, 60, .inl (nf gv))) := k284.1 _ _ h383 (Nat.ne_of_beq_eq_false rfl) (ninc n386 (ninc n385 (ninc n384 nin0)))
                exact hp_cs (by omega) (by omega) (ih _ _ H locs ls ⟨_, ⟨h307, ⟨_, _, _, _, _, _, _, _, _, _, h301, h302, h303, (h265.kp (show hKp [xo, ez, eo, bu, nw0, na0, nq0, nr0, nw1, na1, nq1, nr1, bs, bp, bh, bf, bl, bg] f3 f281 from (k284.mono (fun x9 hx9 => by simp only [List.mem_cons, List.not_mem_nil, or_false] at hx9; rcases hx9 with hx9 | hx9 | hx9 <;> (rw [hx9]; simp))))), (h266.kp (show hKp [xo, ez, eo, bu, nw0, na0, nq0, nr0, nw1, na1, nq1, nr1, bs, bp, bh, bf, bl, bg] f3 f281 from (k284.mono (fun x9 hx9 => by simp only [List.mem_cons, List.not_mem_nil, or_false] at hx9; rcases hx9 with hx9 | hx9 | hx9 <;> (rw [hx9]; simp))))), h267⟩, ⟨_, _, _, _, _, _, _, _, _, _, h295, h296, h297, h298, h299, h300⟩, h313, h319, h325, h331, h339, h347, h355, h363, h371, h379, h387, p283, hB9q, hfl9q, nd_ez_eo, nd_nr0_nr1, nd_nw0_na0, nd_nw0_nq0, nd_nw0_nw1, nd_nw0_na1, nd_nw0_nq1, nd_na0_nq0, nd_na0_nw1, nd_na0_na1, nd_na0_nq1, nd_nq0_nw1, nd_nq0_na1, nd_nq0_nq1, nd_nw1_na1, nd_nw1_nq1, nd_na1_nq1, nd_bh_bp, nd_bf_bl⟩, ((show hKp [xo, ez, eo, bu, nw0, na0, nq0, nr0, nw1, na1, nq1, nr1, bs, bp, bh, bf, bl, bg] f f9 from (hk9.mono (fun x9 hx9 => by simp only [List.mem_cons, List.not_mem_nil, or_false] at hx9; rcases hx9 with hx9 | hx9 | hx9 | hx9 | hx9 | hx9 | hx9 | hx9 | hx9 | hx9 | hx9 | hx9 | hx9 | hx9 | hx9 | hx9 | hx9 | hx9 <;> (rw [hx9]; simp)))).tr ((show hKp [xo, ez, eo, bu, nw0, na0, nq0, nr0, nw1, na1, nq1, nr1, bs, bp, bh, bf, bl, bg] f9 f3 from (k251.mono (fun x9 hx9 => by simp only [List.mem_cons, List.not_mem_nil, or_false] at hx9; rcases hx9 with hx9 | hx9 | hx9 <;> (rw [hx9]; simp)))).tr (show hKp [xo, ez, eo, bu, nw0, na0, nq0, nr0, nw1, na1, nq1, nr1, bs, bp, bh, bf, bl, bg] f3 f281 from (k284.mono (fun x9 hx9 => by simp only [List.mem_cons, List.not_mem_nil, or_false] at hx9; rcases hx9 with hx9 | hx9 | hx9 <;> (rw [hx9]; simp)))))), rfl⟩ hw hS (lv_sub hl9 [0, 2, 3, 1] rfl))
              · subst ev9
                have hP := hr9
                obtain ⟨h388, p389, k390⟩ := hP
                obtain ⟨st391, tm392, sr393, li394, lp395, mi396, cn397, gq398, hd399, tl400, h401, h402, h403, h404, h405, h406⟩ := h388
                refine W.eq (g2 := F0 m 56 ls [.int 1, .int (k9 + 1)]) rfl ?_
                refine lv_if_eq (tgt := 63) hx hb dX4_pass_56 (by decide) (fun c9 => absurd c9 (by decide)) (fun _ => ?_)
                refine lv_iconst (v := 1) hx hb dX4_pass_59 (by decide) ?_
                refine lv_goto (tgt := 64) hx hb dX4_pass_60 (by decide) ?_
                refine lv_iadd hx hb dX4_pass_64 ?_
                refine lv_istore_n (lv' := [(2, .int ((k9 + 1) + 1)), (3, .int (nI j)), (0, .ref xo), (1, .int xv)]) hx hb dX4_pass_65 rfl hl9 (by decide) rfl (fun ls hl9 => ?_)
                refine lv_iinc (v := (nI (j + 1))) (lv' := [(3, .int (nI (j + 1))), (2, .int ((k9 + 1) + 1)), (0, .ref xo), (1, .int xv)]) hx hb dX4_pass_66 hl9 (k := 1) rfl (nI_1 j) (by decide) rfl (fun ls hl9 => ?_)
                refine lv_goto (tgt := 25) hx hb dX4_pass_69 (by decide) ?_
                have h407 : f281 ez = some (.inr (1, [.ref nw0, .ref na0, .ref nq0, .ref nr0, .int mg0, .int st252, .int tm253, .int sr254, .int li255, .int lp256, .int mi257])) := k390.1 _ _ h262 (Nat.ne_of_beq_eq_false rfl) (ninc nd_ez_eo (ninc (Ne.symm n276) (ninc (Ne.symm n279) nin0)))
                have h408 : f281 nq0 = some (.inl (cI G, 6, .inl gq259)) := k390.1 _ _ h263 (Nat.ne_of_beq_eq_false rfl) (ninc (Ne.symm n273) (ninc nd_nq0_nq1 (ninc (Ne.symm n278) nin0)))
                have h409 : f281 nr0 = some (.inr (3, [hd260, tl261, .int cn258])) := k390.1 _ _ h264 (Nat.ne_of_beq_eq_false rfl) (ninc (Ne.symm n272) (ninc (Ne.symm n275) (ninc nd_nr0_nr1 nin0)))
                have n410 : xo ≠ nr1 := hne k_xoq k_nr1q (Nat.ne_of_beq_eq_false rfl)
                have n411 : xo ≠ nq1 := hne k_xoq k_nq1q (Nat.ne_of_beq_eq_false rfl)
                have n412 : xo ≠ eo := hne k_xoq k_eoq (Nat.ne_of_beq_eq_false rfl)
                have h413 : f281 xo = some (.inr (4, [.ref ez, .ref eo, .ref bu])) := k390.1 _ _ h271 (Nat.ne_of_beq_eq_false rfl) (ninc n412 (ninc n411 (ninc n410 nin0)))
                have n414 : nw0 ≠ nr0 := hne k_nw0q k_nr0q (Nat.ne_of_beq_eq_false rfl)
                have n415 : nw0 ≠ ez := hne k_nw0q k_ezq (Nat.ne_of_beq_eq_false rfl)
                have h416 : f3 nw0 = some (.inl (cI G, 6, .inl gw0)) := k251.1 _ _ k_nw0q (Nat.ne_of_beq_eq_false rfl) (ninc n415 (ninc nd_nw0_nq0 (ninc n414 nin0)))
                have n417 : nw0 ≠ nr1 := hne k_nw0q k_nr1q (Nat.ne_of_beq_eq_false rfl)
                have n418 : nw0 ≠ eo := hne k_nw0q k_eoq (Nat.ne_of_beq_eq_false rfl)
                have h419 : f281 nw0 = some (.inl (cI G, 6, .inl gw0)) := k390.1 _ _ h416 (Nat.ne_of_beq_eq_false rfl) (ninc n418 (ninc nd_nw0_nq1 (ninc n417 nin0)))
                have n420 : na0 ≠ nr0 := hne k_na0q k_nr0q (Nat.ne_of_beq_eq_false rfl)
                have n421 : na0 ≠ ez := hne k_na0q k_ezq (Nat.ne_of_beq_eq_false rfl)
                have h422 : f3 na0 = some (.inl (cI G, 6, .inl ga0)) := k251.1 _ _ k_na0q (Nat.ne_of_beq_eq_false rfl) (ninc n421 (ninc nd_na0_nq0 (ninc n420 nin0)))
                have n423 : na0 ≠ nr1 := hne k_na0q k_nr1q (Nat.ne_of_beq_eq_false rfl)
                have n424 : na0 ≠ eo := hne k_na0q k_eoq (Nat.ne_of_beq_eq_false rfl)
                have h425 : f281 na0 = some (.inl (cI G, 6, .inl ga0)) := k390.1 _ _ h422 (Nat.ne_of_beq_eq_false rfl) (ninc n424 (ninc nd_na0_nq1 (ninc n423 nin0)))
                have n426 : nw1 ≠ nr0 := hne k_nw1q k_nr0q (Nat.ne_of_beq_eq_false rfl)
                have n427 : nw1 ≠ ez := hne k_nw1q k_ezq (Nat.ne_of_beq_eq_false rfl)
                have h428 : f3 nw1 = some (.inl (cI G, 6, .inl gw1)) := k251.1 _ _ k_nw1q (Nat.ne_of_beq_eq_false rfl) (ninc n427 (ninc (Ne.symm nd_nq0_nw1) (ninc n426 nin0)))
                have n429 : nw1 ≠ nr1 := hne k_nw1q k_nr1q (Nat.ne_of_beq_eq_false rfl)
                have n430 : nw1 ≠ eo := hne k_nw1q k_eoq (Nat.ne_of_beq_eq_false rfl)
                have h431 : f281 nw1 = some (.inl (cI G, 6, .inl gw1)) := k390.1 _ _ h428 (Nat.ne_of_beq_eq_false rfl) (ninc n430 (ninc nd_nw1_nq1 (ninc n429 nin0)))
                have n432 : na1 ≠ nr0 := hne k_na1q k_nr0q (Nat.ne_of_beq_eq_false rfl)
                have n433 : na1 ≠ ez := hne k_na1q k_ezq (Nat.ne_of_beq_eq_false rfl)
                have h434 : f3 na1 = some (.inl (cI G, 6, .inl ga1)) := k251.1 _ _ k_na1q (Nat.ne_of_beq_eq_false rfl) (ninc n433 (ninc (Ne.symm nd_nq0_na1) (ninc n432 nin0)))
                have n435 : na1 ≠ nr1 := hne k_na1q k_nr1q (Nat.ne_of_beq_eq_false rfl)
                have n436 : na1 ≠ eo := hne k_na1q k_eoq (Nat.ne_of_beq_eq_false rfl)
                have h437 : f281 na1 = some (.inl (cI G, 6, .inl ga1)) := k390.1 _ _ h434 (Nat.ne_of_beq_eq_false rfl) (ninc n436 (ninc nd_na1_nq1 (ninc n435 nin0)))
                have n438 : bu ≠ nr0 := hne k_buq k_nr0q (Nat.ne_of_beq_eq_false rfl)
                have n439 : bu ≠ nq0 := hne k_buq k_nq0q (Nat.ne_of_beq_eq_false rfl)
                have n440 : bu ≠ ez := hne k_buq k_ezq (Nat.ne_of_beq_eq_false rfl)
                have h441 : f3 bu = some (.inr (0, [.ref bs, .ref bp, .ref bh, .ref bf, .ref bl, .ref bg, .int (nI n), .int (nI cg), .int (nI x)])) := k251.1 _ _ k_buq (Nat.ne_of_beq_eq_false rfl) (ninc n440 (ninc n439 (ninc n438 nin0)))
                have n442 : bu ≠ nr1 := hne k_buq k_nr1q (Nat.ne_of_beq_eq_false rfl)
                have n443 : bu ≠ nq1 := hne k_buq k_nq1q (Nat.ne_of_beq_eq_false rfl)
                have n444 : bu ≠ eo := hne k_buq k_eoq (Nat.ne_of_beq_eq_false rfl)
                have h445 : f281 bu = some (.inr (0, [.ref bs, .ref bp, .ref bh, .ref bf, .ref bl, .ref bg, .int (nI n), .int (nI cg), .int (nI x)])) := k390.1 _ _ h441 (Nat.ne_of_beq_eq_false rfl) (ninc n444 (ninc n443 (ninc n442 nin0)))
                have n446 : bs ≠ nr0 := hne k_bsq k_nr0q (Nat.ne_of_beq_eq_false rfl)
                have n447 : bs ≠ nq0 := hneL k_bsq k_nq0q (Nat.ne_of_beq_eq_false rfl)
                have n448 : bs ≠ ez := hne k_bsq k_ezq (Nat.ne_of_beq_eq_false rfl)
                have h449 : f3 bs = some (.inl (cI G, 61, .inl (nf sa))) := k251.1 _ _ k_bsq (Nat.ne_of_beq_eq_false rfl) (ninc n448 (ninc n447 (ninc n446 nin0)))
                have n450 : bs ≠ nr1 := hne k_bsq k_nr1q (Nat.ne_of_beq_eq_false rfl)
                have n451 : bs ≠ nq1 := hneL k_bsq k_nq1q (Nat.ne_of_beq_eq_false rfl)
                have n452 : bs ≠ eo := hne k_bsq k_eoq (Nat.ne_of_beq_eq_false rfl)
                have h453 : f281 bs = some (.inl (cI G, 61, .inl (nf sa))) := k390.1 _ _ h449 (Nat.ne_of_beq_eq_false rfl) (ninc n452 (ninc n451 (ninc n450 nin0)))
                have n454 : bp ≠ nr0 := hne k_bpq k_nr0q (Nat.ne_of_beq_eq_false rfl)
                have n455 : bp ≠ nq0 := hneL k_bpq k_nq0q (Nat.ne_of_beq_eq_false rfl)
                have n456 : bp ≠ ez := hne k_bpq k_ezq (Nat.ne_of_beq_eq_false rfl)
                have h457 : f3 bp = some (.inl (cI G, 240, .inl (nf pk))) := k251.1 _ _ k_bpq (Nat.ne_of_beq_eq_false rfl) (ninc n456 (ninc n455 (ninc n454 nin0)))
                have n458 : bp ≠ nr1 := hne k_bpq k_nr1q (Nat.ne_of_beq_eq_false rfl)
                have n459 : bp ≠ nq1 := hneL k_bpq k_nq1q (Nat.ne_of_beq_eq_false rfl)
                have n460 : bp ≠ eo := hne k_bpq k_eoq (Nat.ne_of_beq_eq_false rfl)
                have h461 : f281 bp = some (.inl (cI G, 240, .inl (nf pk))) := k390.1 _ _ h457 (Nat.ne_of_beq_eq_false rfl) (ninc n460 (ninc n459 (ninc n458 nin0)))
                have n462 : bh ≠ nr0 := hne k_bhq k_nr0q (Nat.ne_of_beq_eq_false rfl)
                have n463 : bh ≠ nq0 := hneL k_bhq k_nq0q (Nat.ne_of_beq_eq_false rfl)
                have n464 : bh ≠ ez := hne k_bhq k_ezq (Nat.ne_of_beq_eq_false rfl)
                have h465 : f3 bh = some (.inl (cZ G, 240, .inl gh)) := k251.1 _ _ k_bhq (Nat.ne_of_beq_eq_false rfl) (ninc n464 (ninc n463 (ninc n462 nin0)))
                have n466 : bh ≠ nr1 := hne k_bhq k_nr1q (Nat.ne_of_beq_eq_false rfl)
                have n467 : bh ≠ nq1 := hneL k_bhq k_nq1q (Nat.ne_of_beq_eq_false rfl)
                have n468 : bh ≠ eo := hne k_bhq k_eoq (Nat.ne_of_beq_eq_false rfl)
                have h469 : f281 bh = some (.inl (cZ G, 240, .inl gh)) := k390.1 _ _ h465 (Nat.ne_of_beq_eq_false rfl) (ninc n468 (ninc n467 (ninc n466 nin0)))
                have n470 : bf ≠ nr0 := hne k_bfq k_nr0q (Nat.ne_of_beq_eq_false rfl)
                have n471 : bf ≠ nq0 := hneL k_bfq k_nq0q (Nat.ne_of_beq_eq_false rfl)
                have n472 : bf ≠ ez := hne k_bfq k_ezq (Nat.ne_of_beq_eq_false rfl)
                have h473 : f3 bf = some (.inl (cI G, 3, .inl (nf fl))) := k251.1 _ _ k_bfq (Nat.ne_of_beq_eq_false rfl) (ninc n472 (ninc n471 (ninc n470 nin0)))
                have n474 : bf ≠ nr1 := hne k_bfq k_nr1q (Nat.ne_of_beq_eq_false rfl)
                have n475 : bf ≠ nq1 := hneL k_bfq k_nq1q (Nat.ne_of_beq_eq_false rfl)
                have n476 : bf ≠ eo := hne k_bfq k_eoq (Nat.ne_of_beq_eq_false rfl)
                have h477 : f281 bf = some (.inl (cI G, 3, .inl (nf fl))) := k390.1 _ _ h473 (Nat.ne_of_beq_eq_false rfl) (ninc n476 (ninc n475 (ninc n474 nin0)))
                have n478 : bl ≠ nr0 := hne k_blq k_nr0q (Nat.ne_of_beq_eq_false rfl)
                have n479 : bl ≠ nq0 := hneL k_blq k_nq0q (Nat.ne_of_beq_eq_false rfl)
                have n480 : bl ≠ ez := hne k_blq k_ezq (Nat.ne_of_beq_eq_false rfl)
                have h481 : f3 bl = some (.inl (cI G, 3, .inl gl)) := k251.1 _ _ k_blq (Nat.ne_of_beq_eq_false rfl) (ninc n480 (ninc n479 (ninc n478 nin0)))
                have n482 : bl ≠ nr1 := hne k_blq k_nr1q (Nat.ne_of_beq_eq_false rfl)
                have n483 : bl ≠ nq1 := hneL k_blq k_nq1q (Nat.ne_of_beq_eq_false rfl)
                have n484 : bl ≠ eo := hne k_blq k_eoq (Nat.ne_of_beq_eq_false rfl)
                have h485 : f281 bl = some (.inl (cI G, 3, .inl gl)) := k390.1 _ _ h481 (Nat.ne_of_beq_eq_false rfl) (ninc n484 (ninc n483 (ninc n482 nin0)))
                have n486 : bg ≠ nr0 := hne k_bgq k_nr0q (Nat.ne_of_beq_eq_false rfl)
                have n487 : bg ≠ nq0 := hneL k_bgq k_nq0q (Nat.ne_of_beq_eq_false rfl)
                have n488 : bg ≠ ez := hne k_bgq k_ezq (Nat.ne_of_beq_eq_false rfl)
                have h489 : f3 bg = some (.inl (cI G, 60, .inl (nf gv))) := k251.1 _ _ k_bgq (Nat.ne_of_beq_eq_false rfl) (ninc n488 (ninc n487 (ninc n486 nin0)))
                have n490 : bg ≠ nr1 := hne k_bgq k_nr1q (Nat.ne_of_beq_eq_false rfl)
                have n491 : bg ≠ nq1 := hneL k_bgq k_nq1q (Nat.ne_of_beq_eq_false rfl)
                have n492 : bg ≠ eo := hne k_bgq k_eoq (Nat.ne_of_beq_eq_false rfl)
                have h493 : f281 bg = some (.inl (cI G, 60, .inl (nf gv))) := k390.1 _ _ h489 (Nat.ne_of_beq_eq_false rfl) (ninc n492 (ninc n491 (ninc n490 nin0)))
                exact hp_cs (by omega) (by omega) (ih _ _ H locs ls ⟨_, ⟨h413, ⟨_, _, _, _, _, _, _, _, _, _, h407, h408, h409, (h265.kp (show hKp [xo, ez, eo, bu, nw0, na0, nq0, nr0, nw1, na1, nq1, nr1, bs, bp, bh, bf, bl, bg] f3 f281 from (k390.mono (fun x9 hx9 => by simp only [List.mem_cons, List.not_mem_nil, or_false] at hx9; rcases hx9 with hx9 | hx9 | hx9 <;> (rw [hx9]; simp))))), (h266.kp (show hKp [xo, ez, eo, bu, nw0, na0, nq0, nr0, nw1, na1, nq1, nr1, bs, bp, bh, bf, bl, bg] f3 f281 from (k390.mono (fun x9 hx9 => by simp only [List.mem_cons, List.not_mem_nil, or_false] at hx9; rcases hx9 with hx9 | hx9 | hx9 <;> (rw [hx9]; simp))))), h267⟩, ⟨_, _, _, _, _, _, _, _, _, _, h401, h402, h403, h404, h405, h406⟩, h419, h425, h431, h437, h445, h453, h461, h469, h477, h485, h493, p389, hB9q, hfl9q, nd_ez_eo, nd_nr0_nr1, nd_nw0_na0, nd_nw0_nq0, nd_nw0_nw1, nd_nw0_na1, nd_nw0_nq1, nd_na0_nq0, nd_na0_nw1, nd_na0_na1, nd_na0_nq1, nd_nq0_nw1, nd_nq0_na1, nd_nq0_nq1, nd_nw1_na1, nd_nw1_nq1, nd_na1_nq1, nd_bh_bp, nd_bf_bl⟩, ((show hKp [xo, ez, eo, bu, nw0, na0, nq0, nr0, nw1, na1, nq1, nr1, bs, bp, bh, bf, bl, bg] f f9 from (hk9.mono (fun x9 hx9 => by simp only [List.mem_cons, List.not_mem_nil, or_false] at hx9; rcases hx9 with hx9 | hx9 | hx9 | hx9 | hx9 | hx9 | hx9 | hx9 | hx9 | hx9 | hx9 | hx9 | hx9 | hx9 | hx9 | hx9 | hx9 | hx9 <;> (rw [hx9]; simp)))).tr ((show hKp [xo, ez, eo, bu, nw0, na0, nq0, nr0, nw1, na1, nq1, nr1, bs, bp, bh, bf, bl, bg] f9 f3 from (k251.mono (fun x9 hx9 => by simp only [List.mem_cons, List.not_mem_nil, or_false] at hx9; rcases hx9 with hx9 | hx9 | hx9 <;> (rw [hx9]; simp)))).tr (show hKp [xo, ez, eo, bu, nw0, na0, nq0, nr0, nw1, na1, nq1, nr1, bs, bp, bh, bf, bl, bg] f3 f281 from (k390.mono (fun x9 hx9 => by simp only [List.mem_cons, List.not_mem_nil, or_false] at hx9; rcases hx9 with hx9 | hx9 | hx9 <;> (rw [hx9]; simp)))))), rfl⟩ hw hS (lv_sub hl9 [0, 2, 3, 1] rfl))
      · obtain ⟨k9, hC9, hk9, el9⟩ := hI
        rw [el9] at hl9
        obtain ⟨k_xoq, ⟨st0q, tm0q, sr0q, li0q, lp0q, mi0q, cn0q, gq0q, hd0q, tl0q, k_ezq, k_nq0q, k_nr0q, fhd0q, ftl0q, blp0q⟩, ⟨st1q, tm1q, sr1q, li1q, lp1q, mi1q, cn1q, gq1q, hd1q, tl1q, k_eoq, k_nq1q, k_nr1q, fhd1q, ftl1q, blp1q⟩, k_nw0q, k_na0q, k_nw1q, k_na1q, k_buq, k_bsq, k_bpq, k_bhq, k_bfq, k_blq, k_bgq, hPxq, hB9q, hfl9q, nd_ez_eo, nd_nr0_nr1, nd_nw0_na0, nd_nw0_nq0, nd_nw0_nw1, nd_nw0_na1, nd_nw0_nq1, nd_na0_nq0, nd_na0_nw1, nd_na0_na1, nd_na0_nq1, nd_nq0_nw1, nd_nq0_na1, nd_nq0_nq1, nd_nw1_na1, nd_nw1_nq1, nd_na1_nq1, nd_bh_bp, nd_bf_bl⟩ := id hC9
        refine lv_iload_n hx hb dX4_pass_25 rfl (lv_at hl9 0 rfl) ?_
        refine lv_iload_n hx hb dX4_pass_26 rfl (lv_at hl9 2 rfl) ?_
        refine lv_icmp_ge (tgt := 72) hx hb dX4_pass_27 (by decide) (fun _ => ?_) (fun c9 => absurd (by rw [eT]; exact nI_le (Nat.le_refl _) (by omega)) c9)
        refine lv_iload_n hx hb dX4_pass_72 rfl (lv_at hl9 3 rfl) ?_
        exact hp_iret (v := k9) B0 hw hS hr ⟨(by first | omega | (dsimp only; omega)), (by first | omega | (dsimp only; omega))⟩ dX4_pass_73 (⟨⟨_, rfl⟩, ⟨k_xoq, ⟨_, _, _, _, _, _, _, _, _, _, k_ezq, k_nq0q, k_nr0q, fhd0q, ftl0q, blp0q⟩, ⟨_, _, _, _, _, _, _, _, _, _, k_eoq, k_nq1q, k_nr1q, fhd1q, ftl1q, blp1q⟩, k_nw0q, k_na0q, k_nw1q, k_na1q, k_buq, k_bsq, k_bpq, k_bhq, k_bfq, k_blq, k_bgq, hPxq, hB9q, hfl9q, nd_ez_eo, nd_nr0_nr1, nd_nw0_na0, nd_nw0_nq0, nd_nw0_nw1, nd_nw0_na1, nd_nw0_nq1, nd_na0_nq0, nd_na0_nw1, nd_na0_na1, nd_na0_nq1, nd_nq0_nw1, nd_nq0_na1, nd_nq0_nq1, nd_nw1_na1, nd_nw1_nq1, nd_na1_nq1, nd_bh_bp, nd_bf_bl⟩, (show hKp [xo, ez, eo, bu, nw0, na0, nq0, nr0, nw1, na1, nq1, nr1, bs, bp, bh, bf, bl, bg] f f9 from (hk9.mono (fun x9 hx9 => by simp only [List.mem_cons, List.not_mem_nil, or_false] at hx9; rcases hx9 with hx9 | hx9 | hx9 | hx9 | hx9 | hx9 | hx9 | hx9 | hx9 | hx9 | hx9 | hx9 | hx9 | hx9 | hx9 | hx9 | hx9 | hx9 <;> (rw [hx9]; simp))))⟩)
    · exact hp_throw (cls := eA) (names := tNm) B0 hw hS hout tF_eA qC_X4_35 qN_java_lang_IllegalArgumentException sR_X4_89 tA_eA tB_eA tG_eA hl9.1 dX4_pass_11 dX4_pass_14 dX4_pass_15 dX4_pass_17 dX4_pass_20 ⟨⟨Nat.le_of_ble_eq_true rfl, Nat.le_of_ble_eq_true rfl⟩, Nat.le_of_ble_eq_true rfl, Nat.le_of_ble_eq_true rfl⟩ ⟨Nat.le_of_ble_eq_true rfl, Nat.le_of_ble_eq_true rfl⟩ (⟨rfl, ⟨k_xo, ⟨_, _, _, _, _, _, _, _, _, _, k_ez, k_nq0, k_nr0, fhd0, ftl0, blp0⟩, ⟨_, _, _, _, _, _, _, _, _, _, k_eo, k_nq1, k_nr1, fhd1, ftl1, blp1⟩, k_nw0, k_na0, k_nw1, k_na1, k_bu, k_bs, k_bp, k_bh, k_bf, k_bl, k_bg, hPx, hB9, hfl9, nd_ez_eo, nd_nr0_nr1, nd_nw0_na0, nd_nw0_nq0, nd_nw0_nw1, nd_nw0_na1, nd_nw0_nq1, nd_na0_nq0, nd_na0_nw1, nd_na0_na1, nd_na0_nq1, nd_nq0_nw1, nd_nq0_na1, nd_nq0_nq1, nd_nw1_na1, nd_nw1_nq1, nd_na1_nq1, nd_bh_bp, nd_bf_bl⟩, hKp.rf⟩)

def selE (i : Int32) (x y : Nat → Int32) (k : Nat) : Int32 := if i = 0 then x k else y k
theorem selE_0 {i : Int32} (h : i = 0) (x y : Nat → Int32) (k : Nat) : selE i x y k = x k := if_pos h
theorem selE_1 {i : Int32} (h : i = 1) (x y : Nat → Int32) (k : Nat) : selE i x y k = y k := if_neg (by rw [h]; decide)
theorem fl_up {fl : Nat → Nat} {k : Nat} (h : ∀ j, j < 3 → fl j < 243) (hk : fl k < 240) : ∀ j, j < 3 → va_up fl k (fl k + 3) j < 243 := by
  intro j hj
  by_cases z : j = k
  · rw [z, va_up_self]; omega
  · rw [va_up_ne _ _ z]; exact h j hj
set_option maxHeartbeats 4000000 in
set_option maxRecDepth 100000 in
theorem c_W4_wish {l : Launch} (hl : l.stackTraces = false) (G : hG) (f : hM) (xo ez eo bu nw0 na0 nq0 nr0 nw1 na1 nq1 nr1 bs bp bh bf bl bg : Nat) (gw0 : Nat → Int32) (ga0 : Nat → Int32) (gw1 : Nat → Int32) (ga1 : Nat → Int32) (mg0 : Int32) (mg1 : Int32) (n : Nat) (a : Nat) (cg : Nat) (x : Nat) (sa : Nat → Nat) (pk : Nat → Nat) (fl : Nat → Nat) (gv : Nat → Nat) (gh : Nat → Int32) (gl : Nat → Int32) (hC : CW G f xo ez eo bu nw0 na0 nq0 nr0 nw1 na1 nq1 nr1 bs bp bh bf bl bg gw0 ga0 gw1 ga1 mg0 mg1 n a cg x sa pk fl gv gh gl) (i o xv : Int32) : CT l yX4_wish (.code yX4_wish cX4_wish 5 (some .int)) 7 103 3 18 G [.ref xo, .int i, .int o, .int xv] f (fun v f1 => spc (sE i ∧ sO o) (sV xv) = 0 ∧ v = some (.int (selE i gw0 gw1 o.toNatClampNeg)) ∧ CW G f1 xo ez eo bu nw0 na0 nq0 nr0 nw1 na1 nq1 nr1 bs bp bh bf bl bg (updE (i = 0) gw0 o.toNatClampNeg xv) ga0 (updE (i = 1) gw1 o.toNatClampNeg xv) ga1 mg0 mg1 n a cg x sa pk fl gv gh gl ∧ hKp [xo, ez, eo, bu, nw0, na0, nq0, nr0, nw1, na1, nq1, nr1, bs, bp, bh, bf, bl, bg] f f1) (fun E f1 => ((E = eI ∧ spc (sE i ∧ sO o) (sV xv) = 1) ∨ (E = eA ∧ spc (sE i ∧ sO o) (sV xv) = 2)) ∧ CW G f1 xo ez eo bu nw0 na0 nq0 nr0 nw1 na1 nq1 nr1 bs bp bh bf bl bg gw0 ga0 gw1 ga1 mg0 mg1 n a cg x sa pk fl gv gh gl ∧ hKp [xo, ez, eo, bu, nw0, na0, nq0, nr0, nw1, na1, nq1, nr1, bs, bp, bh, bf, bl, bg] f f1) := by
  refine hp_start hl (own := RX4) (by decide) rfl (Nat.le_of_ble_eq_true rfl) ?_
  intro p e s m args below meth c B0 hr hnm hout hw hS ls hl9
  have hx := B0.1
  have hb := B0.2.1
  have hl9 : lv_has ls 5 [(0, .ref xo), (1, .int i), (2, .int o), (3, .int xv)] := hl9
  obtain ⟨k_xo, ⟨st0, tm0, sr0, li0, lp0, mi0, cn0, gq0, hd0, tl0, k_ez, k_nq0, k_nr0, fhd0, ftl0, blp0⟩, ⟨st1, tm1, sr1, li1, lp1, mi1, cn1, gq1, hd1, tl1, k_eo, k_nq1, k_nr1, fhd1, ftl1, blp1⟩, k_nw0, k_na0, k_nw1, k_na1, k_bu, k_bs, k_bp, k_bh, k_bf, k_bl, k_bg, hPx, hB9, hfl9, nd_ez_eo, nd_nr0_nr1, nd_nw0_na0, nd_nw0_nq0, nd_nw0_nw1, nd_nw0_na1, nd_nw0_nq1, nd_na0_nq0, nd_na0_nw1, nd_na0_na1, nd_na0_nq1, nd_nq0_nw1, nd_nq0_na1, nd_nq0_nq1, nd_nw1_na1, nd_nw1_nq1, nd_na1_nq1, nd_bh_bp, nd_bf_bl⟩ := id hC
  refine lv_aload_n hx hb dX4_wish_0 rfl (lv_at hl9 0 rfl) ?_
  refine lv_iload_n hx hb dX4_wish_1 rfl (lv_at hl9 1 rfl) ?_
  refine hp_V (ci := 4) (As := [.int i]) (rest := []) B0 hw hS (c_X4_endAt hl G f xo ez eo bu k_xo i) mV_X4_endAt qM_X4_28 rfl k_xo rfl rfl hl9.1 (Nat.le_of_ble_eq_true rfl) ⟨⟨Nat.le_of_ble_eq_true rfl, Nat.le_of_ble_eq_true rfl⟩, Nat.le_of_ble_eq_true rfl, Nat.le_of_ble_eq_true rfl⟩ dX4_wish_2 (fun E ce q9 f1 H locs hPX hw hS hce hcv hcl => ?_) (fun v f1 H locs hP hw hS => ?_)
  · obtain ⟨ef9, eE9, hE9⟩ := hPX
    rw [ef9] at hw
    subst eE9
    exact hp_out B0 hw hS hout hce hcv hcl ⟨Nat.le_of_ble_eq_true rfl, Nat.le_of_ble_eq_true rfl⟩ ⟨(Or.inl ⟨rfl, (spc_1 (fun h9 => hE9 h9.1))⟩), ⟨k_xo, ⟨_, _, _, _, _, _, _, _, _, _, k_ez, k_nq0, k_nr0, fhd0, ftl0, blp0⟩, ⟨_, _, _, _, _, _, _, _, _, _, k_eo, k_nq1, k_nr1, fhd1, ftl1, blp1⟩, k_nw0, k_na0, k_nw1, k_na1, k_bu, k_bs, k_bp, k_bh, k_bf, k_bl, k_bg, hPx, hB9, hfl9, nd_ez_eo, nd_nr0_nr1, nd_nw0_na0, nd_nw0_nq0, nd_nw0_nw1, nd_nw0_na1, nd_nw0_nq1, nd_na0_nq0, nd_na0_nw1, nd_na0_na1, nd_na0_nq1, nd_nq0_nw1, nd_nq0_na1, nd_nq0_nq1, nd_nw1_na1, nd_nw1_nq1, nd_na1_nq1, nd_bh_bp, nd_bf_bl⟩, hKp.rf⟩
  · obtain ⟨ef9, hv9⟩ := hP
    rw [ef9] at hw
    rcases hv9 with ⟨k2, ev9⟩ | ⟨k2, ev9⟩
    · subst ev9
      refine W.eq (g2 := F0 m 5 ls [.ref ez]) rfl ?_
      refine lv_astore (lv' := [(4, .ref ez), (0, .ref xo), (1, .int i), (2, .int o), (3, .int xv)]) hx hb dX4_wish_5 hl9 (by decide) rfl (fun ls hl9 => ?_)
      refine lv_iload_n hx hb dX4_wish_7 rfl (lv_at hl9 3 rfl) ?_
      refine hp_S (As := [.int o]) (rest := []) B0 hw hS (c_X4_refuseNoOption hl G f o) mS_X4_refuseNoOption qM_X4_32 rfl rfl hl9.1 (Nat.le_of_ble_eq_true rfl) ⟨⟨Nat.le_of_ble_eq_true rfl, Nat.le_of_ble_eq_true rfl⟩, Nat.le_of_ble_eq_true rfl, Nat.le_of_ble_eq_true rfl⟩ dX4_wish_8 (fun E ce q9 f3 H locs hPX hw hS hce hcv hcl => ?_) (fun v f3 H locs hP hw hS => ?_)
      · obtain ⟨ef9, eE9, hE9⟩ := hPX
        rw [ef9] at hw
        subst eE9
        exact hp_out B0 hw hS hout hce hcv hcl ⟨Nat.le_of_ble_eq_true rfl, Nat.le_of_ble_eq_true rfl⟩ ⟨(Or.inl ⟨rfl, (spc_1 (fun h9 => hE9 h9.2))⟩), ⟨k_xo, ⟨_, _, _, _, _, _, _, _, _, _, k_ez, k_nq0, k_nr0, fhd0, ftl0, blp0⟩, ⟨_, _, _, _, _, _, _, _, _, _, k_eo, k_nq1, k_nr1, fhd1, ftl1, blp1⟩, k_nw0, k_na0, k_nw1, k_na1, k_bu, k_bs, k_bp, k_bh, k_bf, k_bl, k_bg, hPx, hB9, hfl9, nd_ez_eo, nd_nr0_nr1, nd_nw0_na0, nd_nw0_nq0, nd_nw0_nw1, nd_nw0_na1, nd_nw0_nq1, nd_na0_nq0, nd_na0_nw1, nd_na0_na1, nd_na0_nq1, nd_nq0_nw1, nd_nq0_na1, nd_nq0_nq1, nd_nw1_na1, nd_nw1_nq1, nd_na1_nq1, nd_bh_bp, nd_bf_bl⟩, hKp.rf⟩
      · obtain ⟨ef9, ev9, ho4⟩ := hP
        rw [ef9] at hw
        subst ev9
        refine W.eq (g2 := F0 m 11 ls []) rfl ?_
        refine lv_iload_n hx hb dX4_wish_11 rfl (lv_at hl9 4 rfl) ?_
        refine lv_iconst (v := (-1)) hx hb dX4_wish_12 (by decide) ?_
        refine lv_icmp_lt (tgt := 22) hx hb dX4_wish_13 (by decide) (fun c5 => ?_) (fun c5 => ?_)
        · exact hp_throw (cls := eA) (names := tNm) B0 hw hS hout tF_eA qC_X4_35 qN_java_lang_IllegalArgumentException sR_X4_37 tA_eA tB_eA tG_eA hl9.1 dX4_wish_22 dX4_wish_25 dX4_wish_26 dX4_wish_28 dX4_wish_31 ⟨⟨Nat.le_of_ble_eq_true rfl, Nat.le_of_ble_eq_true rfl⟩, Nat.le_of_ble_eq_true rfl, Nat.le_of_ble_eq_true rfl⟩ ⟨Nat.le_of_ble_eq_true rfl, Nat.le_of_ble_eq_true rfl⟩ (⟨(Or.inr ⟨rfl, (spc_2 ⟨(Or.inl k2), ho4⟩ (fun h9 => by have h1 := c5; simp only [jlt, jle, tq0, tq1, tq3, tq4, tq6, tq9, tq50, tq60, tq1023, tqm1] at h1; obtain ⟨h3, h4⟩ := h9; omega))⟩), ⟨k_xo, ⟨_, _, _, _, _, _, _, _, _, _, k_ez, k_nq0, k_nr0, fhd0, ftl0, blp0⟩, ⟨_, _, _, _, _, _, _, _, _, _, k_eo, k_nq1, k_nr1, fhd1, ftl1, blp1⟩, k_nw0, k_na0, k_nw1, k_na1, k_bu, k_bs, k_bp, k_bh, k_bf, k_bl, k_bg, hPx, hB9, hfl9, nd_ez_eo, nd_nr0_nr1, nd_nw0_na0, nd_nw0_nq0, nd_nw0_nw1, nd_nw0_na1, nd_nw0_nq1, nd_na0_nq0, nd_na0_nw1, nd_na0_na1, nd_na0_nq1, nd_nq0_nw1, nd_nq0_na1, nd_nq0_nq1, nd_nw1_na1, nd_nw1_nq1, nd_na1_nq1, nd_bh_bp, nd_bf_bl⟩, hKp.rf⟩)
        · refine lv_iload_n hx hb dX4_wish_16 rfl (lv_at hl9 4 rfl) ?_
          refine lv_bipush (v := 9) hx hb dX4_wish_17 (by decide) ?_
          refine lv_icmp_le (tgt := 32) hx hb dX4_wish_19 (by decide) (fun c6 => ?_) (fun c6 => ?_)
          · refine lv_aload hx hb dX4_wish_32 (lv_at hl9 0 rfl) ?_
            refine lv_iload_n hx hb dX4_wish_34 rfl (lv_at hl9 3 rfl) ?_
            refine lv_iload_n hx hb dX4_wish_35 rfl (lv_at hl9 4 rfl) ?_
            refine hp_V (ci := 1) (As := [.int o, .int xv]) (rest := []) B0 hw hS (c_X1_changeWish hl G f ez nw0 na0 nq0 nr0 mg0 st0 tm0 sr0 li0 lp0 mi0 k_ez gw0 k_nw0 o xv ho4 ) mV_X1_changeWish qM_X4_42 rfl k_ez rfl rfl hl9.1 (Nat.le_of_ble_eq_true rfl) ⟨⟨Nat.le_of_ble_eq_true rfl, Nat.le_of_ble_eq_true rfl⟩, Nat.le_of_ble_eq_true rfl, Nat.le_of_ble_eq_true rfl⟩ dX4_wish_36 (fun E ce q9 f7 H locs hPX hw hS hce hcv hcl => ?_) (fun v f7 H locs hP hw hS => ?_)
            · exact hPX.elim
            · obtain ⟨ho9, ev9, e8, k9⟩ := hP
              subst ev9
              have h10 : f7 nw0 = some (.inl (cI G, 6, .inl (upd gw0 (o : Int32).toNatClampNeg xv))) := by rw [e8, va_up_self]
              refine W.eq (g2 := F0 m 39 ls [.int (gw0 (o : Int32).toNatClampNeg)]) rfl ?_
              have p11 : PoolX G [] f7 := by rw [e8]; exact px_upd hPx k_nw0 (Nat.ne_of_beq_eq_false rfl) (Nat.ne_of_beq_eq_false rfl) (fun g9 h9 => ⟨_, rfl⟩)
              have n13 : ez ≠ nw0 := hne k_ez k_nw0 (Nat.ne_of_beq_eq_false rfl)
              have h12 : f7 ez = some (.inr (1, [.ref nw0, .ref na0, .ref nq0, .ref nr0, .int mg0, .int st0, .int tm0, .int sr0, .int li0, .int lp0, .int mi0])) := by rw [e8, va_up_ne _ _ n13]; exact k_ez
              have h14 : f7 nq0 = some (.inl (cI G, 6, .inl gq0)) := by rw [e8, va_up_ne _ _ (Ne.symm nd_nw0_nq0)]; exact k_nq0
              have n16 : nr0 ≠ nw0 := hne k_nr0 k_nw0 (Nat.ne_of_beq_eq_false rfl)
              have h15 : f7 nr0 = some (.inr (3, [hd0, tl0, .int cn0])) := by rw [e8, va_up_ne _ _ n16]; exact k_nr0
              have n18 : eo ≠ nw0 := hne k_eo k_nw0 (Nat.ne_of_beq_eq_false rfl)
              have h17 : f7 eo = some (.inr (1, [.ref nw1, .ref na1, .ref nq1, .ref nr1, .int mg1, .int st1, .int tm1, .int sr1, .int li1, .int lp1, .int mi1])) := by rw [e8, va_up_ne _ _ n18]; exact k_eo
              have h19 : f7 nq1 = some (.inl (cI G, 6, .inl gq1)) := by rw [e8, va_up_ne _ _ (Ne.symm nd_nw0_nq1)]; exact k_nq1
              have n21 : nr1 ≠ nw0 := hne k_nr1 k_nw0 (Nat.ne_of_beq_eq_false rfl)
              have h20 : f7 nr1 = some (.inr (3, [hd1, tl1, .int cn1])) := by rw [e8, va_up_ne _ _ n21]; exact k_nr1
              have n23 : xo ≠ nw0 := hne k_xo k_nw0 (Nat.ne_of_beq_eq_false rfl)
              have h22 : f7 xo = some (.inr (4, [.ref ez, .ref eo, .ref bu])) := by rw [e8, va_up_ne _ _ n23]; exact k_xo
              have h24 : f7 na0 = some (.inl (cI G, 6, .inl ga0)) := by rw [e8, va_up_ne _ _ (Ne.symm nd_nw0_na0)]; exact k_na0
              have h25 : f7 nw1 = some (.inl (cI G, 6, .inl gw1)) := by rw [e8, va_up_ne _ _ (Ne.symm nd_nw0_nw1)]; exact k_nw1
              have h26 : f7 na1 = some (.inl (cI G, 6, .inl ga1)) := by rw [e8, va_up_ne _ _ (Ne.symm nd_nw0_na1)]; exact k_na1
              have n28 : bu ≠ nw0 := hne k_bu k_nw0 (Nat.ne_of_beq_eq_false rfl)
              have h27 : f7 bu = some (.inr (0, [.ref bs, .ref bp, .ref bh, .ref bf, .ref bl, .ref bg, .int (nI n), .int (nI cg), .int (nI x)])) := by rw [e8, va_up_ne _ _ n28]; exact k_bu
              have n30 : bs ≠ nw0 := hneL k_bs k_nw0 (Nat.ne_of_beq_eq_false rfl)
              have h29 : f7 bs = some (.inl (cI G, 61, .inl (nf sa))) := by rw [e8, va_up_ne _ _ n30]; exact k_bs
              have n32 : bp ≠ nw0 := hneL k_bp k_nw0 (Nat.ne_of_beq_eq_false rfl)
              have h31 : f7 bp = some (.inl (cI G, 240, .inl (nf pk))) := by rw [e8, va_up_ne _ _ n32]; exact k_bp
              have n34 : bh ≠ nw0 := hneL k_bh k_nw0 (Nat.ne_of_beq_eq_false rfl)
              have h33 : f7 bh = some (.inl (cZ G, 240, .inl gh)) := by rw [e8, va_up_ne _ _ n34]; exact k_bh
              have n36 : bf ≠ nw0 := hneL k_bf k_nw0 (Nat.ne_of_beq_eq_false rfl)
              have h35 : f7 bf = some (.inl (cI G, 3, .inl (nf fl))) := by rw [e8, va_up_ne _ _ n36]; exact k_bf
              have n38 : bl ≠ nw0 := hneL k_bl k_nw0 (Nat.ne_of_beq_eq_false rfl)
              have h37 : f7 bl = some (.inl (cI G, 3, .inl gl)) := by rw [e8, va_up_ne _ _ n38]; exact k_bl
              have n40 : bg ≠ nw0 := hneL k_bg k_nw0 (Nat.ne_of_beq_eq_false rfl)
              have h39 : f7 bg = some (.inl (cI G, 60, .inl (nf gv))) := by rw [e8, va_up_ne _ _ n40]; exact k_bg
              exact hp_iret (v := (gw0 (o : Int32).toNatClampNeg)) B0 hw hS hr ⟨Nat.le_of_ble_eq_true rfl, Nat.le_of_ble_eq_true rfl⟩ dX4_wish_39 (⟨spc_0 ⟨(Or.inl k2), ho4⟩ (by have h1 := c5; have h2 := c6; simp only [jlt, jle, tq0, tq1, tq3, tq4, tq6, tq9, tq50, tq60, tq1023, tqm1] at h1 h2; exact ⟨by omega, by omega⟩), (by rw [selE_0 k2]), ⟨h22, ⟨_, _, _, _, _, _, _, _, _, _, h12, h14, h15, (fhd0.kp (show hKp [xo, ez, eo, bu, nw0, na0, nq0, nr0, nw1, na1, nq1, nr1, bs, bp, bh, bf, bl, bg] f f7 from (by rw [e8]; exact hKp.up k_nw0 (Nat.ne_of_beq_eq_false rfl) (by simp)))), (ftl0.kp (show hKp [xo, ez, eo, bu, nw0, na0, nq0, nr0, nw1, na1, nq1, nr1, bs, bp, bh, bf, bl, bg] f f7 from (by rw [e8]; exact hKp.up k_nw0 (Nat.ne_of_beq_eq_false rfl) (by simp)))), blp0⟩, ⟨_, _, _, _, _, _, _, _, _, _, h17, h19, h20, (fhd1.kp (show hKp [xo, ez, eo, bu, nw0, na0, nq0, nr0, nw1, na1, nq1, nr1, bs, bp, bh, bf, bl, bg] f f7 from (by rw [e8]; exact hKp.up k_nw0 (Nat.ne_of_beq_eq_false rfl) (by simp)))), (ftl1.kp (show hKp [xo, ez, eo, bu, nw0, na0, nq0, nr0, nw1, na1, nq1, nr1, bs, bp, bh, bf, bl, bg] f f7 from (by rw [e8]; exact hKp.up k_nw0 (Nat.ne_of_beq_eq_false rfl) (by simp)))), blp1⟩, (by rw [updE_1 k2]; exact h10), h24, (by rw [updE_0 (by rw [k2]; decide)]; exact h25), h26, h27, h29, h31, h33, h35, h37, h39, p11, hB9, hfl9, nd_ez_eo, nd_nr0_nr1, nd_nw0_na0, nd_nw0_nq0, nd_nw0_nw1, nd_nw0_na1, nd_nw0_nq1, nd_na0_nq0, nd_na0_nw1, nd_na0_na1, nd_na0_nq1, nd_nq0_nw1, nd_nq0_na1, nd_nq0_nq1, nd_nw1_na1, nd_nw1_nq1, nd_na1_nq1, nd_bh_bp, nd_bf_bl⟩, (show hKp [xo, ez, eo, bu, nw0, na0, nq0, nr0, nw1, na1, nq1, nr1, bs, bp, bh, bf, bl, bg] f f7 from (by rw [e8]; exact hKp.up k_nw0 (Nat.ne_of_beq_eq_false rfl) (by simp)))⟩)
          · exact hp_throw (cls := eA) (names := tNm) B0 hw hS hout tF_eA qC_X4_35 qN_java_lang_IllegalArgumentException sR_X4_37 tA_eA tB_eA tG_eA hl9.1 dX4_wish_22 dX4_wish_25 dX4_wish_26 dX4_wish_28 dX4_wish_31 ⟨⟨Nat.le_of_ble_eq_true rfl, Nat.le_of_ble_eq_true rfl⟩, Nat.le_of_ble_eq_true rfl, Nat.le_of_ble_eq_true rfl⟩ ⟨Nat.le_of_ble_eq_true rfl, Nat.le_of_ble_eq_true rfl⟩ (⟨(Or.inr ⟨rfl, (spc_2 ⟨(Or.inl k2), ho4⟩ (fun h9 => by have h1 := c6; simp only [jlt, jle, tq0, tq1, tq3, tq4, tq6, tq9, tq50, tq60, tq1023, tqm1] at h1; obtain ⟨h3, h4⟩ := h9; omega))⟩), ⟨k_xo, ⟨_, _, _, _, _, _, _, _, _, _, k_ez, k_nq0, k_nr0, fhd0, ftl0, blp0⟩, ⟨_, _, _, _, _, _, _, _, _, _, k_eo, k_nq1, k_nr1, fhd1, ftl1, blp1⟩, k_nw0, k_na0, k_nw1, k_na1, k_bu, k_bs, k_bp, k_bh, k_bf, k_bl, k_bg, hPx, hB9, hfl9, nd_ez_eo, nd_nr0_nr1, nd_nw0_na0, nd_nw0_nq0, nd_nw0_nw1, nd_nw0_na1, nd_nw0_nq1, nd_na0_nq0, nd_na0_nw1, nd_na0_na1, nd_na0_nq1, nd_nq0_nw1, nd_nq0_na1, nd_nq0_nq1, nd_nw1_na1, nd_nw1_nq1, nd_na1_nq1, nd_bh_bp, nd_bf_bl⟩, hKp.rf⟩)
    · subst ev9
      refine W.eq (g2 := F0 m 5 ls [.ref eo]) rfl ?_
      refine lv_astore (lv' := [(4, .ref eo), (0, .ref xo), (1, .int i), (2, .int o), (3, .int xv)]) hx hb dX4_wish_5 hl9 (by decide) rfl (fun ls hl9 => ?_)
      refine lv_iload_n hx hb dX4_wish_7 rfl (lv_at hl9 3 rfl) ?_
      refine hp_S (As := [.int o]) (rest := []) B0 hw hS (c_X4_refuseNoOption hl G f o) mS_X4_refuseNoOption qM_X4_32 rfl rfl hl9.1 (Nat.le_of_ble_eq_true rfl) ⟨⟨Nat.le_of_ble_eq_true rfl, Nat.le_of_ble_eq_true rfl⟩, Nat.le_of_ble_eq_true rfl, Nat.le_of_ble_eq_true rfl⟩ dX4_wish_8 (fun E ce q9 f41 H locs hPX hw hS hce hcv hcl => ?_) (fun v f41 H locs hP hw hS => ?_)
      · obtain ⟨ef9, eE9, hE9⟩ := hPX
        rw [ef9] at hw
        subst eE9
        exact hp_out B0 hw hS hout hce hcv hcl ⟨Nat.le_of_ble_eq_true rfl, Nat.le_of_ble_eq_true rfl⟩ ⟨(Or.inl ⟨rfl, (spc_1 (fun h9 => hE9 h9.2))⟩), ⟨k_xo, ⟨_, _, _, _, _, _, _, _, _, _, k_ez, k_nq0, k_nr0, fhd0, ftl0, blp0⟩, ⟨_, _, _, _, _, _, _, _, _, _, k_eo, k_nq1, k_nr1, fhd1, ftl1, blp1⟩, k_nw0, k_na0, k_nw1, k_na1, k_bu, k_bs, k_bp, k_bh, k_bf, k_bl, k_bg, hPx, hB9, hfl9, nd_ez_eo, nd_nr0_nr1, nd_nw0_na0, nd_nw0_nq0, nd_nw0_nw1, nd_nw0_na1, nd_nw0_nq1, nd_na0_nq0, nd_na0_nw1, nd_na0_na1, nd_na0_nq1, nd_nq0_nw1, nd_nq0_na1, nd_nq0_nq1, nd_nw1_na1, nd_nw1_nq1, nd_na1_nq1, nd_bh_bp, nd_bf_bl⟩, hKp.rf⟩
      · obtain ⟨ef9, ev9, ho42⟩ := hP
        rw [ef9] at hw
        subst ev9
        refine W.eq (g2 := F0 m 11 ls []) rfl ?_
        refine lv_iload_n hx hb dX4_wish_11 rfl (lv_at hl9 4 rfl) ?_
        refine lv_iconst (v := (-1)) hx hb dX4_wish_12 (by decide) ?_
        refine lv_icmp_lt (tgt := 22) hx hb dX4_wish_13 (by decide) (fun c43 => ?_) (fun c43 => ?_)
        · exact hp_throw (cls := eA) (names := tNm) B0 hw hS hout tF_eA qC_X4_35 qN_java_lang_IllegalArgumentException sR_X4_37 tA_eA tB_eA tG_eA hl9.1 dX4_wish_22 dX4_wish_25 dX4_wish_26 dX4_wish_28 dX4_wish_31 ⟨⟨Nat.le_of_ble_eq_true rfl, Nat.le_of_ble_eq_true rfl⟩, Nat.le_of_ble_eq_true rfl, Nat.le_of_ble_eq_true rfl⟩ ⟨Nat.le_of_ble_eq_true rfl, Nat.le_of_ble_eq_true rfl⟩ (⟨(Or.inr ⟨rfl, (spc_2 ⟨(Or.inr k2), ho42⟩ (fun h9 => by have h1 := c43; simp only [jlt, jle, tq0, tq1, tq3, tq4, tq6, tq9, tq50, tq60, tq1023, tqm1] at h1; obtain ⟨h3, h4⟩ := h9; omega))⟩), ⟨k_xo, ⟨_, _, _, _, _, _, _, _, _, _, k_ez, k_nq0, k_nr0, fhd0, ftl0, blp0⟩, ⟨_, _, _, _, _, _, _, _, _, _, k_eo, k_nq1, k_nr1, fhd1, ftl1, blp1⟩, k_nw0, k_na0, k_nw1, k_na1, k_bu, k_bs, k_bp, k_bh, k_bf, k_bl, k_bg, hPx, hB9, hfl9, nd_ez_eo, nd_nr0_nr1, nd_nw0_na0, nd_nw0_nq0, nd_nw0_nw1, nd_nw0_na1, nd_nw0_nq1, nd_na0_nq0, nd_na0_nw1, nd_na0_na1, nd_na0_nq1, nd_nq0_nw1, nd_nq0_na1, nd_nq0_nq1, nd_nw1_na1, nd_nw1_nq1, nd_na1_nq1, nd_bh_bp, nd_bf_bl⟩, hKp.rf⟩)
        · refine lv_iload_n hx hb dX4_wish_16 rfl (lv_at hl9 4 rfl) ?_
          refine lv_bipush (v := 9) hx hb dX4_wish_17 (by decide) ?_
          refine lv_icmp_le (tgt := 32) hx hb dX4_wish_19 (by decide) (fun c44 => ?_) (fun c44 => ?_)
          · refine lv_aload hx hb dX4_wish_32 (lv_at hl9 0 rfl) ?_
            refine lv_iload_n hx hb dX4_wish_34 rfl (lv_at hl9 3 rfl) ?_
            refine lv_iload_n hx hb dX4_wish_35 rfl (lv_at hl9 4 rfl) ?_
            refine hp_V (ci := 1) (As := [.int o, .int xv]) (rest := []) B0 hw hS (c_X1_changeWish hl G f eo nw1 na1 nq1 nr1 mg1 st1 tm1 sr1 li1 lp1 mi1 k_eo gw1 k_nw1 o xv ho42 ) mV_X1_changeWish qM_X4_42 rfl k_eo rfl rfl hl9.1 (Nat.le_of_ble_eq_true rfl) ⟨⟨Nat.le_of_ble_eq_true rfl, Nat.le_of_ble_eq_true rfl⟩, Nat.le_of_ble_eq_true rfl, Nat.le_of_ble_eq_true rfl⟩ dX4_wish_36 (fun E ce q9 f45 H locs hPX hw hS hce hcv hcl => ?_) (fun v f45 H locs hP hw hS => ?_)
            · exact hPX.elim
            · obtain ⟨ho9, ev9, e46, k47⟩ := hP
              subst ev9
              have h48 : f45 nw1 = some (.inl (cI G, 6, .inl (upd gw1 (o : Int32).toNatClampNeg xv))) := by rw [e46, va_up_self]
              refine W.eq (g2 := F0 m 39 ls [.int (gw1 (o : Int32).toNatClampNeg)]) rfl ?_
              have p49 : PoolX G [] f45 := by rw [e46]; exact px_upd hPx k_nw1 (Nat.ne_of_beq_eq_false rfl) (Nat.ne_of_beq_eq_false rfl) (fun g9 h9 => ⟨_, rfl⟩)
              have n51 : ez ≠ nw1 := hne k_ez k_nw1 (Nat.ne_of_beq_eq_false rfl)
              have h50 : f45 ez = some (.inr (1, [.ref nw0, .ref na0, .ref nq0, .ref nr0, .int mg0, .int st0, .int tm0, .int sr0, .int li0, .int lp0, .int mi0])) := by rw [e46, va_up_ne _ _ n51]; exact k_ez
              have h52 : f45 nq0 = some (.inl (cI G, 6, .inl gq0)) := by rw [e46, va_up_ne _ _ nd_nq0_nw1]; exact k_nq0
              have n54 : nr0 ≠ nw1 := hne k_nr0 k_nw1 (Nat.ne_of_beq_eq_false rfl)
              have h53 : f45 nr0 = some (.inr (3, [hd0, tl0, .int cn0])) := by rw [e46, va_up_ne _ _ n54]; exact k_nr0
              have n56 : eo ≠ nw1 := hne k_eo k_nw1 (Nat.ne_of_beq_eq_false rfl)
              have h55 : f45 eo = some (.inr (1, [.ref nw1, .ref na1, .ref nq1, .ref nr1, .int mg1, .int st1, .int tm1, .int sr1, .int li1, .int lp1, .int mi1])) := by rw [e46, va_up_ne _ _ n56]; exact k_eo
              have h57 : f45 nq1 = some (.inl (cI G, 6, .inl gq1)) := by rw [e46, va_up_ne _ _ (Ne.symm nd_nw1_nq1)]; exact k_nq1
              have n59 : nr1 ≠ nw1 := hne k_nr1 k_nw1 (Nat.ne_of_beq_eq_false rfl)
              have h58 : f45 nr1 = some (.inr (3, [hd1, tl1, .int cn1])) := by rw [e46, va_up_ne _ _ n59]; exact k_nr1
              have n61 : xo ≠ nw1 := hne k_xo k_nw1 (Nat.ne_of_beq_eq_false rfl)
              have h60 : f45 xo = some (.inr (4, [.ref ez, .ref eo, .ref bu])) := by rw [e46, va_up_ne _ _ n61]; exact k_xo
              have h62 : f45 nw0 = some (.inl (cI G, 6, .inl gw0)) := by rw [e46, va_up_ne _ _ nd_nw0_nw1]; exact k_nw0
              have h63 : f45 na0 = some (.inl (cI G, 6, .inl ga0)) := by rw [e46, va_up_ne _ _ nd_na0_nw1]; exact k_na0
              have h64 : f45 na1 = some (.inl (cI G, 6, .inl ga1)) := by rw [e46, va_up_ne _ _ (Ne.symm nd_nw1_na1)]; exact k_na1
              have n66 : bu ≠ nw1 := hne k_bu k_nw1 (Nat.ne_of_beq_eq_false rfl)
              have h65 : f45 bu = some (.inr (0, [.ref bs, .ref bp, .ref bh, .ref bf, .ref bl, .ref bg, .int (nI n), .int (nI cg), .int (nI x)])) := by rw [e46, va_up_ne _ _ n66]; exact k_bu
              have n68 : bs ≠ nw1 := hneL k_bs k_nw1 (Nat.ne_of_beq_eq_false rfl)
              have h67 : f45 bs = some (.inl (cI G, 61, .inl (nf sa))) := by rw [e46, va_up_ne _ _ n68]; exact k_bs
              have n70 : bp ≠ nw1 := hneL k_bp k_nw1 (Nat.ne_of_beq_eq_false rfl)
              have h69 : f45 bp = some (.inl (cI G, 240, .inl (nf pk))) := by rw [e46, va_up_ne _ _ n70]; exact k_bp
              have n72 : bh ≠ nw1 := hneL k_bh k_nw1 (Nat.ne_of_beq_eq_false rfl)
              have h71 : f45 bh = some (.inl (cZ G, 240, .inl gh)) := by rw [e46, va_up_ne _ _ n72]; exact k_bh
              have n74 : bf ≠ nw1 := hneL k_bf k_nw1 (Nat.ne_of_beq_eq_false rfl)
              have h73 : f45 bf = some (.inl (cI G, 3, .inl (nf fl))) := by rw [e46, va_up_ne _ _ n74]; exact k_bf
              have n76 : bl ≠ nw1 := hneL k_bl k_nw1 (Nat.ne_of_beq_eq_false rfl)
              have h75 : f45 bl = some (.inl (cI G, 3, .inl gl)) := by rw [e46, va_up_ne _ _ n76]; exact k_bl
              have n78 : bg ≠ nw1 := hneL k_bg k_nw1 (Nat.ne_of_beq_eq_false rfl)
              have h77 : f45 bg = some (.inl (cI G, 60, .inl (nf gv))) := by rw [e46, va_up_ne _ _ n78]; exact k_bg
              exact hp_iret (v := (gw1 (o : Int32).toNatClampNeg)) B0 hw hS hr ⟨Nat.le_of_ble_eq_true rfl, Nat.le_of_ble_eq_true rfl⟩ dX4_wish_39 (⟨spc_0 ⟨(Or.inr k2), ho42⟩ (by have h1 := c43; have h2 := c44; simp only [jlt, jle, tq0, tq1, tq3, tq4, tq6, tq9, tq50, tq60, tq1023, tqm1] at h1 h2; exact ⟨by omega, by omega⟩), (by rw [selE_1 k2]), ⟨h60, ⟨_, _, _, _, _, _, _, _, _, _, h50, h52, h53, (fhd0.kp (show hKp [xo, ez, eo, bu, nw0, na0, nq0, nr0, nw1, na1, nq1, nr1, bs, bp, bh, bf, bl, bg] f f45 from (by rw [e46]; exact hKp.up k_nw1 (Nat.ne_of_beq_eq_false rfl) (by simp)))), (ftl0.kp (show hKp [xo, ez, eo, bu, nw0, na0, nq0, nr0, nw1, na1, nq1, nr1, bs, bp, bh, bf, bl, bg] f f45 from (by rw [e46]; exact hKp.up k_nw1 (Nat.ne_of_beq_eq_false rfl) (by simp)))), blp0⟩, ⟨_, _, _, _, _, _, _, _, _, _, h55, h57, h58, (fhd1.kp (show hKp [xo, ez, eo, bu, nw0, na0, nq0, nr0, nw1, na1, nq1, nr1, bs, bp, bh, bf, bl, bg] f f45 from (by rw [e46]; exact hKp.up k_nw1 (Nat.ne_of_beq_eq_false rfl) (by simp)))), (ftl1.kp (show hKp [xo, ez, eo, bu, nw0, na0, nq0, nr0, nw1, na1, nq1, nr1, bs, bp, bh, bf, bl, bg] f f45 from (by rw [e46]; exact hKp.up k_nw1 (Nat.ne_of_beq_eq_false rfl) (by simp)))), blp1⟩, (by rw [updE_0 (by rw [k2]; decide)]; exact h62), h63, (by rw [updE_1 k2]; exact h48), h64, h65, h67, h69, h71, h73, h75, h77, p49, hB9, hfl9, nd_ez_eo, nd_nr0_nr1, nd_nw0_na0, nd_nw0_nq0, nd_nw0_nw1, nd_nw0_na1, nd_nw0_nq1, nd_na0_nq0, nd_na0_nw1, nd_na0_na1, nd_na0_nq1, nd_nq0_nw1, nd_nq0_na1, nd_nq0_nq1, nd_nw1_na1, nd_nw1_nq1, nd_na1_nq1, nd_bh_bp, nd_bf_bl⟩, (show hKp [xo, ez, eo, bu, nw0, na0, nq0, nr0, nw1, na1, nq1, nr1, bs, bp, bh, bf, bl, bg] f f45 from (by rw [e46]; exact hKp.up k_nw1 (Nat.ne_of_beq_eq_false rfl) (by simp)))⟩)
          · exact hp_throw (cls := eA) (names := tNm) B0 hw hS hout tF_eA qC_X4_35 qN_java_lang_IllegalArgumentException sR_X4_37 tA_eA tB_eA tG_eA hl9.1 dX4_wish_22 dX4_wish_25 dX4_wish_26 dX4_wish_28 dX4_wish_31 ⟨⟨Nat.le_of_ble_eq_true rfl, Nat.le_of_ble_eq_true rfl⟩, Nat.le_of_ble_eq_true rfl, Nat.le_of_ble_eq_true rfl⟩ ⟨Nat.le_of_ble_eq_true rfl, Nat.le_of_ble_eq_true rfl⟩ (⟨(Or.inr ⟨rfl, (spc_2 ⟨(Or.inr k2), ho42⟩ (fun h9 => by have h1 := c44; simp only [jlt, jle, tq0, tq1, tq3, tq4, tq6, tq9, tq50, tq60, tq1023, tqm1] at h1; obtain ⟨h3, h4⟩ := h9; omega))⟩), ⟨k_xo, ⟨_, _, _, _, _, _, _, _, _, _, k_ez, k_nq0, k_nr0, fhd0, ftl0, blp0⟩, ⟨_, _, _, _, _, _, _, _, _, _, k_eo, k_nq1, k_nr1, fhd1, ftl1, blp1⟩, k_nw0, k_na0, k_nw1, k_na1, k_bu, k_bs, k_bp, k_bh, k_bf, k_bl, k_bg, hPx, hB9, hfl9, nd_ez_eo, nd_nr0_nr1, nd_nw0_na0, nd_nw0_nq0, nd_nw0_nw1, nd_nw0_na1, nd_nw0_nq1, nd_na0_nq0, nd_na0_nw1, nd_na0_na1, nd_na0_nq1, nd_nq0_nw1, nd_nq0_na1, nd_nq0_nq1, nd_nw1_na1, nd_nw1_nq1, nd_na1_nq1, nd_bh_bp, nd_bf_bl⟩, hKp.rf⟩)

set_option maxHeartbeats 4000000 in
set_option maxRecDepth 100000 in
theorem c_W4_allow {l : Launch} (hl : l.stackTraces = false) (G : hG) (f : hM) (xo ez eo bu nw0 na0 nq0 nr0 nw1 na1 nq1 nr1 bs bp bh bf bl bg : Nat) (gw0 : Nat → Int32) (ga0 : Nat → Int32) (gw1 : Nat → Int32) (ga1 : Nat → Int32) (mg0 : Int32) (mg1 : Int32) (n : Nat) (a : Nat) (cg : Nat) (x : Nat) (sa : Nat → Nat) (pk : Nat → Nat) (fl : Nat → Nat) (gv : Nat → Nat) (gh : Nat → Int32) (gl : Nat → Int32) (hC : CW G f xo ez eo bu nw0 na0 nq0 nr0 nw1 na1 nq1 nr1 bs bp bh bf bl bg gw0 ga0 gw1 ga1 mg0 mg1 n a cg x sa pk fl gv gh gl) (i o xv : Int32) : CT l yX4_allow (.code yX4_allow cX4_allow 5 (some .int)) 7 103 3 18 G [.ref xo, .int i, .int o, .int xv] f (fun v f1 => spc (sE i ∧ sO o) (sA xv) = 0 ∧ v = some (.int (selE i ga0 ga1 o.toNatClampNeg)) ∧ CW G f1 xo ez eo bu nw0 na0 nq0 nr0 nw1 na1 nq1 nr1 bs bp bh bf bl bg gw0 (updE (i = 0) ga0 o.toNatClampNeg xv) gw1 (updE (i = 1) ga1 o.toNatClampNeg xv) mg0 mg1 n a cg x sa pk fl gv gh gl ∧ hKp [xo, ez, eo, bu, nw0, na0, nq0, nr0, nw1, na1, nq1, nr1, bs, bp, bh, bf, bl, bg] f f1) (fun E f1 => ((E = eI ∧ spc (sE i ∧ sO o) (sA xv) = 1) ∨ (E = eA ∧ spc (sE i ∧ sO o) (sA xv) = 2)) ∧ CW G f1 xo ez eo bu nw0 na0 nq0 nr0 nw1 na1 nq1 nr1 bs bp bh bf bl bg gw0 ga0 gw1 ga1 mg0 mg1 n a cg x sa pk fl gv gh gl ∧ hKp [xo, ez, eo, bu, nw0, na0, nq0, nr0, nw1, na1, nq1, nr1, bs, bp, bh, bf, bl, bg] f f1) := by
  refine hp_start hl (own := RX4) (by decide) rfl (Nat.le_of_ble_eq_true rfl) ?_
  intro p e s m args below meth c B0 hr hnm hout hw hS ls hl9
  have hx := B0.1
  have hb := B0.2.1
  have hl9 : lv_has ls 5 [(0, .ref xo), (1, .int i), (2, .int o), (3, .int xv)] := hl9
  obtain ⟨k_xo, ⟨st0, tm0, sr0, li0, lp0, mi0, cn0, gq0, hd0, tl0, k_ez, k_nq0, k_nr0, fhd0, ftl0, blp0⟩, ⟨st1, tm1, sr1, li1, lp1, mi1, cn1, gq1, hd1, tl1, k_eo, k_nq1, k_nr1, fhd1, ftl1, blp1⟩, k_nw0, k_na0, k_nw1, k_na1, k_bu, k_bs, k_bp, k_bh, k_bf, k_bl, k_bg, hPx, hB9, hfl9, nd_ez_eo, nd_nr0_nr1, nd_nw0_na0, nd_nw0_nq0, nd_nw0_nw1, nd_nw0_na1, nd_nw0_nq1, nd_na0_nq0, nd_na0_nw1, nd_na0_na1, nd_na0_nq1, nd_nq0_nw1, nd_nq0_na1, nd_nq0_nq1, nd_nw1_na1, nd_nw1_nq1, nd_na1_nq1, nd_bh_bp, nd_bf_bl⟩ := id hC
  refine lv_aload_n hx hb dX4_allow_0 rfl (lv_at hl9 0 rfl) ?_
  refine lv_iload_n hx hb dX4_allow_1 rfl (lv_at hl9 1 rfl) ?_
  refine hp_V (ci := 4) (As := [.int i]) (rest := []) B0 hw hS (c_X4_endAt hl G f xo ez eo bu k_xo i) mV_X4_endAt qM_X4_28 rfl k_xo rfl rfl hl9.1 (Nat.le_of_ble_eq_true rfl) ⟨⟨Nat.le_of_ble_eq_true rfl, Nat.le_of_ble_eq_true rfl⟩, Nat.le_of_ble_eq_true rfl, Nat.le_of_ble_eq_true rfl⟩ dX4_allow_2 (fun E ce q9 f1 H locs hPX hw hS hce hcv hcl => ?_) (fun v f1 H locs hP hw hS => ?_)
  · obtain ⟨ef9, eE9, hE9⟩ := hPX
    rw [ef9] at hw
    subst eE9
    exact hp_out B0 hw hS hout hce hcv hcl ⟨Nat.le_of_ble_eq_true rfl, Nat.le_of_ble_eq_true rfl⟩ ⟨(Or.inl ⟨rfl, (spc_1 (fun h9 => hE9 h9.1))⟩), ⟨k_xo, ⟨_, _, _, _, _, _, _, _, _, _, k_ez, k_nq0, k_nr0, fhd0, ftl0, blp0⟩, ⟨_, _, _, _, _, _, _, _, _, _, k_eo, k_nq1, k_nr1, fhd1, ftl1, blp1⟩, k_nw0, k_na0, k_nw1, k_na1, k_bu, k_bs, k_bp, k_bh, k_bf, k_bl, k_bg, hPx, hB9, hfl9, nd_ez_eo, nd_nr0_nr1, nd_nw0_na0, nd_nw0_nq0, nd_nw0_nw1, nd_nw0_na1, nd_nw0_nq1, nd_na0_nq0, nd_na0_nw1, nd_na0_na1, nd_na0_nq1, nd_nq0_nw1, nd_nq0_na1, nd_nq0_nq1, nd_nw1_na1, nd_nw1_nq1, nd_na1_nq1, nd_bh_bp, nd_bf_bl⟩, hKp.rf⟩
  · obtain ⟨ef9, hv9⟩ := hP
    rw [ef9] at hw
    rcases hv9 with ⟨k2, ev9⟩ | ⟨k2, ev9⟩
    · subst ev9
      refine W.eq (g2 := F0 m 5 ls [.ref ez]) rfl ?_
      refine lv_astore (lv' := [(4, .ref ez), (0, .ref xo), (1, .int i), (2, .int o), (3, .int xv)]) hx hb dX4_allow_5 hl9 (by decide) rfl (fun ls hl9 => ?_)
      refine lv_iload_n hx hb dX4_allow_7 rfl (lv_at hl9 3 rfl) ?_
      refine hp_S (As := [.int o]) (rest := []) B0 hw hS (c_X4_refuseNoOption hl G f o) mS_X4_refuseNoOption qM_X4_32 rfl rfl hl9.1 (Nat.le_of_ble_eq_true rfl) ⟨⟨Nat.le_of_ble_eq_true rfl, Nat.le_of_ble_eq_true rfl⟩, Nat.le_of_ble_eq_true rfl, Nat.le_of_ble_eq_true rfl⟩ dX4_allow_8 (fun E ce q9 f3 H locs hPX hw hS hce hcv hcl => ?_) (fun v f3 H locs hP hw hS => ?_)
      · obtain ⟨ef9, eE9, hE9⟩ := hPX
        rw [ef9] at hw
        subst eE9
        exact hp_out B0 hw hS hout hce hcv hcl ⟨Nat.le_of_ble_eq_true rfl, Nat.le_of_ble_eq_true rfl⟩ ⟨(Or.inl ⟨rfl, (spc_1 (fun h9 => hE9 h9.2))⟩), ⟨k_xo, ⟨_, _, _, _, _, _, _, _, _, _, k_ez, k_nq0, k_nr0, fhd0, ftl0, blp0⟩, ⟨_, _, _, _, _, _, _, _, _, _, k_eo, k_nq1, k_nr1, fhd1, ftl1, blp1⟩, k_nw0, k_na0, k_nw1, k_na1, k_bu, k_bs, k_bp, k_bh, k_bf, k_bl, k_bg, hPx, hB9, hfl9, nd_ez_eo, nd_nr0_nr1, nd_nw0_na0, nd_nw0_nq0, nd_nw0_nw1, nd_nw0_na1, nd_nw0_nq1, nd_na0_nq0, nd_na0_nw1, nd_na0_na1, nd_na0_nq1, nd_nq0_nw1, nd_nq0_na1, nd_nq0_nq1, nd_nw1_na1, nd_nw1_nq1, nd_na1_nq1, nd_bh_bp, nd_bf_bl⟩, hKp.rf⟩
      · obtain ⟨ef9, ev9, ho4⟩ := hP
        rw [ef9] at hw
        subst ev9
        refine W.eq (g2 := F0 m 11 ls []) rfl ?_
        refine lv_iload_n hx hb dX4_allow_11 rfl (lv_at hl9 4 rfl) ?_
        refine lv_if_lt (tgt := 22) hx hb dX4_allow_12 (by decide) (fun c5 => ?_) (fun c5 => ?_)
        · exact hp_throw (cls := eA) (names := tNm) B0 hw hS hout tF_eA qC_X4_35 qN_java_lang_IllegalArgumentException sR_X4_46 tA_eA tB_eA tG_eA hl9.1 dX4_allow_22 dX4_allow_25 dX4_allow_26 dX4_allow_28 dX4_allow_31 ⟨⟨Nat.le_of_ble_eq_true rfl, Nat.le_of_ble_eq_true rfl⟩, Nat.le_of_ble_eq_true rfl, Nat.le_of_ble_eq_true rfl⟩ ⟨Nat.le_of_ble_eq_true rfl, Nat.le_of_ble_eq_true rfl⟩ (⟨(Or.inr ⟨rfl, (spc_2 ⟨(Or.inl k2), ho4⟩ (fun h9 => by have h1 := c5; simp only [jlt, jle, tq0, tq1, tq3, tq4, tq6, tq9, tq50, tq60, tq1023, tqm1] at h1; obtain ⟨h3, h4⟩ := h9; omega))⟩), ⟨k_xo, ⟨_, _, _, _, _, _, _, _, _, _, k_ez, k_nq0, k_nr0, fhd0, ftl0, blp0⟩, ⟨_, _, _, _, _, _, _, _, _, _, k_eo, k_nq1, k_nr1, fhd1, ftl1, blp1⟩, k_nw0, k_na0, k_nw1, k_na1, k_bu, k_bs, k_bp, k_bh, k_bf, k_bl, k_bg, hPx, hB9, hfl9, nd_ez_eo, nd_nr0_nr1, nd_nw0_na0, nd_nw0_nq0, nd_nw0_nw1, nd_nw0_na1, nd_nw0_nq1, nd_na0_nq0, nd_na0_nw1, nd_na0_na1, nd_na0_nq1, nd_nq0_nw1, nd_nq0_na1, nd_nq0_nq1, nd_nw1_na1, nd_nw1_nq1, nd_na1_nq1, nd_bh_bp, nd_bf_bl⟩, hKp.rf⟩)
        · refine lv_iload_n hx hb dX4_allow_15 rfl (lv_at hl9 4 rfl) ?_
          refine lv_sipush (v := 1023) hx hb dX4_allow_16 (by decide) ?_
          refine lv_icmp_le (tgt := 32) hx hb dX4_allow_19 (by decide) (fun c6 => ?_) (fun c6 => ?_)
          · refine lv_aload hx hb dX4_allow_32 (lv_at hl9 0 rfl) ?_
            refine lv_iload_n hx hb dX4_allow_34 rfl (lv_at hl9 3 rfl) ?_
            refine lv_iload_n hx hb dX4_allow_35 rfl (lv_at hl9 4 rfl) ?_
            refine hp_V (ci := 1) (As := [.int o, .int xv]) (rest := []) B0 hw hS (c_X1_changeAllowed hl G f ez nw0 na0 nq0 nr0 mg0 st0 tm0 sr0 li0 lp0 mi0 k_ez ga0 k_na0 o xv ho4 ) mV_X1_changeAllowed qM_X4_48 rfl k_ez rfl rfl hl9.1 (Nat.le_of_ble_eq_true rfl) ⟨⟨Nat.le_of_ble_eq_true rfl, Nat.le_of_ble_eq_true rfl⟩, Nat.le_of_ble_eq_true rfl, Nat.le_of_ble_eq_true rfl⟩ dX4_allow_36 (fun E ce q9 f7 H locs hPX hw hS hce hcv hcl => ?_) (fun v f7 H locs hP hw hS => ?_)
            · exact hPX.elim
            · obtain ⟨ho9, ev9, e8, k9⟩ := hP
              subst ev9
              have h10 : f7 na0 = some (.inl (cI G, 6, .inl (upd ga0 (o : Int32).toNatClampNeg xv))) := by rw [e8, va_up_self]
              refine W.eq (g2 := F0 m 39 ls [.int (ga0 (o : Int32).toNatClampNeg)]) rfl ?_
              have p11 : PoolX G [] f7 := by rw [e8]; exact px_upd hPx k_na0 (Nat.ne_of_beq_eq_false rfl) (Nat.ne_of_beq_eq_false rfl) (fun g9 h9 => ⟨_, rfl⟩)
              have n13 : ez ≠ na0 := hne k_ez k_na0 (Nat.ne_of_beq_eq_false rfl)
              have h12 : f7 ez = some (.inr (1, [.ref nw0, .ref na0, .ref nq0, .ref nr0, .int mg0, .int st0, .int tm0, .int sr0, .int li0, .int lp0, .int mi0])) := by rw [e8, va_up_ne _ _ n13]; exact k_ez
              have h14 : f7 nq0 = some (.inl (cI G, 6, .inl gq0)) := by rw [e8, va_up_ne _ _ (Ne.symm nd_na0_nq0)]; exact k_nq0
              have n16 : nr0 ≠ na0 := hne k_nr0 k_na0 (Nat.ne_of_beq_eq_false rfl)
              have h15 : f7 nr0 = some (.inr (3, [hd0, tl0, .int cn0])) := by rw [e8, va_up_ne _ _ n16]; exact k_nr0
              have n18 : eo ≠ na0 := hne k_eo k_na0 (Nat.ne_of_beq_eq_false rfl)
              have h17 : f7 eo = some (.inr (1, [.ref nw1, .ref na1, .ref nq1, .ref nr1, .int mg1, .int st1, .int tm1, .int sr1, .int li1, .int lp1, .int mi1])) := by rw [e8, va_up_ne _ _ n18]; exact k_eo
              have h19 : f7 nq1 = some (.inl (cI G, 6, .inl gq1)) := by rw [e8, va_up_ne _ _ (Ne.symm nd_na0_nq1)]; exact k_nq1
              have n21 : nr1 ≠ na0 := hne k_nr1 k_na0 (Nat.ne_of_beq_eq_false rfl)
              have h20 : f7 nr1 = some (.inr (3, [hd1, tl1, .int cn1])) := by rw [e8, va_up_ne _ _ n21]; exact k_nr1
              have n23 : xo ≠ na0 := hne k_xo k_na0 (Nat.ne_of_beq_eq_false rfl)
              have h22 : f7 xo = some (.inr (4, [.ref ez, .ref eo, .ref bu])) := by rw [e8, va_up_ne _ _ n23]; exact k_xo
              have h24 : f7 nw0 = some (.inl (cI G, 6, .inl gw0)) := by rw [e8, va_up_ne _ _ nd_nw0_na0]; exact k_nw0
              have h25 : f7 nw1 = some (.inl (cI G, 6, .inl gw1)) := by rw [e8, va_up_ne _ _ (Ne.symm nd_na0_nw1)]; exact k_nw1
              have h26 : f7 na1 = some (.inl (cI G, 6, .inl ga1)) := by rw [e8, va_up_ne _ _ (Ne.symm nd_na0_na1)]; exact k_na1
              have n28 : bu ≠ na0 := hne k_bu k_na0 (Nat.ne_of_beq_eq_false rfl)
              have h27 : f7 bu = some (.inr (0, [.ref bs, .ref bp, .ref bh, .ref bf, .ref bl, .ref bg, .int (nI n), .int (nI cg), .int (nI x)])) := by rw [e8, va_up_ne _ _ n28]; exact k_bu
              have n30 : bs ≠ na0 := hneL k_bs k_na0 (Nat.ne_of_beq_eq_false rfl)
              have h29 : f7 bs = some (.inl (cI G, 61, .inl (nf sa))) := by rw [e8, va_up_ne _ _ n30]; exact k_bs
              have n32 : bp ≠ na0 := hneL k_bp k_na0 (Nat.ne_of_beq_eq_false rfl)
              have h31 : f7 bp = some (.inl (cI G, 240, .inl (nf pk))) := by rw [e8, va_up_ne _ _ n32]; exact k_bp
              have n34 : bh ≠ na0 := hneL k_bh k_na0 (Nat.ne_of_beq_eq_false rfl)
              have h33 : f7 bh = some (.inl (cZ G, 240, .inl gh)) := by rw [e8, va_up_ne _ _ n34]; exact k_bh
              have n36 : bf ≠ na0 := hneL k_bf k_na0 (Nat.ne_of_beq_eq_false rfl)
              have h35 : f7 bf = some (.inl (cI G, 3, .inl (nf fl))) := by rw [e8, va_up_ne _ _ n36]; exact k_bf
              have n38 : bl ≠ na0 := hneL k_bl k_na0 (Nat.ne_of_beq_eq_false rfl)
              have h37 : f7 bl = some (.inl (cI G, 3, .inl gl)) := by rw [e8, va_up_ne _ _ n38]; exact k_bl
              have n40 : bg ≠ na0 := hneL k_bg k_na0 (Nat.ne_of_beq_eq_false rfl)
              have h39 : f7 bg = some (.inl (cI G, 60, .inl (nf gv))) := by rw [e8, va_up_ne _ _ n40]; exact k_bg
              exact hp_iret (v := (ga0 (o : Int32).toNatClampNeg)) B0 hw hS hr ⟨Nat.le_of_ble_eq_true rfl, Nat.le_of_ble_eq_true rfl⟩ dX4_allow_39 (⟨spc_0 ⟨(Or.inl k2), ho4⟩ (by have h1 := c5; have h2 := c6; simp only [jlt, jle, tq0, tq1, tq3, tq4, tq6, tq9, tq50, tq60, tq1023, tqm1] at h1 h2; exact ⟨by omega, by omega⟩), (by rw [selE_0 k2]), ⟨h22, ⟨_, _, _, _, _, _, _, _, _, _, h12, h14, h15, (fhd0.kp (show hKp [xo, ez, eo, bu, nw0, na0, nq0, nr0, nw1, na1, nq1, nr1, bs, bp, bh, bf, bl, bg] f f7 from (by rw [e8]; exact hKp.up k_na0 (Nat.ne_of_beq_eq_false rfl) (by simp)))), (ftl0.kp (show hKp [xo, ez, eo, bu, nw0, na0, nq0, nr0, nw1, na1, nq1, nr1, bs, bp, bh, bf, bl, bg] f f7 from (by rw [e8]; exact hKp.up k_na0 (Nat.ne_of_beq_eq_false rfl) (by simp)))), blp0⟩, ⟨_, _, _, _, _, _, _, _, _, _, h17, h19, h20, (fhd1.kp (show hKp [xo, ez, eo, bu, nw0, na0, nq0, nr0, nw1, na1, nq1, nr1, bs, bp, bh, bf, bl, bg] f f7 from (by rw [e8]; exact hKp.up k_na0 (Nat.ne_of_beq_eq_false rfl) (by simp)))), (ftl1.kp (show hKp [xo, ez, eo, bu, nw0, na0, nq0, nr0, nw1, na1, nq1, nr1, bs, bp, bh, bf, bl, bg] f f7 from (by rw [e8]; exact hKp.up k_na0 (Nat.ne_of_beq_eq_false rfl) (by simp)))), blp1⟩, h24, (by rw [updE_1 k2]; exact h10), h25, (by rw [updE_0 (by rw [k2]; decide)]; exact h26), h27, h29, h31, h33, h35, h37, h39, p11, hB9, hfl9, nd_ez_eo, nd_nr0_nr1, nd_nw0_na0, nd_nw0_nq0, nd_nw0_nw1, nd_nw0_na1, nd_nw0_nq1, nd_na0_nq0, nd_na0_nw1, nd_na0_na1, nd_na0_nq1, nd_nq0_nw1, nd_nq0_na1, nd_nq0_nq1, nd_nw1_na1, nd_nw1_nq1, nd_na1_nq1, nd_bh_bp, nd_bf_bl⟩, (show hKp [xo, ez, eo, bu, nw0, na0, nq0, nr0, nw1, na1, nq1, nr1, bs, bp, bh, bf, bl, bg] f f7 from (by rw [e8]; exact hKp.up k_na0 (Nat.ne_of_beq_eq_false rfl) (by simp)))⟩)
          · exact hp_throw (cls := eA) (names := tNm) B0 hw hS hout tF_eA qC_X4_35 qN_java_lang_IllegalArgumentException sR_X4_46 tA_eA tB_eA tG_eA hl9.1 dX4_allow_22 dX4_allow_25 dX4_allow_26 dX4_allow_28 dX4_allow_31 ⟨⟨Nat.le_of_ble_eq_true rfl, Nat.le_of_ble_eq_true rfl⟩, Nat.le_of_ble_eq_true rfl, Nat.le_of_ble_eq_true rfl⟩ ⟨Nat.le_of_ble_eq_true rfl, Nat.le_of_ble_eq_true rfl⟩ (⟨(Or.inr ⟨rfl, (spc_2 ⟨(Or.inl k2), ho4⟩ (fun h9 => by have h1 := c6; simp only [jlt, jle, tq0, tq1, tq3, tq4, tq6, tq9, tq50, tq60, tq1023, tqm1] at h1; obtain ⟨h3, h4⟩ := h9; omega))⟩), ⟨k_xo, ⟨_, _, _, _, _, _, _, _, _, _, k_ez, k_nq0, k_nr0, fhd0, ftl0, blp0⟩, ⟨_, _, _, _, _, _, _, _, _, _, k_eo, k_nq1, k_nr1, fhd1, ftl1, blp1⟩, k_nw0, k_na0, k_nw1, k_na1, k_bu, k_bs, k_bp, k_bh, k_bf, k_bl, k_bg, hPx, hB9, hfl9, nd_ez_eo, nd_nr0_nr1, nd_nw0_na0, nd_nw0_nq0, nd_nw0_nw1, nd_nw0_na1, nd_nw0_nq1, nd_na0_nq0, nd_na0_nw1, nd_na0_na1, nd_na0_nq1, nd_nq0_nw1, nd_nq0_na1, nd_nq0_nq1, nd_nw1_na1, nd_nw1_nq1, nd_na1_nq1, nd_bh_bp, nd_bf_bl⟩, hKp.rf⟩)
    · subst ev9
      refine W.eq (g2 := F0 m 5 ls [.ref eo]) rfl ?_
      refine lv_astore (lv' := [(4, .ref eo), (0, .ref xo), (1, .int i), (2, .int o), (3, .int xv)]) hx hb dX4_allow_5 hl9 (by decide) rfl (fun ls hl9 => ?_)
      refine lv_iload_n hx hb dX4_allow_7 rfl (lv_at hl9 3 rfl) ?_
      refine hp_S (As := [.int o]) (rest := []) B0 hw hS (c_X4_refuseNoOption hl G f o) mS_X4_refuseNoOption qM_X4_32 rfl rfl hl9.1 (Nat.le_of_ble_eq_true rfl) ⟨⟨Nat.le_of_ble_eq_true rfl, Nat.le_of_ble_eq_true rfl⟩, Nat.le_of_ble_eq_true rfl, Nat.le_of_ble_eq_true rfl⟩ dX4_allow_8 (fun E ce q9 f41 H locs hPX hw hS hce hcv hcl => ?_) (fun v f41 H locs hP hw hS => ?_)
      · obtain ⟨ef9, eE9, hE9⟩ := hPX
        rw [ef9] at hw
        subst eE9
        exact hp_out B0 hw hS hout hce hcv hcl ⟨Nat.le_of_ble_eq_true rfl, Nat.le_of_ble_eq_true rfl⟩ ⟨(Or.inl ⟨rfl, (spc_1 (fun h9 => hE9 h9.2))⟩), ⟨k_xo, ⟨_, _, _, _, _, _, _, _, _, _, k_ez, k_nq0, k_nr0, fhd0, ftl0, blp0⟩, ⟨_, _, _, _, _, _, _, _, _, _, k_eo, k_nq1, k_nr1, fhd1, ftl1, blp1⟩, k_nw0, k_na0, k_nw1, k_na1, k_bu, k_bs, k_bp, k_bh, k_bf, k_bl, k_bg, hPx, hB9, hfl9, nd_ez_eo, nd_nr0_nr1, nd_nw0_na0, nd_nw0_nq0, nd_nw0_nw1, nd_nw0_na1, nd_nw0_nq1, nd_na0_nq0, nd_na0_nw1, nd_na0_na1, nd_na0_nq1, nd_nq0_nw1, nd_nq0_na1, nd_nq0_nq1, nd_nw1_na1, nd_nw1_nq1, nd_na1_nq1, nd_bh_bp, nd_bf_bl⟩, hKp.rf⟩
      · obtain ⟨ef9, ev9, ho42⟩ := hP
        rw [ef9] at hw
        subst ev9
        refine W.eq (g2 := F0 m 11 ls []) rfl ?_
        refine lv_iload_n hx hb dX4_allow_11 rfl (lv_at hl9 4 rfl) ?_
        refine lv_if_lt (tgt := 22) hx hb dX4_allow_12 (by decide) (fun c43 => ?_) (fun c43 => ?_)
        · exact hp_throw (cls := eA) (names := tNm) B0 hw hS hout tF_eA qC_X4_35 qN_java_lang_IllegalArgumentException sR_X4_46 tA_eA tB_eA tG_eA hl9.1 dX4_allow_22 dX4_allow_25 dX4_allow_26 dX4_allow_28 dX4_allow_31 ⟨⟨Nat.le_of_ble_eq_true rfl, Nat.le_of_ble_eq_true rfl⟩, Nat.le_of_ble_eq_true rfl, Nat.le_of_ble_eq_true rfl⟩ ⟨Nat.le_of_ble_eq_true rfl, Nat.le_of_ble_eq_true rfl⟩ (⟨(Or.inr ⟨rfl, (spc_2 ⟨(Or.inr k2), ho42⟩ (fun h9 => by have h1 := c43; simp only [jlt, jle, tq0, tq1, tq3, tq4, tq6, tq9, tq50, tq60, tq1023, tqm1] at h1; obtain ⟨h3, h4⟩ := h9; omega))⟩), ⟨k_xo, ⟨_, _, _, _, _, _, _, _, _, _, k_ez, k_nq0, k_nr0, fhd0, ftl0, blp0⟩, ⟨_, _, _, _, _, _, _, _, _, _, k_eo, k_nq1, k_nr1, fhd1, ftl1, blp1⟩, k_nw0, k_na0, k_nw1, k_na1, k_bu, k_bs, k_bp, k_bh, k_bf, k_bl, k_bg, hPx, hB9, hfl9, nd_ez_eo, nd_nr0_nr1, nd_nw0_na0, nd_nw0_nq0, nd_nw0_nw1, nd_nw0_na1, nd_nw0_nq1, nd_na0_nq0, nd_na0_nw1, nd_na0_na1, nd_na0_nq1, nd_nq0_nw1, nd_nq0_na1, nd_nq0_nq1, nd_nw1_na1, nd_nw1_nq1, nd_na1_nq1, nd_bh_bp, nd_bf_bl⟩, hKp.rf⟩)
        · refine lv_iload_n hx hb dX4_allow_15 rfl (lv_at hl9 4 rfl) ?_
          refine lv_sipush (v := 1023) hx hb dX4_allow_16 (by decide) ?_
          refine lv_icmp_le (tgt := 32) hx hb dX4_allow_19 (by decide) (fun c44 => ?_) (fun c44 => ?_)
          · refine lv_aload hx hb dX4_allow_32 (lv_at hl9 0 rfl) ?_
            refine lv_iload_n hx hb dX4_allow_34 rfl (lv_at hl9 3 rfl) ?_
            refine lv_iload_n hx hb dX4_allow_35 rfl (lv_at hl9 4 rfl) ?_
            refine hp_V (ci := 1) (As := [.int o, .int xv]) (rest := []) B0 hw hS (c_X1_changeAllowed hl G f eo nw1 na1 nq1 nr1 mg1 st1 tm1 sr1 li1 lp1 mi1 k_eo ga1 k_na1 o xv ho42 ) mV_X1_changeAllowed qM_X4_48 rfl k_eo rfl rfl hl9.1 (Nat.le_of_ble_eq_true rfl) ⟨⟨Nat.le_of_ble_eq_true rfl, Nat.le_of_ble_eq_true rfl⟩, Nat.le_of_ble_eq_true rfl, Nat.le_of_ble_eq_true rfl⟩ dX4_allow_36 (fun E ce q9 f45 H locs hPX hw hS hce hcv hcl => ?_) (fun v f45 H locs hP hw hS => ?_)
            · exact hPX.elim
            · obtain ⟨ho9, ev9, e46, k47⟩ := hP
              subst ev9
              have h48 : f45 na1 = some (.inl (cI G, 6, .inl (upd ga1 (o : Int32).toNatClampNeg xv))) := by rw [e46, va_up_self]
              refine W.eq (g2 := F0 m 39 ls [.int (ga1 (o : Int32).toNatClampNeg)]) rfl ?_
              have p49 : PoolX G [] f45 := by rw [e46]; exact px_upd hPx k_na1 (Nat.ne_of_beq_eq_false rfl) (Nat.ne_of_beq_eq_false rfl) (fun g9 h9 => ⟨_, rfl⟩)
              have n51 : ez ≠ na1 := hne k_ez k_na1 (Nat.ne_of_beq_eq_false rfl)
              have h50 : f45 ez = some (.inr (1, [.ref nw0, .ref na0, .ref nq0, .ref nr0, .int mg0, .int st0, .int tm0, .int sr0, .int li0, .int lp0, .int mi0])) := by rw [e46, va_up_ne _ _ n51]; exact k_ez
              have h52 : f45 nq0 = some (.inl (cI G, 6, .inl gq0)) := by rw [e46, va_up_ne _ _ nd_nq0_na1]; exact k_nq0
              have n54 : nr0 ≠ na1 := hne k_nr0 k_na1 (Nat.ne_of_beq_eq_false rfl)
              have h53 : f45 nr0 = some (.inr (3, [hd0, tl0, .int cn0])) := by rw [e46, va_up_ne _ _ n54]; exact k_nr0
              have n56 : eo ≠ na1 := hne k_eo k_na1 (Nat.ne_of_beq_eq_false rfl)
              have h55 : f45 eo = some (.inr (1, [.ref nw1, .ref na1, .ref nq1, .ref nr1, .int mg1, .int st1, .int tm1, .int sr1, .int li1, .int lp1, .int mi1])) := by rw [e46, va_up_ne _ _ n56]; exact k_eo
              have h57 : f45 nq1 = some (.inl (cI G, 6, .inl gq1)) := by rw [e46, va_up_ne _ _ (Ne.symm nd_na1_nq1)]; exact k_nq1
              have n59 : nr1 ≠ na1 := hne k_nr1 k_na1 (Nat.ne_of_beq_eq_false rfl)
              have h58 : f45 nr1 = some (.inr (3, [hd1, tl1, .int cn1])) := by rw [e46, va_up_ne _ _ n59]; exact k_nr1
              have n61 : xo ≠ na1 := hne k_xo k_na1 (Nat.ne_of_beq_eq_false rfl)
              have h60 : f45 xo = some (.inr (4, [.ref ez, .ref eo, .ref bu])) := by rw [e46, va_up_ne _ _ n61]; exact k_xo
              have h62 : f45 nw0 = some (.inl (cI G, 6, .inl gw0)) := by rw [e46, va_up_ne _ _ nd_nw0_na1]; exact k_nw0
              have h63 : f45 na0 = some (.inl (cI G, 6, .inl ga0)) := by rw [e46, va_up_ne _ _ nd_na0_na1]; exact k_na0
              have h64 : f45 nw1 = some (.inl (cI G, 6, .inl gw1)) := by rw [e46, va_up_ne _ _ nd_nw1_na1]; exact k_nw1
              have n66 : bu ≠ na1 := hne k_bu k_na1 (Nat.ne_of_beq_eq_false rfl)
              have h65 : f45 bu = some (.inr (0, [.ref bs, .ref bp, .ref bh, .ref bf, .ref bl, .ref bg, .int (nI n), .int (nI cg), .int (nI x)])) := by rw [e46, va_up_ne _ _ n66]; exact k_bu
              have n68 : bs ≠ na1 := hneL k_bs k_na1 (Nat.ne_of_beq_eq_false rfl)
              have h67 : f45 bs = some (.inl (cI G, 61, .inl (nf sa))) := by rw [e46, va_up_ne _ _ n68]; exact k_bs
              have n70 : bp ≠ na1 := hneL k_bp k_na1 (Nat.ne_of_beq_eq_false rfl)
              have h69 : f45 bp = some (.inl (cI G, 240, .inl (nf pk))) := by rw [e46, va_up_ne _ _ n70]; exact k_bp
              have n72 : bh ≠ na1 := hneL k_bh k_na1 (Nat.ne_of_beq_eq_false rfl)
              have h71 : f45 bh = some (.inl (cZ G, 240, .inl gh)) := by rw [e46, va_up_ne _ _ n72]; exact k_bh
              have n74 : bf ≠ na1 := hneL k_bf k_na1 (Nat.ne_of_beq_eq_false rfl)
              have h73 : f45 bf = some (.inl (cI G, 3, .inl (nf fl))) := by rw [e46, va_up_ne _ _ n74]; exact k_bf
              have n76 : bl ≠ na1 := hneL k_bl k_na1 (Nat.ne_of_beq_eq_false rfl)
              have h75 : f45 bl = some (.inl (cI G, 3, .inl gl)) := by rw [e46, va_up_ne _ _ n76]; exact k_bl
              have n78 : bg ≠ na1 := hneL k_bg k_na1 (Nat.ne_of_beq_eq_false rfl)
              have h77 : f45 bg = some (.inl (cI G, 60, .inl (nf gv))) := by rw [e46, va_up_ne _ _ n78]; exact k_bg
              exact hp_iret (v := (ga1 (o : Int32).toNatClampNeg)) B0 hw hS hr ⟨Nat.le_of_ble_eq_true rfl, Nat.le_of_ble_eq_true rfl⟩ dX4_allow_39 (⟨spc_0 ⟨(Or.inr k2), ho42⟩ (by have h1 := c43; have h2 := c44; simp only [jlt, jle, tq0, tq1, tq3, tq4, tq6, tq9, tq50, tq60, tq1023, tqm1] at h1 h2; exact ⟨by omega, by omega⟩), (by rw [selE_1 k2]), ⟨h60, ⟨_, _, _, _, _, _, _, _, _, _, h50, h52, h53, (fhd0.kp (show hKp [xo, ez, eo, bu, nw0, na0, nq0, nr0, nw1, na1, nq1, nr1, bs, bp, bh, bf, bl, bg] f f45 from (by rw [e46]; exact hKp.up k_na1 (Nat.ne_of_beq_eq_false rfl) (by simp)))), (ftl0.kp (show hKp [xo, ez, eo, bu, nw0, na0, nq0, nr0, nw1, na1, nq1, nr1, bs, bp, bh, bf, bl, bg] f f45 from (by rw [e46]; exact hKp.up k_na1 (Nat.ne_of_beq_eq_false rfl) (by simp)))), blp0⟩, ⟨_, _, _, _, _, _, _, _, _, _, h55, h57, h58, (fhd1.kp (show hKp [xo, ez, eo, bu, nw0, na0, nq0, nr0, nw1, na1, nq1, nr1, bs, bp, bh, bf, bl, bg] f f45 from (by rw [e46]; exact hKp.up k_na1 (Nat.ne_of_beq_eq_false rfl) (by simp)))), (ftl1.kp (show hKp [xo, ez, eo, bu, nw0, na0, nq0, nr0, nw1, na1, nq1, nr1, bs, bp, bh, bf, bl, bg] f f45 from (by rw [e46]; exact hKp.up k_na1 (Nat.ne_of_beq_eq_false rfl) (by simp)))), blp1⟩, h62, (by rw [updE_0 (by rw [k2]; decide)]; exact h63), h64, (by rw [updE_1 k2]; exact h48), h65, h67, h69, h71, h73, h75, h77, p49, hB9, hfl9, nd_ez_eo, nd_nr0_nr1, nd_nw0_na0, nd_nw0_nq0, nd_nw0_nw1, nd_nw0_na1, nd_nw0_nq1, nd_na0_nq0, nd_na0_nw1, nd_na0_na1, nd_na0_nq1, nd_nq0_nw1, nd_nq0_na1, nd_nq0_nq1, nd_nw1_na1, nd_nw1_nq1, nd_na1_nq1, nd_bh_bp, nd_bf_bl⟩, (show hKp [xo, ez, eo, bu, nw0, na0, nq0, nr0, nw1, na1, nq1, nr1, bs, bp, bh, bf, bl, bg] f f45 from (by rw [e46]; exact hKp.up k_na1 (Nat.ne_of_beq_eq_false rfl) (by simp)))⟩)
          · exact hp_throw (cls := eA) (names := tNm) B0 hw hS hout tF_eA qC_X4_35 qN_java_lang_IllegalArgumentException sR_X4_46 tA_eA tB_eA tG_eA hl9.1 dX4_allow_22 dX4_allow_25 dX4_allow_26 dX4_allow_28 dX4_allow_31 ⟨⟨Nat.le_of_ble_eq_true rfl, Nat.le_of_ble_eq_true rfl⟩, Nat.le_of_ble_eq_true rfl, Nat.le_of_ble_eq_true rfl⟩ ⟨Nat.le_of_ble_eq_true rfl, Nat.le_of_ble_eq_true rfl⟩ (⟨(Or.inr ⟨rfl, (spc_2 ⟨(Or.inr k2), ho42⟩ (fun h9 => by have h1 := c44; simp only [jlt, jle, tq0, tq1, tq3, tq4, tq6, tq9, tq50, tq60, tq1023, tqm1] at h1; obtain ⟨h3, h4⟩ := h9; omega))⟩), ⟨k_xo, ⟨_, _, _, _, _, _, _, _, _, _, k_ez, k_nq0, k_nr0, fhd0, ftl0, blp0⟩, ⟨_, _, _, _, _, _, _, _, _, _, k_eo, k_nq1, k_nr1, fhd1, ftl1, blp1⟩, k_nw0, k_na0, k_nw1, k_na1, k_bu, k_bs, k_bp, k_bh, k_bf, k_bl, k_bg, hPx, hB9, hfl9, nd_ez_eo, nd_nr0_nr1, nd_nw0_na0, nd_nw0_nq0, nd_nw0_nw1, nd_nw0_na1, nd_nw0_nq1, nd_na0_nq0, nd_na0_nw1, nd_na0_na1, nd_na0_nq1, nd_nq0_nw1, nd_nq0_na1, nd_nq0_nq1, nd_nw1_na1, nd_nw1_nq1, nd_na1_nq1, nd_bh_bp, nd_bf_bl⟩, hKp.rf⟩)

set_option maxHeartbeats 4000000 in
set_option maxRecDepth 100000 in
theorem c_W4_setMagic {l : Launch} (hl : l.stackTraces = false) (G : hG) (f : hM) (xo ez eo bu nw0 na0 nq0 nr0 nw1 na1 nq1 nr1 bs bp bh bf bl bg : Nat) (gw0 : Nat → Int32) (ga0 : Nat → Int32) (gw1 : Nat → Int32) (ga1 : Nat → Int32) (mg0 : Int32) (mg1 : Int32) (n : Nat) (a : Nat) (cg : Nat) (x : Nat) (sa : Nat → Nat) (pk : Nat → Nat) (fl : Nat → Nat) (gv : Nat → Nat) (gh : Nat → Int32) (gl : Nat → Int32) (hC : CW G f xo ez eo bu nw0 na0 nq0 nr0 nw1 na1 nq1 nr1 bs bp bh bf bl bg gw0 ga0 gw1 ga1 mg0 mg1 n a cg x sa pk fl gv gh gl) (i xv : Int32) : CT l yX4_setMagic (.code yX4_setMagic cX4_setMagic 3 (some .int)) 7 103 1 6 G [.ref xo, .int i, .int xv] f (fun v f1 => spc (sE i) True = 0 ∧ v = some (.int (if i = 0 then mg0 else mg1)) ∧ CW G f1 xo ez eo bu nw0 na0 nq0 nr0 nw1 na1 nq1 nr1 bs bp bh bf bl bg gw0 ga0 gw1 ga1 (if i = 0 then xv else mg0) (if i = 1 then xv else mg1) n a cg x sa pk fl gv gh gl ∧ hKp [xo, ez, eo, bu, nw0, na0, nq0, nr0, nw1, na1, nq1, nr1, bs, bp, bh, bf, bl, bg] f f1) (fun E f1 => ((E = eI ∧ spc (sE i) True = 1)) ∧ CW G f1 xo ez eo bu nw0 na0 nq0 nr0 nw1 na1 nq1 nr1 bs bp bh bf bl bg gw0 ga0 gw1 ga1 mg0 mg1 n a cg x sa pk fl gv gh gl ∧ hKp [xo, ez, eo, bu, nw0, na0, nq0, nr0, nw1, na1, nq1, nr1, bs, bp, bh, bf, bl, bg] f f1) := by
  refine hp_start hl (own := RX4) (by decide) rfl (Nat.le_of_ble_eq_true rfl) ?_
  intro p e s m args below meth c B0 hr hnm hout hw hS ls hl9
  have hx := B0.1
  have hb := B0.2.1
  have hl9 : lv_has ls 3 [(0, .ref xo), (1, .int i), (2, .int xv)] := hl9
  obtain ⟨k_xo, ⟨st0, tm0, sr0, li0, lp0, mi0, cn0, gq0, hd0, tl0, k_ez, k_nq0, k_nr0, fhd0, ftl0, blp0⟩, ⟨st1, tm1, sr1, li1, lp1, mi1, cn1, gq1, hd1, tl1, k_eo, k_nq1, k_nr1, fhd1, ftl1, blp1⟩, k_nw0, k_na0, k_nw1, k_na1, k_bu, k_bs, k_bp, k_bh, k_bf, k_bl, k_bg, hPx, hB9, hfl9, nd_ez_eo, nd_nr0_nr1, nd_nw0_na0, nd_nw0_nq0, nd_nw0_nw1, nd_nw0_na1, nd_nw0_nq1, nd_na0_nq0, nd_na0_nw1, nd_na0_na1, nd_na0_nq1, nd_nq0_nw1, nd_nq0_na1, nd_nq0_nq1, nd_nw1_na1, nd_nw1_nq1, nd_na1_nq1, nd_bh_bp, nd_bf_bl⟩ := id hC
  refine lv_aload_n hx hb dX4_setMagic_0 rfl (lv_at hl9 0 rfl) ?_
  refine lv_iload_n hx hb dX4_setMagic_1 rfl (lv_at hl9 1 rfl) ?_
  refine hp_V (ci := 4) (As := [.int i]) (rest := []) B0 hw hS (c_X4_endAt hl G f xo ez eo bu k_xo i) mV_X4_endAt qM_X4_28 rfl k_xo rfl rfl hl9.1 (Nat.le_of_ble_eq_true rfl) ⟨⟨Nat.le_of_ble_eq_true rfl, Nat.le_of_ble_eq_true rfl⟩, Nat.le_of_ble_eq_true rfl, Nat.le_of_ble_eq_true rfl⟩ dX4_setMagic_2 (fun E ce q9 f1 H locs hPX hw hS hce hcv hcl => ?_) (fun v f1 H locs hP hw hS => ?_)
  · obtain ⟨ef9, eE9, hE9⟩ := hPX
    rw [ef9] at hw
    subst eE9
    exact hp_out B0 hw hS hout hce hcv hcl ⟨Nat.le_of_ble_eq_true rfl, Nat.le_of_ble_eq_true rfl⟩ ⟨⟨rfl, (spc_1 hE9)⟩, ⟨k_xo, ⟨_, _, _, _, _, _, _, _, _, _, k_ez, k_nq0, k_nr0, fhd0, ftl0, blp0⟩, ⟨_, _, _, _, _, _, _, _, _, _, k_eo, k_nq1, k_nr1, fhd1, ftl1, blp1⟩, k_nw0, k_na0, k_nw1, k_na1, k_bu, k_bs, k_bp, k_bh, k_bf, k_bl, k_bg, hPx, hB9, hfl9, nd_ez_eo, nd_nr0_nr1, nd_nw0_na0, nd_nw0_nq0, nd_nw0_nw1, nd_nw0_na1, nd_nw0_nq1, nd_na0_nq0, nd_na0_nw1, nd_na0_na1, nd_na0_nq1, nd_nq0_nw1, nd_nq0_na1, nd_nq0_nq1, nd_nw1_na1, nd_nw1_nq1, nd_na1_nq1, nd_bh_bp, nd_bf_bl⟩, hKp.rf⟩
  · obtain ⟨ef9, hv9⟩ := hP
    rw [ef9] at hw
    rcases hv9 with ⟨k2, ev9⟩ | ⟨k2, ev9⟩
    · subst ev9
      refine W.eq (g2 := F0 m 5 ls [.ref ez]) rfl ?_
      refine lv_iload_n hx hb dX4_setMagic_5 rfl (lv_at hl9 2 rfl) ?_
      refine hp_V (ci := 1) (As := [.int xv]) (rest := []) B0 hw hS (c_X1_changeMagic hl G f ez nw0 na0 nq0 nr0 mg0 st0 tm0 sr0 li0 lp0 mi0 k_ez xv) mV_X1_changeMagic qM_X4_51 rfl k_ez rfl rfl hl9.1 (Nat.le_of_ble_eq_true rfl) ⟨⟨Nat.le_of_ble_eq_true rfl, Nat.le_of_ble_eq_true rfl⟩, Nat.le_of_ble_eq_true rfl, Nat.le_of_ble_eq_true rfl⟩ dX4_setMagic_6 (fun E ce q9 f3 H locs hPX hw hS hce hcv hcl => ?_) (fun v f3 H locs hP hw hS => ?_)
      · exact hPX.elim
      · obtain ⟨ev9, e4, k5⟩ := hP
        subst ev9
        have h6 : f3 ez = some (.inr (1, [.ref nw0, .ref na0, .ref nq0, .ref nr0, .int xv, .int st0, .int tm0, .int sr0, .int li0, .int lp0, .int mi0])) := by rw [e4, va_up_self]
        refine W.eq (g2 := F0 m 9 ls [.int mg0]) rfl ?_
        have p7 : PoolX G [] f3 := by rw [e4]; exact px_upd hPx k_ez (Nat.ne_of_beq_eq_false rfl) (Nat.ne_of_beq_eq_false rfl) (fun g9 h9 => nomatch h9)
        have n9 : nq0 ≠ ez := hne k_nq0 k_ez (Nat.ne_of_beq_eq_false rfl)
        have h8 : f3 nq0 = some (.inl (cI G, 6, .inl gq0)) := by rw [e4, va_up_ne _ _ n9]; exact k_nq0
        have n11 : nr0 ≠ ez := hne k_nr0 k_ez (Nat.ne_of_beq_eq_false rfl)
        have h10 : f3 nr0 = some (.inr (3, [hd0, tl0, .int cn0])) := by rw [e4, va_up_ne _ _ n11]; exact k_nr0
        have h12 : f3 eo = some (.inr (1, [.ref nw1, .ref na1, .ref nq1, .ref nr1, .int mg1, .int st1, .int tm1, .int sr1, .int li1, .int lp1, .int mi1])) := by rw [e4, va_up_ne _ _ (Ne.symm nd_ez_eo)]; exact k_eo
        have n14 : nq1 ≠ ez := hne k_nq1 k_ez (Nat.ne_of_beq_eq_false rfl)
        have h13 : f3 nq1 = some (.inl (cI G, 6, .inl gq1)) := by rw [e4, va_up_ne _ _ n14]; exact k_nq1
        have n16 : nr1 ≠ ez := hne k_nr1 k_ez (Nat.ne_of_beq_eq_false rfl)
        have h15 : f3 nr1 = some (.inr (3, [hd1, tl1, .int cn1])) := by rw [e4, va_up_ne _ _ n16]; exact k_nr1
        have n18 : xo ≠ ez := hne k_xo k_ez (Nat.ne_of_beq_eq_false rfl)
        have h17 : f3 xo = some (.inr (4, [.ref ez, .ref eo, .ref bu])) := by rw [e4, va_up_ne _ _ n18]; exact k_xo
        have n20 : nw0 ≠ ez := hne k_nw0 k_ez (Nat.ne_of_beq_eq_false rfl)
        have h19 : f3 nw0 = some (.inl (cI G, 6, .inl gw0)) := by rw [e4, va_up_ne _ _ n20]; exact k_nw0
        have n22 : na0 ≠ ez := hne k_na0 k_ez (Nat.ne_of_beq_eq_false rfl)
        have h21 : f3 na0 = some (.inl (cI G, 6, .inl ga0)) := by rw [e4, va_up_ne _ _ n22]; exact k_na0
        have n24 : nw1 ≠ ez := hne k_nw1 k_ez (Nat.ne_of_beq_eq_false rfl)
        have h23 : f3 nw1 = some (.inl (cI G, 6, .inl gw1)) := by rw [e4, va_up_ne _ _ n24]; exact k_nw1
        have n26 : na1 ≠ ez := hne k_na1 k_ez (Nat.ne_of_beq_eq_false rfl)
        have h25 : f3 na1 = some (.inl (cI G, 6, .inl ga1)) := by rw [e4, va_up_ne _ _ n26]; exact k_na1
        have n28 : bu ≠ ez := hne k_bu k_ez (Nat.ne_of_beq_eq_false rfl)
        have h27 : f3 bu = some (.inr (0, [.ref bs, .ref bp, .ref bh, .ref bf, .ref bl, .ref bg, .int (nI n), .int (nI cg), .int (nI x)])) := by rw [e4, va_up_ne _ _ n28]; exact k_bu
        have n30 : bs ≠ ez := hne k_bs k_ez (Nat.ne_of_beq_eq_false rfl)
        have h29 : f3 bs = some (.inl (cI G, 61, .inl (nf sa))) := by rw [e4, va_up_ne _ _ n30]; exact k_bs
        have n32 : bp ≠ ez := hne k_bp k_ez (Nat.ne_of_beq_eq_false rfl)
        have h31 : f3 bp = some (.inl (cI G, 240, .inl (nf pk))) := by rw [e4, va_up_ne _ _ n32]; exact k_bp
        have n34 : bh ≠ ez := hne k_bh k_ez (Nat.ne_of_beq_eq_false rfl)
        have h33 : f3 bh = some (.inl (cZ G, 240, .inl gh)) := by rw [e4, va_up_ne _ _ n34]; exact k_bh
        have n36 : bf ≠ ez := hne k_bf k_ez (Nat.ne_of_beq_eq_false rfl)
        have h35 : f3 bf = some (.inl (cI G, 3, .inl (nf fl))) := by rw [e4, va_up_ne _ _ n36]; exact k_bf
        have n38 : bl ≠ ez := hne k_bl k_ez (Nat.ne_of_beq_eq_false rfl)
        have h37 : f3 bl = some (.inl (cI G, 3, .inl gl)) := by rw [e4, va_up_ne _ _ n38]; exact k_bl
        have n40 : bg ≠ ez := hne k_bg k_ez (Nat.ne_of_beq_eq_false rfl)
        have h39 : f3 bg = some (.inl (cI G, 60, .inl (nf gv))) := by rw [e4, va_up_ne _ _ n40]; exact k_bg
        exact hp_iret (v := mg0) B0 hw hS hr ⟨Nat.le_of_ble_eq_true rfl, Nat.le_of_ble_eq_true rfl⟩ dX4_setMagic_9 (⟨spc_0 (Or.inl k2) trivial, (by rw [if_pos k2]), ⟨h17, (by rw [if_pos k2]; exact ⟨_, _, _, _, _, _, _, _, _, _, h6, h8, h10, (fhd0.kp (show hKp [xo, ez, eo, bu, nw0, na0, nq0, nr0, nw1, na1, nq1, nr1, bs, bp, bh, bf, bl, bg] f f3 from (by rw [e4]; exact hKp.up k_ez (Nat.ne_of_beq_eq_false rfl) (by simp)))), (ftl0.kp (show hKp [xo, ez, eo, bu, nw0, na0, nq0, nr0, nw1, na1, nq1, nr1, bs, bp, bh, bf, bl, bg] f f3 from (by rw [e4]; exact hKp.up k_ez (Nat.ne_of_beq_eq_false rfl) (by simp)))), blp0⟩), (by rw [if_neg (by rw [k2]; decide)]; exact ⟨_, _, _, _, _, _, _, _, _, _, h12, h13, h15, (fhd1.kp (show hKp [xo, ez, eo, bu, nw0, na0, nq0, nr0, nw1, na1, nq1, nr1, bs, bp, bh, bf, bl, bg] f f3 from (by rw [e4]; exact hKp.up k_ez (Nat.ne_of_beq_eq_false rfl) (by simp)))), (ftl1.kp (show hKp [xo, ez, eo, bu, nw0, na0, nq0, nr0, nw1, na1, nq1, nr1, bs, bp, bh, bf, bl, bg] f f3 from (by rw [e4]; exact hKp.up k_ez (Nat.ne_of_beq_eq_false rfl) (by simp)))), blp1⟩), h19, h21, h23, h25, h27, h29, h31, h33, h35, h37, h39, p7, hB9, hfl9, nd_ez_eo, nd_nr0_nr1, nd_nw0_na0, nd_nw0_nq0, nd_nw0_nw1, nd_nw0_na1, nd_nw0_nq1, nd_na0_nq0, nd_na0_nw1, nd_na0_na1, nd_na0_nq1, nd_nq0_nw1, nd_nq0_na1, nd_nq0_nq1, nd_nw1_na1, nd_nw1_nq1, nd_na1_nq1, nd_bh_bp, nd_bf_bl⟩, (show hKp [xo, ez, eo, bu, nw0, na0, nq0, nr0, nw1, na1, nq1, nr1, bs, bp, bh, bf, bl, bg] f f3 from (by rw [e4]; exact hKp.up k_ez (Nat.ne_of_beq_eq_false rfl) (by simp)))⟩)
    · subst ev9
      refine W.eq (g2 := F0 m 5 ls [.ref eo]) rfl ?_
      refine lv_iload_n hx hb dX4_setMagic_5 rfl (lv_at hl9 2 rfl) ?_
      refine hp_V (ci := 1) (As := [.int xv]) (rest := []) B0 hw hS (c_X1_changeMagic hl G f eo nw1 na1 nq1 nr1 mg1 st1 tm1 sr1 li1 lp1 mi1 k_eo xv) mV_X1_changeMagic qM_X4_51 rfl k_eo rfl rfl hl9.1 (Nat.le_of_ble_eq_true rfl) ⟨⟨Nat.le_of_ble_eq_true rfl, Nat.le_of_ble_eq_true rfl⟩, Nat.le_of_ble_eq_true rfl, Nat.le_of_ble_eq_true rfl⟩ dX4_setMagic_6 (fun E ce q9 f41 H locs hPX hw hS hce hcv hcl => ?_) (fun v f41 H locs hP hw hS => ?_)
      · exact hPX.elim
      · obtain ⟨ev9, e42, k43⟩ := hP
        subst ev9
        have h44 : f41 eo = some (.inr (1, [.ref nw1, .ref na1, .ref nq1, .ref nr1, .int xv, .int st1, .int tm1, .int sr1, .int li1, .int lp1, .int mi1])) := by rw [e42, va_up_self]
        refine W.eq (g2 := F0 m 9 ls [.int mg1]) rfl ?_
        have p45 : PoolX G [] f41 := by rw [e42]; exact px_upd hPx k_eo (Nat.ne_of_beq_eq_false rfl) (Nat.ne_of_beq_eq_false rfl) (fun g9 h9 => nomatch h9)
        have h46 : f41 ez = some (.inr (1, [.ref nw0, .ref na0, .ref nq0, .ref nr0, .int mg0, .int st0, .int tm0, .int sr0, .int li0, .int lp0, .int mi0])) := by rw [e42, va_up_ne _ _ nd_ez_eo]; exact k_ez
        have n48 : nq0 ≠ eo := hne k_nq0 k_eo (Nat.ne_of_beq_eq_false rfl)
        have h47 : f41 nq0 = some (.inl (cI G, 6, .inl gq0)) := by rw [e42, va_up_ne _ _ n48]; exact k_nq0
        have n50 : nr0 ≠ eo := hne k_nr0 k_eo (Nat.ne_of_beq_eq_false rfl)
        have h49 : f41 nr0 = some (.inr (3, [hd0, tl0, .int cn0])) := by rw [e42, va_up_ne _ _ n50]; exact k_nr0
        have n52 : nq1 ≠ eo := hne k_nq1 k_eo (Nat.ne_of_beq_eq_false rfl)
        have h51 : f41 nq1 = some (.inl (cI G, 6, .inl gq1)) := by rw [e42, va_up_ne _ _ n52]; exact k_nq1
        have n54 : nr1 ≠ eo := hne k_nr1 k_eo (Nat.ne_of_beq_eq_false rfl)
        have h53 : f41 nr1 = some (.inr (3, [hd1, tl1, .int cn1])) := by rw [e42, va_up_ne _ _ n54]; exact k_nr1
        have n56 : xo ≠ eo := hne k_xo k_eo (Nat.ne_of_beq_eq_false rfl)
        have h55 : f41 xo = some (.inr (4, [.ref ez, .ref eo, .ref bu])) := by rw [e42, va_up_ne _ _ n56]; exact k_xo
        have n58 : nw0 ≠ eo := hne k_nw0 k_eo (Nat.ne_of_beq_eq_false rfl)
        have h57 : f41 nw0 = some (.inl (cI G, 6, .inl gw0)) := by rw [e42, va_up_ne _ _ n58]; exact k_nw0
        have n60 : na0 ≠ eo := hne k_na0 k_eo (Nat.ne_of_beq_eq_false rfl)
        have h59 : f41 na0 = some (.inl (cI G, 6, .inl ga0)) := by rw [e42, va_up_ne _ _ n60]; exact k_na0
        have n62 : nw1 ≠ eo := hne k_nw1 k_eo (Nat.ne_of_beq_eq_false rfl)
        have h61 : f41 nw1 = some (.inl (cI G, 6, .inl gw1)) := by rw [e42, va_up_ne _ _ n62]; exact k_nw1
        have n64 : na1 ≠ eo := hne k_na1 k_eo (Nat.ne_of_beq_eq_false rfl)
        have h63 : f41 na1 = some (.inl (cI G, 6, .inl ga1)) := by rw [e42, va_up_ne _ _ n64]; exact k_na1
        have n66 : bu ≠ eo := hne k_bu k_eo (Nat.ne_of_beq_eq_false rfl)
        have h65 : f41 bu = some (.inr (0, [.ref bs, .ref bp, .ref bh, .ref bf, .ref bl, .ref bg, .int (nI n), .int (nI cg), .int (nI x)])) := by rw [e42, va_up_ne _ _ n66]; exact k_bu
        have n68 : bs ≠ eo := hne k_bs k_eo (Nat.ne_of_beq_eq_false rfl)
        have h67 : f41 bs = some (.inl (cI G, 61, .inl (nf sa))) := by rw [e42, va_up_ne _ _ n68]; exact k_bs
        have n70 : bp ≠ eo := hne k_bp k_eo (Nat.ne_of_beq_eq_false rfl)
        have h69 : f41 bp = some (.inl (cI G, 240, .inl (nf pk))) := by rw [e42, va_up_ne _ _ n70]; exact k_bp
        have n72 : bh ≠ eo := hne k_bh k_eo (Nat.ne_of_beq_eq_false rfl)
        have h71 : f41 bh = some (.inl (cZ G, 240, .inl gh)) := by rw [e42, va_up_ne _ _ n72]; exact k_bh
        have n74 : bf ≠ eo := hne k_bf k_eo (Nat.ne_of_beq_eq_false rfl)
        have h73 : f41 bf = some (.inl (cI G, 3, .inl (nf fl))) := by rw [e42, va_up_ne _ _ n74]; exact k_bf
        have n76 : bl ≠ eo := hne k_bl k_eo (Nat.ne_of_beq_eq_false rfl)
        have h75 : f41 bl = some (.inl (cI G, 3, .inl gl)) := by rw [e42, va_up_ne _ _ n76]; exact k_bl
        have n78 : bg ≠ eo := hne k_bg k_eo (Nat.ne_of_beq_eq_false rfl)
        have h77 : f41 bg = some (.inl (cI G, 60, .inl (nf gv))) := by rw [e42, va_up_ne _ _ n78]; exact k_bg
        exact hp_iret (v := mg1) B0 hw hS hr ⟨Nat.le_of_ble_eq_true rfl, Nat.le_of_ble_eq_true rfl⟩ dX4_setMagic_9 (⟨spc_0 (Or.inr k2) trivial, (by rw [if_neg (by rw [k2]; decide)]), ⟨h55, (by rw [if_neg (by rw [k2]; decide)]; exact ⟨_, _, _, _, _, _, _, _, _, _, h46, h47, h49, (fhd0.kp (show hKp [xo, ez, eo, bu, nw0, na0, nq0, nr0, nw1, na1, nq1, nr1, bs, bp, bh, bf, bl, bg] f f41 from (by rw [e42]; exact hKp.up k_eo (Nat.ne_of_beq_eq_false rfl) (by simp)))), (ftl0.kp (show hKp [xo, ez, eo, bu, nw0, na0, nq0, nr0, nw1, na1, nq1, nr1, bs, bp, bh, bf, bl, bg] f f41 from (by rw [e42]; exact hKp.up k_eo (Nat.ne_of_beq_eq_false rfl) (by simp)))), blp0⟩), (by rw [if_pos k2]; exact ⟨_, _, _, _, _, _, _, _, _, _, h44, h51, h53, (fhd1.kp (show hKp [xo, ez, eo, bu, nw0, na0, nq0, nr0, nw1, na1, nq1, nr1, bs, bp, bh, bf, bl, bg] f f41 from (by rw [e42]; exact hKp.up k_eo (Nat.ne_of_beq_eq_false rfl) (by simp)))), (ftl1.kp (show hKp [xo, ez, eo, bu, nw0, na0, nq0, nr0, nw1, na1, nq1, nr1, bs, bp, bh, bf, bl, bg] f f41 from (by rw [e42]; exact hKp.up k_eo (Nat.ne_of_beq_eq_false rfl) (by simp)))), blp1⟩), h57, h59, h61, h63, h65, h67, h69, h71, h73, h75, h77, p45, hB9, hfl9, nd_ez_eo, nd_nr0_nr1, nd_nw0_na0, nd_nw0_nq0, nd_nw0_nw1, nd_nw0_na1, nd_nw0_nq1, nd_na0_nq0, nd_na0_nw1, nd_na0_na1, nd_na0_nq1, nd_nq0_nw1, nd_nq0_na1, nd_nq0_nq1, nd_nw1_na1, nd_nw1_nq1, nd_na1_nq1, nd_bh_bp, nd_bf_bl⟩, (show hKp [xo, ez, eo, bu, nw0, na0, nq0, nr0, nw1, na1, nq1, nr1, bs, bp, bh, bf, bl, bg] f f41 from (by rw [e42]; exact hKp.up k_eo (Nat.ne_of_beq_eq_false rfl) (by simp)))⟩)

set_option maxHeartbeats 4000000 in
set_option maxRecDepth 100000 in
theorem c_W4_send {l : Launch} (hl : l.stackTraces = false) (G : hG) (f : hM) (xo ez eo bu nw0 na0 nq0 nr0 nw1 na1 nq1 nr1 bs bp bh bf bl bg : Nat) (gw0 : Nat → Int32) (ga0 : Nat → Int32) (gw1 : Nat → Int32) (ga1 : Nat → Int32) (mg0 : Int32) (mg1 : Int32) (n : Nat) (a : Nat) (cg : Nat) (x : Nat) (sa : Nat → Nat) (pk : Nat → Nat) (fl : Nat → Nat) (gv : Nat → Nat) (gh : Nat → Int32) (gl : Nat → Int32) (hC : CW G f xo ez eo bu nw0 na0 nq0 nr0 nw1 na1 nq1 nr1 bs bp bh bf bl bg gw0 ga0 gw1 ga1 mg0 mg1 n a cg x sa pk fl gv gh gl) (xv : Int32) : CT l yX4_send (.code yX4_send cX4_send 2 (some .int)) 6 82 1 6 G [.ref xo, .int xv] f (fun v f1 => spc (sP xv) (n < 60) = 0 ∧ v = some (.int (nI a)) ∧ CW G f1 xo ez eo bu nw0 na0 nq0 nr0 nw1 na1 nq1 nr1 bs bp bh bf bl bg gw0 ga0 gw1 ga1 mg0 mg1 (n + 1) (a + xv.toNatClampNeg) cg x (va_up sa (n + 1) (a + xv.toNatClampNeg)) (pkA pk n a xv.toNatClampNeg) fl gv gh gl ∧ hKp [xo, ez, eo, bu, nw0, na0, nq0, nr0, nw1, na1, nq1, nr1, bs, bp, bh, bf, bl, bg] f f1) (fun E f1 => ((E = eA ∧ spc (sP xv) (n < 60) = 1) ∨ (E = eS ∧ spc (sP xv) (n < 60) = 2)) ∧ CW G f1 xo ez eo bu nw0 na0 nq0 nr0 nw1 na1 nq1 nr1 bs bp bh bf bl bg gw0 ga0 gw1 ga1 mg0 mg1 n a cg x sa pk fl gv gh gl ∧ hKp [xo, ez, eo, bu, nw0, na0, nq0, nr0, nw1, na1, nq1, nr1, bs, bp, bh, bf, bl, bg] f f1) := by
  refine hp_start hl (own := RX4) (by decide) rfl (Nat.le_of_ble_eq_true rfl) ?_
  intro p e s m args below meth c B0 hr hnm hout hw hS ls hl9
  have hx := B0.1
  have hb := B0.2.1
  have hl9 : lv_has ls 2 [(0, .ref xo), (1, .int xv)] := hl9
  obtain ⟨k_xo, ⟨st0, tm0, sr0, li0, lp0, mi0, cn0, gq0, hd0, tl0, k_ez, k_nq0, k_nr0, fhd0, ftl0, blp0⟩, ⟨st1, tm1, sr1, li1, lp1, mi1, cn1, gq1, hd1, tl1, k_eo, k_nq1, k_nr1, fhd1, ftl1, blp1⟩, k_nw0, k_na0, k_nw1, k_na1, k_bu, k_bs, k_bp, k_bh, k_bf, k_bl, k_bg, hPx, hB9, hfl9, nd_ez_eo, nd_nr0_nr1, nd_nw0_na0, nd_nw0_nq0, nd_nw0_nw1, nd_nw0_na1, nd_nw0_nq1, nd_na0_nq0, nd_na0_nw1, nd_na0_na1, nd_na0_nq1, nd_nq0_nw1, nd_nq0_na1, nd_nq0_nq1, nd_nw1_na1, nd_nw1_nq1, nd_na1_nq1, nd_bh_bp, nd_bf_bl⟩ := id hC
  have hn60 := hB9.1
  refine lv_iload_n hx hb dX4_send_0 rfl (lv_at hl9 1 rfl) ?_
  refine lv_iconst (v := 1) hx hb dX4_send_1 (by decide) ?_
  refine lv_icmp_lt (tgt := 10) hx hb dX4_send_2 (by decide) (fun c1 => ?_) (fun c1 => ?_)
  · exact hp_throw (cls := eA) (names := tNm) B0 hw hS hout tF_eA qC_X4_35 qN_java_lang_IllegalArgumentException sR_X4_115 tA_eA tB_eA tG_eA hl9.1 dX4_send_10 dX4_send_13 dX4_send_14 dX4_send_16 dX4_send_19 ⟨⟨Nat.le_of_ble_eq_true rfl, Nat.le_of_ble_eq_true rfl⟩, Nat.le_of_ble_eq_true rfl, Nat.le_of_ble_eq_true rfl⟩ ⟨Nat.le_of_ble_eq_true rfl, Nat.le_of_ble_eq_true rfl⟩ (⟨(Or.inl ⟨rfl, (spc_1 (fun h9 => by have h1 := c1; simp only [jlt, jle, tq0, tq1, tq3, tq4, tq6, tq9, tq50, tq60, tq1023, tqm1] at h1; obtain ⟨h3, h4⟩ := h9; omega))⟩), ⟨k_xo, ⟨_, _, _, _, _, _, _, _, _, _, k_ez, k_nq0, k_nr0, fhd0, ftl0, blp0⟩, ⟨_, _, _, _, _, _, _, _, _, _, k_eo, k_nq1, k_nr1, fhd1, ftl1, blp1⟩, k_nw0, k_na0, k_nw1, k_na1, k_bu, k_bs, k_bp, k_bh, k_bf, k_bl, k_bg, hPx, hB9, hfl9, nd_ez_eo, nd_nr0_nr1, nd_nw0_na0, nd_nw0_nq0, nd_nw0_nw1, nd_nw0_na1, nd_nw0_nq1, nd_na0_nq0, nd_na0_nw1, nd_na0_na1, nd_na0_nq1, nd_nq0_nw1, nd_nq0_na1, nd_nq0_nq1, nd_nw1_na1, nd_nw1_nq1, nd_na1_nq1, nd_bh_bp, nd_bf_bl⟩, hKp.rf⟩)
  · refine lv_iload_n hx hb dX4_send_5 rfl (lv_at hl9 1 rfl) ?_
    refine lv_iconst (v := 4) hx hb dX4_send_6 (by decide) ?_
    refine lv_icmp_le (tgt := 20) hx hb dX4_send_7 (by decide) (fun c2 => ?_) (fun c2 => ?_)
    · refine lv_aload_n hx hb dX4_send_20 rfl (lv_at hl9 0 rfl) ?_
      refine hp_get B0 hw 4 rfl in_X4 k_xo 2 (by decide) qF_X4_24 rfl dX4_send_21 ?_
      refine hp_getN B0 hw 0 rfl in_X0 k_bu 6 (by decide) oF_X4_117 rfl dX4_send_24 ?_
      refine lv_bipush (v := 60) hx hb dX4_send_27 (by decide) ?_
      refine lv_icmp_lt (tgt := 42) hx hb dX4_send_29 (by decide) (fun c3 => ?_) (fun c3 => ?_)
      · have hsP : sP xv := (by have h1 := c1; have h2 := c2; simp only [jlt, jle, tq0, tq1, tq3, tq4, tq6, tq9, tq50, tq60, tq1023, tqm1] at h1 h2; exact ⟨by omega, by omega⟩)
        have hn : n < 60 := Nat.lt_of_not_le (fun h9 => nI_nlt (a := n) (b := 60) h9 (by omega) c3)
        obtain ⟨k, hk4, eT⟩ := nI_of2 (x := xv) (M := 4) (n := 4) rfl (by have h1 := hsP.1; simp only [jlt, jle, tq0, tq1, tq3, tq4, tq6, tq9, tq50, tq60, tq1023, tqm1]; omega) (by have h1 := hsP.2; simp only [jlt, jle, tq0, tq1, tq3, tq4, tq6, tq9, tq50, tq60, tq1023, tqm1]; omega)
        have hk1 : 1 ≤ k := by have h1 := hsP.1; rw [eT, nI_toInt (by omega)] at h1; omega
        subst eT
        refine lv_aload_n hx hb dX4_send_42 rfl (lv_at hl9 0 rfl) ?_
        refine hp_get B0 hw 4 rfl in_X4 k_xo 2 (by decide) qF_X4_24 rfl dX4_send_43 ?_
        refine lv_iload_n hx hb dX4_send_46 rfl (lv_at hl9 1 rfl) ?_
        refine hp_V (ci := 0) (As := [.int (nI k)]) (rest := []) B0 hw hS (c_X0_addPacket hl G f bu bs bp bh bf bl bg n a cg x sa pk fl gv gh gl k_bu k_bs k_bp  hB9 hn k hk1 hk4) mV_X0_addPacket qM_X4_122 rfl k_bu rfl rfl hl9.1 (Nat.le_of_ble_eq_true rfl) ⟨⟨Nat.le_of_ble_eq_true rfl, Nat.le_of_ble_eq_true rfl⟩, Nat.le_of_ble_eq_true rfl, Nat.le_of_ble_eq_true rfl⟩ dX4_send_47 (fun E ce q9 f4 H locs hPX hw hS hce hcv hcl => ?_) (fun v f4 H locs hP hw hS => ?_)
        · exact hPX.elim
        · obtain ⟨ev9, h5, h6, h7, k8⟩ := hP
          subst ev9
          refine W.eq (g2 := F0 m 50 ls [.int (nI a)]) rfl ?_
          have p9 : PoolX G [] f4 := px_eq hPx k8 (fun b9 hb9 => by
              simp only [List.mem_cons, List.not_mem_nil, or_false] at hb9
              rcases hb9 with hb9 | hb9 | hb9
              · rw [hb9]; exact ⟨_, _, k_bu, h5, (Nat.ne_of_beq_eq_false rfl), (Nat.ne_of_beq_eq_false rfl), (Nat.ne_of_beq_eq_false rfl)⟩
              · rw [hb9]; exact ⟨_, _, k_bp, h6, (Nat.ne_of_beq_eq_false rfl), (Nat.ne_of_beq_eq_false rfl), (Nat.ne_of_beq_eq_false rfl)⟩
              · rw [hb9]; exact ⟨_, _, k_bs, h7, (Nat.ne_of_beq_eq_false rfl), (Nat.ne_of_beq_eq_false rfl), (Nat.ne_of_beq_eq_false rfl)⟩)
          have n11 : ez ≠ bs := hne k_ez k_bs (Nat.ne_of_beq_eq_false rfl)
          have n12 : ez ≠ bp := hne k_ez k_bp (Nat.ne_of_beq_eq_false rfl)
          have n13 : ez ≠ bu := hne k_ez k_bu (Nat.ne_of_beq_eq_false rfl)
          have h10 : f4 ez = some (.inr (1, [.ref nw0, .ref na0, .ref nq0, .ref nr0, .int mg0, .int st0, .int tm0, .int sr0, .int li0, .int lp0, .int mi0])) := (hEq.k k8) _ _ k_ez (ninc n13 (ninc n12 (ninc n11 nin0)))
          have n15 : nq0 ≠ bs := hneL k_nq0 k_bs (Nat.ne_of_beq_eq_false rfl)
          have n16 : nq0 ≠ bp := hneL k_nq0 k_bp (Nat.ne_of_beq_eq_false rfl)
          have n17 : nq0 ≠ bu := hne k_nq0 k_bu (Nat.ne_of_beq_eq_false rfl)
          have h14 : f4 nq0 = some (.inl (cI G, 6, .inl gq0)) := (hEq.k k8) _ _ k_nq0 (ninc n17 (ninc n16 (ninc n15 nin0)))
          have n19 : nr0 ≠ bs := hne k_nr0 k_bs (Nat.ne_of_beq_eq_false rfl)
          have n20 : nr0 ≠ bp := hne k_nr0 k_bp (Nat.ne_of_beq_eq_false rfl)
          have n21 : nr0 ≠ bu := hne k_nr0 k_bu (Nat.ne_of_beq_eq_false rfl)
          have h18 : f4 nr0 = some (.inr (3, [hd0, tl0, .int cn0])) := (hEq.k k8) _ _ k_nr0 (ninc n21 (ninc n20 (ninc n19 nin0)))
          have n23 : eo ≠ bs := hne k_eo k_bs (Nat.ne_of_beq_eq_false rfl)
          have n24 : eo ≠ bp := hne k_eo k_bp (Nat.ne_of_beq_eq_false rfl)
          have n25 : eo ≠ bu := hne k_eo k_bu (Nat.ne_of_beq_eq_false rfl)
          have h22 : f4 eo = some (.inr (1, [.ref nw1, .ref na1, .ref nq1, .ref nr1, .int mg1, .int st1, .int tm1, .int sr1, .int li1, .int lp1, .int mi1])) := (hEq.k k8) _ _ k_eo (ninc n25 (ninc n24 (ninc n23 nin0)))
          have n27 : nq1 ≠ bs := hneL k_nq1 k_bs (Nat.ne_of_beq_eq_false rfl)
          have n28 : nq1 ≠ bp := hneL k_nq1 k_bp (Nat.ne_of_beq_eq_false rfl)
          have n29 : nq1 ≠ bu := hne k_nq1 k_bu (Nat.ne_of_beq_eq_false rfl)
          have h26 : f4 nq1 = some (.inl (cI G, 6, .inl gq1)) := (hEq.k k8) _ _ k_nq1 (ninc n29 (ninc n28 (ninc n27 nin0)))
          have n31 : nr1 ≠ bs := hne k_nr1 k_bs (Nat.ne_of_beq_eq_false rfl)
          have n32 : nr1 ≠ bp := hne k_nr1 k_bp (Nat.ne_of_beq_eq_false rfl)
          have n33 : nr1 ≠ bu := hne k_nr1 k_bu (Nat.ne_of_beq_eq_false rfl)
          have h30 : f4 nr1 = some (.inr (3, [hd1, tl1, .int cn1])) := (hEq.k k8) _ _ k_nr1 (ninc n33 (ninc n32 (ninc n31 nin0)))
          have n35 : xo ≠ bs := hne k_xo k_bs (Nat.ne_of_beq_eq_false rfl)
          have n36 : xo ≠ bp := hne k_xo k_bp (Nat.ne_of_beq_eq_false rfl)
          have n37 : xo ≠ bu := hne k_xo k_bu (Nat.ne_of_beq_eq_false rfl)
          have h34 : f4 xo = some (.inr (4, [.ref ez, .ref eo, .ref bu])) := (hEq.k k8) _ _ k_xo (ninc n37 (ninc n36 (ninc n35 nin0)))
          have n39 : nw0 ≠ bs := hneL k_nw0 k_bs (Nat.ne_of_beq_eq_false rfl)
          have n40 : nw0 ≠ bp := hneL k_nw0 k_bp (Nat.ne_of_beq_eq_false rfl)
          have n41 : nw0 ≠ bu := hne k_nw0 k_bu (Nat.ne_of_beq_eq_false rfl)
          have h38 : f4 nw0 = some (.inl (cI G, 6, .inl gw0)) := (hEq.k k8) _ _ k_nw0 (ninc n41 (ninc n40 (ninc n39 nin0)))
          have n43 : na0 ≠ bs := hneL k_na0 k_bs (Nat.ne_of_beq_eq_false rfl)
          have n44 : na0 ≠ bp := hneL k_na0 k_bp (Nat.ne_of_beq_eq_false rfl)
          have n45 : na0 ≠ bu := hne k_na0 k_bu (Nat.ne_of_beq_eq_false rfl)
          have h42 : f4 na0 = some (.inl (cI G, 6, .inl ga0)) := (hEq.k k8) _ _ k_na0 (ninc n45 (ninc n44 (ninc n43 nin0)))
          have n47 : nw1 ≠ bs := hneL k_nw1 k_bs (Nat.ne_of_beq_eq_false rfl)
          have n48 : nw1 ≠ bp := hneL k_nw1 k_bp (Nat.ne_of_beq_eq_false rfl)
          have n49 : nw1 ≠ bu := hne k_nw1 k_bu (Nat.ne_of_beq_eq_false rfl)
          have h46 : f4 nw1 = some (.inl (cI G, 6, .inl gw1)) := (hEq.k k8) _ _ k_nw1 (ninc n49 (ninc n48 (ninc n47 nin0)))
          have n51 : na1 ≠ bs := hneL k_na1 k_bs (Nat.ne_of_beq_eq_false rfl)
          have n52 : na1 ≠ bp := hneL k_na1 k_bp (Nat.ne_of_beq_eq_false rfl)
          have n53 : na1 ≠ bu := hne k_na1 k_bu (Nat.ne_of_beq_eq_false rfl)
          have h50 : f4 na1 = some (.inl (cI G, 6, .inl ga1)) := (hEq.k k8) _ _ k_na1 (ninc n53 (ninc n52 (ninc n51 nin0)))
          have n55 : bh ≠ bs := hneL k_bh k_bs (Nat.ne_of_beq_eq_false rfl)
          have n56 : bh ≠ bu := hne k_bh k_bu (Nat.ne_of_beq_eq_false rfl)
          have h54 : f4 bh = some (.inl (cZ G, 240, .inl gh)) := (hEq.k k8) _ _ k_bh (ninc n56 (ninc nd_bh_bp (ninc n55 nin0)))
          have n58 : bf ≠ bs := hneL k_bf k_bs (Nat.ne_of_beq_eq_false rfl)
          have n59 : bf ≠ bp := hneL k_bf k_bp (Nat.ne_of_beq_eq_false rfl)
          have n60 : bf ≠ bu := hne k_bf k_bu (Nat.ne_of_beq_eq_false rfl)
          have h57 : f4 bf = some (.inl (cI G, 3, .inl (nf fl))) := (hEq.k k8) _ _ k_bf (ninc n60 (ninc n59 (ninc n58 nin0)))
          have n62 : bl ≠ bs := hneL k_bl k_bs (Nat.ne_of_beq_eq_false rfl)
          have n63 : bl ≠ bp := hneL k_bl k_bp (Nat.ne_of_beq_eq_false rfl)
          have n64 : bl ≠ bu := hne k_bl k_bu (Nat.ne_of_beq_eq_false rfl)
          have h61 : f4 bl = some (.inl (cI G, 3, .inl gl)) := (hEq.k k8) _ _ k_bl (ninc n64 (ninc n63 (ninc n62 nin0)))
          have n66 : bg ≠ bs := hneL k_bg k_bs (Nat.ne_of_beq_eq_false rfl)
          have n67 : bg ≠ bp := hneL k_bg k_bp (Nat.ne_of_beq_eq_false rfl)
          have n68 : bg ≠ bu := hne k_bg k_bu (Nat.ne_of_beq_eq_false rfl)
          have h65 : f4 bg = some (.inl (cI G, 60, .inl (nf gv))) := (hEq.k k8) _ _ k_bg (ninc n68 (ninc n67 (ninc n66 nin0)))
          exact hp_iret (v := (nI a)) B0 hw hS hr ⟨Nat.le_of_ble_eq_true rfl, Nat.le_of_ble_eq_true rfl⟩ dX4_send_50 (⟨spc_0 hsP hn, rfl, ⟨h34, ⟨_, _, _, _, _, _, _, _, _, _, h10, h14, h18, (fhd0.kp (show hKp [xo, ez, eo, bu, nw0, na0, nq0, nr0, nw1, na1, nq1, nr1, bs, bp, bh, bf, bl, bg] f f4 from ((hKp.of (hEq.k k8) (fun x9 hx9 k9 h9 => by
              simp only [List.mem_cons, List.not_mem_nil, or_false] at hx9
              rcases hx9 with hx9 | hx9 | hx9
              · rw [hx9, k_bu] at h9; cases h9
              · rw [hx9, k_bp] at h9; cases h9
              · rw [hx9, k_bs] at h9; cases h9)).mono (fun x9 hx9 => by simp only [List.mem_cons, List.not_mem_nil, or_false] at hx9; rcases hx9 with hx9 | hx9 | hx9 <;> (rw [hx9]; simp))))), (ftl0.kp (show hKp [xo, ez, eo, bu, nw0, na0, nq0, nr0, nw1, na1, nq1, nr1, bs, bp, bh, bf, bl, bg] f f4 from ((hKp.of (hEq.k k8) (fun x9 hx9 k9 h9 => by
              simp only [List.mem_cons, List.not_mem_nil, or_false] at hx9
              rcases hx9 with hx9 | hx9 | hx9
              · rw [hx9, k_bu] at h9; cases h9
              · rw [hx9, k_bp] at h9; cases h9
              · rw [hx9, k_bs] at h9; cases h9)).mono (fun x9 hx9 => by simp only [List.mem_cons, List.not_mem_nil, or_false] at hx9; rcases hx9 with hx9 | hx9 | hx9 <;> (rw [hx9]; simp))))), blp0⟩, ⟨_, _, _, _, _, _, _, _, _, _, h22, h26, h30, (fhd1.kp (show hKp [xo, ez, eo, bu, nw0, na0, nq0, nr0, nw1, na1, nq1, nr1, bs, bp, bh, bf, bl, bg] f f4 from ((hKp.of (hEq.k k8) (fun x9 hx9 k9 h9 => by
              simp only [List.mem_cons, List.not_mem_nil, or_false] at hx9
              rcases hx9 with hx9 | hx9 | hx9
              · rw [hx9, k_bu] at h9; cases h9
              · rw [hx9, k_bp] at h9; cases h9
              · rw [hx9, k_bs] at h9; cases h9)).mono (fun x9 hx9 => by simp only [List.mem_cons, List.not_mem_nil, or_false] at hx9; rcases hx9 with hx9 | hx9 | hx9 <;> (rw [hx9]; simp))))), (ftl1.kp (show hKp [xo, ez, eo, bu, nw0, na0, nq0, nr0, nw1, na1, nq1, nr1, bs, bp, bh, bf, bl, bg] f f4 from ((hKp.of (hEq.k k8) (fun x9 hx9 k9 h9 => by
              simp only [List.mem_cons, List.not_mem_nil, or_false] at hx9
              rcases hx9 with hx9 | hx9 | hx9
              · rw [hx9, k_bu] at h9; cases h9
              · rw [hx9, k_bp] at h9; cases h9
              · rw [hx9, k_bs] at h9; cases h9)).mono (fun x9 hx9 => by simp only [List.mem_cons, List.not_mem_nil, or_false] at hx9; rcases hx9 with hx9 | hx9 | hx9 <;> (rw [hx9]; simp))))), blp1⟩, h38, h42, h46, h50, h5, (by rw [nI_clamp (by omega)]; exact h7), (by rw [nI_clamp (by omega)]; exact h6), h54, h57, h61, h65, p9, (by rw [nI_clamp (by omega)]; exact hB9.add hn hk1 hk4), hfl9, nd_ez_eo, nd_nr0_nr1, nd_nw0_na0, nd_nw0_nq0, nd_nw0_nw1, nd_nw0_na1, nd_nw0_nq1, nd_na0_nq0, nd_na0_nw1, nd_na0_na1, nd_na0_nq1, nd_nq0_nw1, nd_nq0_na1, nd_nq0_nq1, nd_nw1_na1, nd_nw1_nq1, nd_na1_nq1, nd_bh_bp, nd_bf_bl⟩, (show hKp [xo, ez, eo, bu, nw0, na0, nq0, nr0, nw1, na1, nq1, nr1, bs, bp, bh, bf, bl, bg] f f4 from ((hKp.of (hEq.k k8) (fun x9 hx9 k9 h9 => by
              simp only [List.mem_cons, List.not_mem_nil, or_false] at hx9
              rcases hx9 with hx9 | hx9 | hx9
              · rw [hx9, k_bu] at h9; cases h9
              · rw [hx9, k_bp] at h9; cases h9
              · rw [hx9, k_bs] at h9; cases h9)).mono (fun x9 hx9 => by simp only [List.mem_cons, List.not_mem_nil, or_false] at hx9; rcases hx9 with hx9 | hx9 | hx9 <;> (rw [hx9]; simp))))⟩)
      · exact hp_throw (cls := eS) (names := tNm) B0 hw hS hout tF_eS qC_X4_59 qN_java_lang_IllegalStateException sR_X4_120 tA_eS tB_eS tG_eS hl9.1 dX4_send_32 dX4_send_35 dX4_send_36 dX4_send_38 dX4_send_41 ⟨⟨Nat.le_of_ble_eq_true rfl, Nat.le_of_ble_eq_true rfl⟩, Nat.le_of_ble_eq_true rfl, Nat.le_of_ble_eq_true rfl⟩ ⟨Nat.le_of_ble_eq_true rfl, Nat.le_of_ble_eq_true rfl⟩ (⟨(Or.inr ⟨rfl, (spc_2 (by have h1 := c1; have h2 := c2; simp only [jlt, jle, tq0, tq1, tq3, tq4, tq6, tq9, tq50, tq60, tq1023, tqm1] at h1 h2; exact ⟨by omega, by omega⟩) (fun h9 => c3 (nI_lt (a := n) (b := 60) h9 (by omega))))⟩), ⟨k_xo, ⟨_, _, _, _, _, _, _, _, _, _, k_ez, k_nq0, k_nr0, fhd0, ftl0, blp0⟩, ⟨_, _, _, _, _, _, _, _, _, _, k_eo, k_nq1, k_nr1, fhd1, ftl1, blp1⟩, k_nw0, k_na0, k_nw1, k_na1, k_bu, k_bs, k_bp, k_bh, k_bf, k_bl, k_bg, hPx, hB9, hfl9, nd_ez_eo, nd_nr0_nr1, nd_nw0_na0, nd_nw0_nq0, nd_nw0_nw1, nd_nw0_na1, nd_nw0_nq1, nd_na0_nq0, nd_na0_nw1, nd_na0_na1, nd_na0_nq1, nd_nq0_nw1, nd_nq0_na1, nd_nq0_nq1, nd_nw1_na1, nd_nw1_nq1, nd_na1_nq1, nd_bh_bp, nd_bf_bl⟩, hKp.rf⟩)
    · exact hp_throw (cls := eA) (names := tNm) B0 hw hS hout tF_eA qC_X4_35 qN_java_lang_IllegalArgumentException sR_X4_115 tA_eA tB_eA tG_eA hl9.1 dX4_send_10 dX4_send_13 dX4_send_14 dX4_send_16 dX4_send_19 ⟨⟨Nat.le_of_ble_eq_true rfl, Nat.le_of_ble_eq_true rfl⟩, Nat.le_of_ble_eq_true rfl, Nat.le_of_ble_eq_true rfl⟩ ⟨Nat.le_of_ble_eq_true rfl, Nat.le_of_ble_eq_true rfl⟩ (⟨(Or.inl ⟨rfl, (spc_1 (fun h9 => by have h1 := c2; simp only [jlt, jle, tq0, tq1, tq3, tq4, tq6, tq9, tq50, tq60, tq1023, tqm1] at h1; obtain ⟨h3, h4⟩ := h9; omega))⟩), ⟨k_xo, ⟨_, _, _, _, _, _, _, _, _, _, k_ez, k_nq0, k_nr0, fhd0, ftl0, blp0⟩, ⟨_, _, _, _, _, _, _, _, _, _, k_eo, k_nq1, k_nr1, fhd1, ftl1, blp1⟩, k_nw0, k_na0, k_nw1, k_na1, k_bu, k_bs, k_bp, k_bh, k_bf, k_bl, k_bg, hPx, hB9, hfl9, nd_ez_eo, nd_nr0_nr1, nd_nw0_na0, nd_nw0_nq0, nd_nw0_nw1, nd_nw0_na1, nd_nw0_nq1, nd_na0_nq0, nd_na0_nw1, nd_na0_na1, nd_na0_nq1, nd_nq0_nw1, nd_nq0_na1, nd_nq0_nq1, nd_nw1_na1, nd_nw1_nq1, nd_na1_nq1, nd_bh_bp, nd_bf_bl⟩, hKp.rf⟩)

set_option maxHeartbeats 4000000 in
set_option maxRecDepth 100000 in
theorem c_W4_refuseEmptyLine {l : Launch} (hl : l.stackTraces = false) (G : hG) (f : hM) (xo ez eo bu nw0 na0 nq0 nr0 nw1 na1 nq1 nr1 bs bp bh bf bl bg : Nat) (gw0 : Nat → Int32) (ga0 : Nat → Int32) (gw1 : Nat → Int32) (ga1 : Nat → Int32) (mg0 : Int32) (mg1 : Int32) (n : Nat) (a : Nat) (cg : Nat) (x : Nat) (sa : Nat → Nat) (pk : Nat → Nat) (fl : Nat → Nat) (gv : Nat → Nat) (gh : Nat → Int32) (gl : Nat → Int32) (hC : CW G f xo ez eo bu nw0 na0 nq0 nr0 nw1 na1 nq1 nr1 bs bp bh bf bl bg gw0 ga0 gw1 ga1 mg0 mg1 n a cg x sa pk fl gv gh gl) (xv : Int32) : CT l yX4_refuseEmptyLine (.code yX4_refuseEmptyLine cX4_refuseEmptyLine 2 none) 6 82 1 6 G [.ref xo, .int xv] f (fun v f1 => f1 = f ∧ v = none ∧ sL xv ∧ fl xv.toNatClampNeg < a) (fun E f1 => f1 = f ∧ ((E = eI ∧ spc (sL xv) (fl xv.toNatClampNeg < a) = 1) ∨ (E = eS ∧ spc (sL xv) (fl xv.toNatClampNeg < a) = 2))) := by
  refine hp_start hl (own := RX4) (by decide) rfl (Nat.le_of_ble_eq_true rfl) ?_
  intro p e s m args below meth c B0 hr hnm hout hw hS ls hl9
  have hx := B0.1
  have hb := B0.2.1
  have hl9 : lv_has ls 2 [(0, .ref xo), (1, .int xv)] := hl9
  obtain ⟨k_xo, ⟨st0, tm0, sr0, li0, lp0, mi0, cn0, gq0, hd0, tl0, k_ez, k_nq0, k_nr0, fhd0, ftl0, blp0⟩, ⟨st1, tm1, sr1, li1, lp1, mi1, cn1, gq1, hd1, tl1, k_eo, k_nq1, k_nr1, fhd1, ftl1, blp1⟩, k_nw0, k_na0, k_nw1, k_na1, k_bu, k_bs, k_bp, k_bh, k_bf, k_bl, k_bg, hPx, hB9, hfl9, nd_ez_eo, nd_nr0_nr1, nd_nw0_na0, nd_nw0_nq0, nd_nw0_nw1, nd_nw0_na1, nd_nw0_nq1, nd_na0_nq0, nd_na0_nw1, nd_na0_na1, nd_na0_nq1, nd_nq0_nw1, nd_nq0_na1, nd_nq0_nq1, nd_nw1_na1, nd_nw1_nq1, nd_na1_nq1, nd_bh_bp, nd_bf_bl⟩ := id hC
  refine lv_iload_n hx hb dX4_refuseEmptyLine_0 rfl (lv_at hl9 1 rfl) ?_
  refine lv_if_lt (tgt := 9) hx hb dX4_refuseEmptyLine_1 (by decide) (fun c1 => ?_) (fun c1 => ?_)
  · exact hp_throw (cls := eI) (names := tNm) B0 hw hS hout tF_eI qC_X4_137 qN_java_lang_IndexOutOfBoundsException sR_X4_158 tA_eI tB_eI tG_eI hl9.1 dX4_refuseEmptyLine_9 dX4_refuseEmptyLine_12 dX4_refuseEmptyLine_13 dX4_refuseEmptyLine_15 dX4_refuseEmptyLine_18 ⟨⟨Nat.le_of_ble_eq_true rfl, Nat.le_of_ble_eq_true rfl⟩, Nat.le_of_ble_eq_true rfl, Nat.le_of_ble_eq_true rfl⟩ ⟨Nat.le_of_ble_eq_true rfl, Nat.le_of_ble_eq_true rfl⟩ (⟨rfl, Or.inl ⟨rfl, spc_1 (fun h9 => by have h1 := c1; simp only [jlt, jle, tq0, tq1, tq3, tq4, tq6, tq9, tq50, tq60, tq1023, tqm1] at h1; obtain ⟨h3, h4⟩ := h9; omega)⟩⟩)
  · refine lv_iload_n hx hb dX4_refuseEmptyLine_4 rfl (lv_at hl9 1 rfl) ?_
    refine lv_iconst (v := 3) hx hb dX4_refuseEmptyLine_5 (by decide) ?_
    refine lv_icmp_lt (tgt := 19) hx hb dX4_refuseEmptyLine_6 (by decide) (fun c2 => ?_) (fun c2 => ?_)
    · have hsl : sL xv := (by have h1 := c1; have h2 := c2; simp only [jlt, jle, tq0, tq1, tq3, tq4, tq6, tq9, tq50, tq60, tq1023, tqm1] at h1 h2; exact ⟨by omega, by omega⟩)
      have hop := vin3 hsl
      refine lv_aload_n hx hb dX4_refuseEmptyLine_19 rfl (lv_at hl9 0 rfl) ?_
      refine hp_get B0 hw 4 rfl in_X4 k_xo 2 (by decide) qF_X4_24 rfl dX4_refuseEmptyLine_20 ?_
      refine lv_iload_n hx hb dX4_refuseEmptyLine_23 rfl (lv_at hl9 1 rfl) ?_
      refine hp_V (ci := 0) (As := [.int xv]) (rest := []) B0 hw hS (c_X0_hasPieceOn hl G f bu bs bp bh bf bl bg n a cg x sa pk fl gv gh gl k_bu k_bs k_bf  hB9 xv hop (Nat.lt_trans (hfl9 _ (lt3 hop)) (by decide))) mV_X0_hasPieceOn qM_X4_160 rfl k_bu rfl rfl hl9.1 (Nat.le_of_ble_eq_true rfl) ⟨⟨Nat.le_of_ble_eq_true rfl, Nat.le_of_ble_eq_true rfl⟩, Nat.le_of_ble_eq_true rfl, Nat.le_of_ble_eq_true rfl⟩ dX4_refuseEmptyLine_24 (fun E ce q9 f3 H locs hPX hw hS hce hcv hcl => ?_) (fun v f3 H locs hP hw hS => ?_)
      · exact hPX.elim
      · obtain ⟨ef9, hv9⟩ := hP
        rw [ef9] at hw
        rcases hv9 with ⟨ev9, hpl⟩ | ⟨ev9, hpl⟩
        · subst ev9
          refine W.eq (g2 := F0 m 27 ls [.int 1]) rfl ?_
          refine lv_if_ne (tgt := 40) hx hb dX4_refuseEmptyLine_27 (by decide) (fun _ => ?_) (fun c9 => absurd c9 (by decide))
          exact hp_vret B0 hw hS hr ⟨Nat.le_of_ble_eq_true rfl, Nat.le_of_ble_eq_true rfl⟩ dX4_refuseEmptyLine_40 (⟨rfl, rfl, hsl, hpl⟩)
        · subst ev9
          refine W.eq (g2 := F0 m 27 ls [.int 0]) rfl ?_
          refine lv_if_ne (tgt := 40) hx hb dX4_refuseEmptyLine_27 (by decide) (fun c9 => absurd (by decide) c9) (fun _ => ?_)
          exact hp_throw (cls := eS) (names := tNm) B0 hw hS hout tF_eS qC_X4_59 qN_java_lang_IllegalStateException sR_X4_164 tA_eS tB_eS tG_eS hl9.1 dX4_refuseEmptyLine_30 dX4_refuseEmptyLine_33 dX4_refuseEmptyLine_34 dX4_refuseEmptyLine_36 dX4_refuseEmptyLine_39 ⟨⟨Nat.le_of_ble_eq_true rfl, Nat.le_of_ble_eq_true rfl⟩, Nat.le_of_ble_eq_true rfl, Nat.le_of_ble_eq_true rfl⟩ ⟨Nat.le_of_ble_eq_true rfl, Nat.le_of_ble_eq_true rfl⟩ (⟨rfl, Or.inr ⟨rfl, spc_2 hsl hpl⟩⟩)
    · exact hp_throw (cls := eI) (names := tNm) B0 hw hS hout tF_eI qC_X4_137 qN_java_lang_IndexOutOfBoundsException sR_X4_158 tA_eI tB_eI tG_eI hl9.1 dX4_refuseEmptyLine_9 dX4_refuseEmptyLine_12 dX4_refuseEmptyLine_13 dX4_refuseEmptyLine_15 dX4_refuseEmptyLine_18 ⟨⟨Nat.le_of_ble_eq_true rfl, Nat.le_of_ble_eq_true rfl⟩, Nat.le_of_ble_eq_true rfl, Nat.le_of_ble_eq_true rfl⟩ ⟨Nat.le_of_ble_eq_true rfl, Nat.le_of_ble_eq_true rfl⟩ (⟨rfl, Or.inl ⟨rfl, spc_1 (fun h9 => by have h1 := c2; simp only [jlt, jle, tq0, tq1, tq3, tq4, tq6, tq9, tq50, tq60, tq1023, tqm1] at h1; obtain ⟨h3, h4⟩ := h9; omega)⟩⟩)

set_option maxHeartbeats 4000000 in
set_option maxRecDepth 100000 in
theorem c_W4_come {l : Launch} (hl : l.stackTraces = false) (G : hG) (f : hM) (xo ez eo bu nw0 na0 nq0 nr0 nw1 na1 nq1 nr1 bs bp bh bf bl bg : Nat) (gw0 : Nat → Int32) (ga0 : Nat → Int32) (gw1 : Nat → Int32) (ga1 : Nat → Int32) (mg0 : Int32) (mg1 : Int32) (n : Nat) (a : Nat) (cg : Nat) (x : Nat) (sa : Nat → Nat) (pk : Nat → Nat) (fl : Nat → Nat) (gv : Nat → Nat) (gh : Nat → Int32) (gl : Nat → Int32) (hC : CW G f xo ez eo bu nw0 na0 nq0 nr0 nw1 na1 nq1 nr1 bs bp bh bf bl bg gw0 ga0 gw1 ga1 mg0 mg1 n a cg x sa pk fl gv gh gl) (xv : Int32) : CT l yX4_come (.code yX4_come cX4_come 2 (some .int)) 7 105 1 6 G [.ref xo, .int xv] f (fun v f1 => spc (sL xv) (fl xv.toNatClampNeg < a) = 0 ∧ v = some (.int (nI (bRun a sa pk (upd gh (fl xv.toNatClampNeg) 1) (bnd (upd gl xv.toNatClampNeg (nI (fl xv.toNatClampNeg)))) 240 cg x gv).1 - nI cg)) ∧ CW G f1 xo ez eo bu nw0 na0 nq0 nr0 nw1 na1 nq1 nr1 bs bp bh bf bl bg gw0 ga0 gw1 ga1 mg0 mg1 n a ((bRun a sa pk (upd gh (fl xv.toNatClampNeg) 1) (bnd (upd gl xv.toNatClampNeg (nI (fl xv.toNatClampNeg)))) 240 cg x gv).1) ((bRun a sa pk (upd gh (fl xv.toNatClampNeg) 1) (bnd (upd gl xv.toNatClampNeg (nI (fl xv.toNatClampNeg)))) 240 cg x gv).2.1) sa pk (va_up fl xv.toNatClampNeg (fl xv.toNatClampNeg + 3)) ((bRun a sa pk (upd gh (fl xv.toNatClampNeg) 1) (bnd (upd gl xv.toNatClampNeg (nI (fl xv.toNatClampNeg)))) 240 cg x gv).2.2) (upd gh (fl xv.toNatClampNeg) 1) (upd gl xv.toNatClampNeg (nI (fl xv.toNatClampNeg))) ∧ hKp [xo, ez, eo, bu, nw0, na0, nq0, nr0, nw1, na1, nq1, nr1, bs, bp, bh, bf, bl, bg] f f1) (fun E f1 => ((E = eI ∧ spc (sL xv) (fl xv.toNatClampNeg < a) = 1) ∨ (E = eS ∧ spc (sL xv) (fl xv.toNatClampNeg < a) = 2)) ∧ CW G f1 xo ez eo bu nw0 na0 nq0 nr0 nw1 na1 nq1 nr1 bs bp bh bf bl bg gw0 ga0 gw1 ga1 mg0 mg1 n a cg x sa pk fl gv gh gl ∧ hKp [xo, ez, eo, bu, nw0, na0, nq0, nr0, nw1, na1, nq1, nr1, bs, bp, bh, bf, bl, bg] f f1) := by
  refine hp_start hl (own := RX4) (by decide) rfl (Nat.le_of_ble_eq_true rfl) ?_
  intro p e s m args below meth c B0 hr hnm hout hw hS ls hl9
  have hx := B0.1
  have hb := B0.2.1
  have hl9 : lv_has ls 2 [(0, .ref xo), (1, .int xv)] := hl9
  obtain ⟨k_xo, ⟨st0, tm0, sr0, li0, lp0, mi0, cn0, gq0, hd0, tl0, k_ez, k_nq0, k_nr0, fhd0, ftl0, blp0⟩, ⟨st1, tm1, sr1, li1, lp1, mi1, cn1, gq1, hd1, tl1, k_eo, k_nq1, k_nr1, fhd1, ftl1, blp1⟩, k_nw0, k_na0, k_nw1, k_na1, k_bu, k_bs, k_bp, k_bh, k_bf, k_bl, k_bg, hPx, hB9, hfl9, nd_ez_eo, nd_nr0_nr1, nd_nw0_na0, nd_nw0_nq0, nd_nw0_nw1, nd_nw0_na1, nd_nw0_nq1, nd_na0_nq0, nd_na0_nw1, nd_na0_na1, nd_na0_nq1, nd_nq0_nw1, nd_nq0_na1, nd_nq0_nq1, nd_nw1_na1, nd_nw1_nq1, nd_na1_nq1, nd_bh_bp, nd_bf_bl⟩ := id hC
  refine lv_aload_n hx hb dX4_come_0 rfl (lv_at hl9 0 rfl) ?_
  refine lv_iload_n hx hb dX4_come_1 rfl (lv_at hl9 1 rfl) ?_
  refine hp_V (ci := 4) (As := [.int xv]) (rest := []) B0 hw hS (c_W4_refuseEmptyLine hl G f xo ez eo bu nw0 na0 nq0 nr0 nw1 na1 nq1 nr1 bs bp bh bf bl bg gw0 ga0 gw1 ga1 mg0 mg1 n a cg x sa pk fl gv gh gl hC xv) mV_X4_refuseEmptyLine qM_X4_125 rfl k_xo rfl rfl hl9.1 (Nat.le_of_ble_eq_true rfl) ⟨⟨Nat.le_of_ble_eq_true rfl, Nat.le_of_ble_eq_true rfl⟩, Nat.le_of_ble_eq_true rfl, Nat.le_of_ble_eq_true rfl⟩ dX4_come_2 (fun E ce q9 f1 H locs hPX hw hS hce hcv hcl => ?_) (fun v f1 H locs hP hw hS => ?_)
  · obtain ⟨ef9, hE9⟩ := hPX
    rw [ef9] at hw
    exact hp_out B0 hw hS hout hce hcv hcl ⟨Nat.le_of_ble_eq_true rfl, Nat.le_of_ble_eq_true rfl⟩ ⟨hE9, hC, hKp.rf⟩
  · obtain ⟨ef9, ev9, hsl, hpl⟩ := hP
    rw [ef9] at hw
    subst ev9
    have hop := vin3 hsl
    refine W.eq (g2 := F0 m 5 ls []) rfl ?_
    refine lv_aload_n hx hb dX4_come_5 rfl (lv_at hl9 0 rfl) ?_
    refine hp_get B0 hw 4 rfl in_X4 k_xo 2 (by decide) qF_X4_24 rfl dX4_come_6 ?_
    refine lv_iload_n hx hb dX4_come_9 rfl (lv_at hl9 1 rfl) ?_
    refine hp_V (ci := 0) (As := [.int xv]) (rest := []) B0 hw hS (c_X0_bring hl G f bu bs bp bh bf bl bg n a cg x sa pk fl gv gh gl k_bu k_bs k_bp k_bh k_bf k_bl k_bg  hB9 nd_bh_bp nd_bf_bl xv hop hpl) mV_X0_bring qM_X4_128 rfl k_bu rfl rfl hl9.1 (Nat.le_of_ble_eq_true rfl) ⟨⟨Nat.le_of_ble_eq_true rfl, Nat.le_of_ble_eq_true rfl⟩, Nat.le_of_ble_eq_true rfl, Nat.le_of_ble_eq_true rfl⟩ dX4_come_10 (fun E ce q9 f2 H locs hPX hw hS hce hcv hcl => ?_) (fun v f2 H locs hP hw hS => ?_)
    · exact hPX.elim
    · obtain ⟨c1, x1, gv1, hR1, hB1, ev9, h3, h4, h5, h6, h7, k8⟩ := hP
      subst ev9
      refine W.eq (g2 := F0 m 13 ls [.int ((nI c1) - (nI cg))]) rfl ?_
      have p9 : PoolX G [] f2 := px_eq hPx k8 (fun b9 hb9 => by
          simp only [List.mem_cons, List.not_mem_nil, or_false] at hb9
          rcases hb9 with hb9 | hb9 | hb9 | hb9 | hb9
          · rw [hb9]; exact ⟨_, _, k_bu, h3, (Nat.ne_of_beq_eq_false rfl), (Nat.ne_of_beq_eq_false rfl), (Nat.ne_of_beq_eq_false rfl)⟩
          · rw [hb9]; exact ⟨_, _, k_bg, h4, (Nat.ne_of_beq_eq_false rfl), (Nat.ne_of_beq_eq_false rfl), (Nat.ne_of_beq_eq_false rfl)⟩
          · rw [hb9]; exact ⟨_, _, k_bh, h5, (Nat.ne_of_beq_eq_false rfl), (Nat.ne_of_beq_eq_false rfl), (Nat.ne_of_beq_eq_false rfl)⟩
          · rw [hb9]; exact ⟨_, _, k_bl, h6, (Nat.ne_of_beq_eq_false rfl), (Nat.ne_of_beq_eq_false rfl), (Nat.ne_of_beq_eq_false rfl)⟩
          · rw [hb9]; exact ⟨_, _, k_bf, h7, (Nat.ne_of_beq_eq_false rfl), (Nat.ne_of_beq_eq_false rfl), (Nat.ne_of_beq_eq_false rfl)⟩)
      have n11 : ez ≠ bf := hne k_ez k_bf (Nat.ne_of_beq_eq_false rfl)
      have n12 : ez ≠ bl := hne k_ez k_bl (Nat.ne_of_beq_eq_false rfl)
      have n13 : ez ≠ bh := hne k_ez k_bh (Nat.ne_of_beq_eq_false rfl)
      have n14 : ez ≠ bg := hne k_ez k_bg (Nat.ne_of_beq_eq_false rfl)
      have n15 : ez ≠ bu := hne k_ez k_bu (Nat.ne_of_beq_eq_false rfl)
      have h10 : f2 ez = some (.inr (1, [.ref nw0, .ref na0, .ref nq0, .ref nr0, .int mg0, .int st0, .int tm0, .int sr0, .int li0, .int lp0, .int mi0])) := (hEq.k k8) _ _ k_ez (ninc n15 (ninc n14 (ninc n13 (ninc n12 (ninc n11 nin0)))))
      have n17 : nq0 ≠ bf := hneL k_nq0 k_bf (Nat.ne_of_beq_eq_false rfl)
      have n18 : nq0 ≠ bl := hneL k_nq0 k_bl (Nat.ne_of_beq_eq_false rfl)
      have n19 : nq0 ≠ bh := hneL k_nq0 k_bh (Nat.ne_of_beq_eq_false rfl)
      have n20 : nq0 ≠ bg := hneL k_nq0 k_bg (Nat.ne_of_beq_eq_false rfl)
      have n21 : nq0 ≠ bu := hne k_nq0 k_bu (Nat.ne_of_beq_eq_false rfl)
      have h16 : f2 nq0 = some (.inl (cI G, 6, .inl gq0)) := (hEq.k k8) _ _ k_nq0 (ninc n21 (ninc n20 (ninc n19 (ninc n18 (ninc n17 nin0)))))
      have n23 : nr0 ≠ bf := hne k_nr0 k_bf (Nat.ne_of_beq_eq_false rfl)
      have n24 : nr0 ≠ bl := hne k_nr0 k_bl (Nat.ne_of_beq_eq_false rfl)
      have n25 : nr0 ≠ bh := hne k_nr0 k_bh (Nat.ne_of_beq_eq_false rfl)
      have n26 : nr0 ≠ bg := hne k_nr0 k_bg (Nat.ne_of_beq_eq_false rfl)
      have n27 : nr0 ≠ bu := hne k_nr0 k_bu (Nat.ne_of_beq_eq_false rfl)
      have h22 : f2 nr0 = some (.inr (3, [hd0, tl0, .int cn0])) := (hEq.k k8) _ _ k_nr0 (ninc n27 (ninc n26 (ninc n25 (ninc n24 (ninc n23 nin0)))))
      have n29 : eo ≠ bf := hne k_eo k_bf (Nat.ne_of_beq_eq_false rfl)
      have n30 : eo ≠ bl := hne k_eo k_bl (Nat.ne_of_beq_eq_false rfl)
      have n31 : eo ≠ bh := hne k_eo k_bh (Nat.ne_of_beq_eq_false rfl)
      have n32 : eo ≠ bg := hne k_eo k_bg (Nat.ne_of_beq_eq_false rfl)
      have n33 : eo ≠ bu := hne k_eo k_bu (Nat.ne_of_beq_eq_false rfl)
      have h28 : f2 eo = some (.inr (1, [.ref nw1, .ref na1, .ref nq1, .ref nr1, .int mg1, .int st1, .int tm1, .int sr1, .int li1, .int lp1, .int mi1])) := (hEq.k k8) _ _ k_eo (ninc n33 (ninc n32 (ninc n31 (ninc n30 (ninc n29 nin0)))))
      have n35 : nq1 ≠ bf := hneL k_nq1 k_bf (Nat.ne_of_beq_eq_false rfl)
      have n36 : nq1 ≠ bl := hneL k_nq1 k_bl (Nat.ne_of_beq_eq_false rfl)
      have n37 : nq1 ≠ bh := hneL k_nq1 k_bh (Nat.ne_of_beq_eq_false rfl)
      have n38 : nq1 ≠ bg := hneL k_nq1 k_bg (Nat.ne_of_beq_eq_false rfl)
      have n39 : nq1 ≠ bu := hne k_nq1 k_bu (Nat.ne_of_beq_eq_false rfl)
      have h34 : f2 nq1 = some (.inl (cI G, 6, .inl gq1)) := (hEq.k k8) _ _ k_nq1 (ninc n39 (ninc n38 (ninc n37 (ninc n36 (ninc n35 nin0)))))
      have n41 : nr1 ≠ bf := hne k_nr1 k_bf (Nat.ne_of_beq_eq_false rfl)
      have n42 : nr1 ≠ bl := hne k_nr1 k_bl (Nat.ne_of_beq_eq_false rfl)
      have n43 : nr1 ≠ bh := hne k_nr1 k_bh (Nat.ne_of_beq_eq_false rfl)
      have n44 : nr1 ≠ bg := hne k_nr1 k_bg (Nat.ne_of_beq_eq_false rfl)
      have n45 : nr1 ≠ bu := hne k_nr1 k_bu (Nat.ne_of_beq_eq_false rfl)
      have h40 : f2 nr1 = some (.inr (3, [hd1, tl1, .int cn1])) := (hEq.k k8) _ _ k_nr1 (ninc n45 (ninc n44 (ninc n43 (ninc n42 (ninc n41 nin0)))))
      have n47 : xo ≠ bf := hne k_xo k_bf (Nat.ne_of_beq_eq_false rfl)
      have n48 : xo ≠ bl := hne k_xo k_bl (Nat.ne_of_beq_eq_false rfl)
      have n49 : xo ≠ bh := hne k_xo k_bh (Nat.ne_of_beq_eq_false rfl)
      have n50 : xo ≠ bg := hne k_xo k_bg (Nat.ne_of_beq_eq_false rfl)
      have n51 : xo ≠ bu := hne k_xo k_bu (Nat.ne_of_beq_eq_false rfl)
      have h46 : f2 xo = some (.inr (4, [.ref ez, .ref eo, .ref bu])) := (hEq.k k8) _ _ k_xo (ninc n51 (ninc n50 (ninc n49 (ninc n48 (ninc n47 nin0)))))
      have n53 : nw0 ≠ bf := hneL k_nw0 k_bf (Nat.ne_of_beq_eq_false rfl)
      have n54 : nw0 ≠ bl := hneL k_nw0 k_bl (Nat.ne_of_beq_eq_false rfl)
      have n55 : nw0 ≠ bh := hneL k_nw0 k_bh (Nat.ne_of_beq_eq_false rfl)
      have n56 : nw0 ≠ bg := hneL k_nw0 k_bg (Nat.ne_of_beq_eq_false rfl)
      have n57 : nw0 ≠ bu := hne k_nw0 k_bu (Nat.ne_of_beq_eq_false rfl)
      have h52 : f2 nw0 = some (.inl (cI G, 6, .inl gw0)) := (hEq.k k8) _ _ k_nw0 (ninc n57 (ninc n56 (ninc n55 (ninc n54 (ninc n53 nin0)))))
      have n59 : na0 ≠ bf := hneL k_na0 k_bf (Nat.ne_of_beq_eq_false rfl)
      have n60 : na0 ≠ bl := hneL k_na0 k_bl (Nat.ne_of_beq_eq_false rfl)
      have n61 : na0 ≠ bh := hneL k_na0 k_bh (Nat.ne_of_beq_eq_false rfl)
      have n62 : na0 ≠ bg := hneL k_na0 k_bg (Nat.ne_of_beq_eq_false rfl)
      have n63 : na0 ≠ bu := hne k_na0 k_bu (Nat.ne_of_beq_eq_false rfl)
      have h58 : f2 na0 = some (.inl (cI G, 6, .inl ga0)) := (hEq.k k8) _ _ k_na0 (ninc n63 (ninc n62 (ninc n61 (ninc n60 (ninc n59 nin0)))))
      have n65 : nw1 ≠ bf := hneL k_nw1 k_bf (Nat.ne_of_beq_eq_false rfl)
      have n66 : nw1 ≠ bl := hneL k_nw1 k_bl (Nat.ne_of_beq_eq_false rfl)
      have n67 : nw1 ≠ bh := hneL k_nw1 k_bh (Nat.ne_of_beq_eq_false rfl)
      have n68 : nw1 ≠ bg := hneL k_nw1 k_bg (Nat.ne_of_beq_eq_false rfl)
      have n69 : nw1 ≠ bu := hne k_nw1 k_bu (Nat.ne_of_beq_eq_false rfl)
      have h64 : f2 nw1 = some (.inl (cI G, 6, .inl gw1)) := (hEq.k k8) _ _ k_nw1 (ninc n69 (ninc n68 (ninc n67 (ninc n66 (ninc n65 nin0)))))
      have n71 : na1 ≠ bf := hneL k_na1 k_bf (Nat.ne_of_beq_eq_false rfl)
      have n72 : na1 ≠ bl := hneL k_na1 k_bl (Nat.ne_of_beq_eq_false rfl)
      have n73 : na1 ≠ bh := hneL k_na1 k_bh (Nat.ne_of_beq_eq_false rfl)
      have n74 : na1 ≠ bg := hneL k_na1 k_bg (Nat.ne_of_beq_eq_false rfl)
      have n75 : na1 ≠ bu := hne k_na1 k_bu (Nat.ne_of_beq_eq_false rfl)
      have h70 : f2 na1 = some (.inl (cI G, 6, .inl ga1)) := (hEq.k k8) _ _ k_na1 (ninc n75 (ninc n74 (ninc n73 (ninc n72 (ninc n71 nin0)))))
      have n77 : bs ≠ bf := hneL k_bs k_bf (Nat.ne_of_beq_eq_false rfl)
      have n78 : bs ≠ bl := hneL k_bs k_bl (Nat.ne_of_beq_eq_false rfl)
      have n79 : bs ≠ bh := hneL k_bs k_bh (Nat.ne_of_beq_eq_false rfl)
      have n80 : bs ≠ bg := hneL k_bs k_bg (Nat.ne_of_beq_eq_false rfl)
      have n81 : bs ≠ bu := hne k_bs k_bu (Nat.ne_of_beq_eq_false rfl)
      have h76 : f2 bs = some (.inl (cI G, 61, .inl (nf sa))) := (hEq.k k8) _ _ k_bs (ninc n81 (ninc n80 (ninc n79 (ninc n78 (ninc n77 nin0)))))
      have n83 : bp ≠ bf := hneL k_bp k_bf (Nat.ne_of_beq_eq_false rfl)
      have n84 : bp ≠ bl := hneL k_bp k_bl (Nat.ne_of_beq_eq_false rfl)
      have n85 : bp ≠ bg := hneL k_bp k_bg (Nat.ne_of_beq_eq_false rfl)
      have n86 : bp ≠ bu := hne k_bp k_bu (Nat.ne_of_beq_eq_false rfl)
      have h82 : f2 bp = some (.inl (cI G, 240, .inl (nf pk))) := (hEq.k k8) _ _ k_bp (ninc n86 (ninc n85 (ninc (Ne.symm nd_bh_bp) (ninc n84 (ninc n83 nin0)))))
      exact hp_iret (v := ((nI c1) - (nI cg))) B0 hw hS hr ⟨Nat.le_of_ble_eq_true rfl, Nat.le_of_ble_eq_true rfl⟩ dX4_come_13 (⟨spc_0 hsl hpl, (by rw [hR1]), ⟨h46, ⟨_, _, _, _, _, _, _, _, _, _, h10, h16, h22, (fhd0.kp (show hKp [xo, ez, eo, bu, nw0, na0, nq0, nr0, nw1, na1, nq1, nr1, bs, bp, bh, bf, bl, bg] f f2 from ((hKp.of (hEq.k k8) (fun x9 hx9 k9 h9 => by
          simp only [List.mem_cons, List.not_mem_nil, or_false] at hx9
          rcases hx9 with hx9 | hx9 | hx9 | hx9 | hx9
          · rw [hx9, k_bu] at h9; cases h9
          · rw [hx9, k_bg] at h9; cases h9
          · rw [hx9, k_bh] at h9; cases h9
          · rw [hx9, k_bl] at h9; cases h9
          · rw [hx9, k_bf] at h9; cases h9)).mono (fun x9 hx9 => by simp only [List.mem_cons, List.not_mem_nil, or_false] at hx9; rcases hx9 with hx9 | hx9 | hx9 | hx9 | hx9 <;> (rw [hx9]; simp))))), (ftl0.kp (show hKp [xo, ez, eo, bu, nw0, na0, nq0, nr0, nw1, na1, nq1, nr1, bs, bp, bh, bf, bl, bg] f f2 from ((hKp.of (hEq.k k8) (fun x9 hx9 k9 h9 => by
          simp only [List.mem_cons, List.not_mem_nil, or_false] at hx9
          rcases hx9 with hx9 | hx9 | hx9 | hx9 | hx9
          · rw [hx9, k_bu] at h9; cases h9
          · rw [hx9, k_bg] at h9; cases h9
          · rw [hx9, k_bh] at h9; cases h9
          · rw [hx9, k_bl] at h9; cases h9
          · rw [hx9, k_bf] at h9; cases h9)).mono (fun x9 hx9 => by simp only [List.mem_cons, List.not_mem_nil, or_false] at hx9; rcases hx9 with hx9 | hx9 | hx9 | hx9 | hx9 <;> (rw [hx9]; simp))))), blp0⟩, ⟨_, _, _, _, _, _, _, _, _, _, h28, h34, h40, (fhd1.kp (show hKp [xo, ez, eo, bu, nw0, na0, nq0, nr0, nw1, na1, nq1, nr1, bs, bp, bh, bf, bl, bg] f f2 from ((hKp.of (hEq.k k8) (fun x9 hx9 k9 h9 => by
          simp only [List.mem_cons, List.not_mem_nil, or_false] at hx9
          rcases hx9 with hx9 | hx9 | hx9 | hx9 | hx9
          · rw [hx9, k_bu] at h9; cases h9
          · rw [hx9, k_bg] at h9; cases h9
          · rw [hx9, k_bh] at h9; cases h9
          · rw [hx9, k_bl] at h9; cases h9
          · rw [hx9, k_bf] at h9; cases h9)).mono (fun x9 hx9 => by simp only [List.mem_cons, List.not_mem_nil, or_false] at hx9; rcases hx9 with hx9 | hx9 | hx9 | hx9 | hx9 <;> (rw [hx9]; simp))))), (ftl1.kp (show hKp [xo, ez, eo, bu, nw0, na0, nq0, nr0, nw1, na1, nq1, nr1, bs, bp, bh, bf, bl, bg] f f2 from ((hKp.of (hEq.k k8) (fun x9 hx9 k9 h9 => by
          simp only [List.mem_cons, List.not_mem_nil, or_false] at hx9
          rcases hx9 with hx9 | hx9 | hx9 | hx9 | hx9
          · rw [hx9, k_bu] at h9; cases h9
          · rw [hx9, k_bg] at h9; cases h9
          · rw [hx9, k_bh] at h9; cases h9
          · rw [hx9, k_bl] at h9; cases h9
          · rw [hx9, k_bf] at h9; cases h9)).mono (fun x9 hx9 => by simp only [List.mem_cons, List.not_mem_nil, or_false] at hx9; rcases hx9 with hx9 | hx9 | hx9 | hx9 | hx9 <;> (rw [hx9]; simp))))), blp1⟩, h52, h58, h64, h70, (by rw [hR1]; exact h3), h76, h82, h5, h7, h6, (by rw [hR1]; exact h4), p9, (by rw [hR1]; exact hB1), fl_up hfl9 (Nat.lt_of_lt_of_le hpl hB9.a240), nd_ez_eo, nd_nr0_nr1, nd_nw0_na0, nd_nw0_nq0, nd_nw0_nw1, nd_nw0_na1, nd_nw0_nq1, nd_na0_nq0, nd_na0_nw1, nd_na0_na1, nd_na0_nq1, nd_nq0_nw1, nd_nq0_na1, nd_nq0_nq1, nd_nw1_na1, nd_nw1_nq1, nd_na1_nq1, nd_bh_bp, nd_bf_bl⟩, (show hKp [xo, ez, eo, bu, nw0, na0, nq0, nr0, nw1, na1, nq1, nr1, bs, bp, bh, bf, bl, bg] f f2 from ((hKp.of (hEq.k k8) (fun x9 hx9 k9 h9 => by
          simp only [List.mem_cons, List.not_mem_nil, or_false] at hx9
          rcases hx9 with hx9 | hx9 | hx9 | hx9 | hx9
          · rw [hx9, k_bu] at h9; cases h9
          · rw [hx9, k_bg] at h9; cases h9
          · rw [hx9, k_bh] at h9; cases h9
          · rw [hx9, k_bl] at h9; cases h9
          · rw [hx9, k_bf] at h9; cases h9)).mono (fun x9 hx9 => by simp only [List.mem_cons, List.not_mem_nil, or_false] at hx9; rcases hx9 with hx9 | hx9 | hx9 | hx9 | hx9 <;> (rw [hx9]; simp))))⟩)

set_option maxHeartbeats 4000000 in
set_option maxRecDepth 100000 in
theorem c_W4_drop {l : Launch} (hl : l.stackTraces = false) (G : hG) (f : hM) (xo ez eo bu nw0 na0 nq0 nr0 nw1 na1 nq1 nr1 bs bp bh bf bl bg : Nat) (gw0 : Nat → Int32) (ga0 : Nat → Int32) (gw1 : Nat → Int32) (ga1 : Nat → Int32) (mg0 : Int32) (mg1 : Int32) (n : Nat) (a : Nat) (cg : Nat) (x : Nat) (sa : Nat → Nat) (pk : Nat → Nat) (fl : Nat → Nat) (gv : Nat → Nat) (gh : Nat → Int32) (gl : Nat → Int32) (hC : CW G f xo ez eo bu nw0 na0 nq0 nr0 nw1 na1 nq1 nr1 bs bp bh bf bl bg gw0 ga0 gw1 ga1 mg0 mg1 n a cg x sa pk fl gv gh gl) (xv : Int32) : CT l yX4_drop (.code yX4_drop cX4_drop 2 (some .int)) 7 103 1 6 G [.ref xo, .int xv] f (fun v f1 => spc (sL xv) (fl xv.toNatClampNeg < a) = 0 ∧ v = some (.int (nI (fl xv.toNatClampNeg))) ∧ CW G f1 xo ez eo bu nw0 na0 nq0 nr0 nw1 na1 nq1 nr1 bs bp bh bf bl bg gw0 ga0 gw1 ga1 mg0 mg1 n a cg x sa pk (va_up fl xv.toNatClampNeg (fl xv.toNatClampNeg + 3)) gv gh gl ∧ hKp [xo, ez, eo, bu, nw0, na0, nq0, nr0, nw1, na1, nq1, nr1, bs, bp, bh, bf, bl, bg] f f1) (fun E f1 => ((E = eI ∧ spc (sL xv) (fl xv.toNatClampNeg < a) = 1) ∨ (E = eS ∧ spc (sL xv) (fl xv.toNatClampNeg < a) = 2)) ∧ CW G f1 xo ez eo bu nw0 na0 nq0 nr0 nw1 na1 nq1 nr1 bs bp bh bf bl bg gw0 ga0 gw1 ga1 mg0 mg1 n a cg x sa pk fl gv gh gl ∧ hKp [xo, ez, eo, bu, nw0, na0, nq0, nr0, nw1, na1, nq1, nr1, bs, bp, bh, bf, bl, bg] f f1) := by
  refine hp_start hl (own := RX4) (by decide) rfl (Nat.le_of_ble_eq_true rfl) ?_
  intro p e s m args below meth c B0 hr hnm hout hw hS ls hl9
  have hx := B0.1
  have hb := B0.2.1
  have hl9 : lv_has ls 2 [(0, .ref xo), (1, .int xv)] := hl9
  obtain ⟨k_xo, ⟨st0, tm0, sr0, li0, lp0, mi0, cn0, gq0, hd0, tl0, k_ez, k_nq0, k_nr0, fhd0, ftl0, blp0⟩, ⟨st1, tm1, sr1, li1, lp1, mi1, cn1, gq1, hd1, tl1, k_eo, k_nq1, k_nr1, fhd1, ftl1, blp1⟩, k_nw0, k_na0, k_nw1, k_na1, k_bu, k_bs, k_bp, k_bh, k_bf, k_bl, k_bg, hPx, hB9, hfl9, nd_ez_eo, nd_nr0_nr1, nd_nw0_na0, nd_nw0_nq0, nd_nw0_nw1, nd_nw0_na1, nd_nw0_nq1, nd_na0_nq0, nd_na0_nw1, nd_na0_na1, nd_na0_nq1, nd_nq0_nw1, nd_nq0_na1, nd_nq0_nq1, nd_nw1_na1, nd_nw1_nq1, nd_na1_nq1, nd_bh_bp, nd_bf_bl⟩ := id hC
  refine lv_aload_n hx hb dX4_drop_0 rfl (lv_at hl9 0 rfl) ?_
  refine lv_iload_n hx hb dX4_drop_1 rfl (lv_at hl9 1 rfl) ?_
  refine hp_V (ci := 4) (As := [.int xv]) (rest := []) B0 hw hS (c_W4_refuseEmptyLine hl G f xo ez eo bu nw0 na0 nq0 nr0 nw1 na1 nq1 nr1 bs bp bh bf bl bg gw0 ga0 gw1 ga1 mg0 mg1 n a cg x sa pk fl gv gh gl hC xv) mV_X4_refuseEmptyLine qM_X4_125 rfl k_xo rfl rfl hl9.1 (Nat.le_of_ble_eq_true rfl) ⟨⟨Nat.le_of_ble_eq_true rfl, Nat.le_of_ble_eq_true rfl⟩, Nat.le_of_ble_eq_true rfl, Nat.le_of_ble_eq_true rfl⟩ dX4_drop_2 (fun E ce q9 f1 H locs hPX hw hS hce hcv hcl => ?_) (fun v f1 H locs hP hw hS => ?_)
  · obtain ⟨ef9, hE9⟩ := hPX
    rw [ef9] at hw
    exact hp_out B0 hw hS hout hce hcv hcl ⟨Nat.le_of_ble_eq_true rfl, Nat.le_of_ble_eq_true rfl⟩ ⟨hE9, hC, hKp.rf⟩
  · obtain ⟨ef9, ev9, hsl, hpl⟩ := hP
    rw [ef9] at hw
    subst ev9
    have hop := vin3 hsl
    refine W.eq (g2 := F0 m 5 ls []) rfl ?_
    refine lv_aload_n hx hb dX4_drop_5 rfl (lv_at hl9 0 rfl) ?_
    refine hp_get B0 hw 4 rfl in_X4 k_xo 2 (by decide) qF_X4_24 rfl dX4_drop_6 ?_
    refine lv_iload_n hx hb dX4_drop_9 rfl (lv_at hl9 1 rfl) ?_
    refine hp_V (ci := 0) (As := [.int xv]) (rest := []) B0 hw hS (c_X0_takePiece hl G f bu bs bp bh bf bl bg n a cg x sa pk fl gv gh gl k_bu k_bf  xv hop) mV_X0_takePiece qM_X4_131 rfl k_bu rfl rfl hl9.1 (Nat.le_of_ble_eq_true rfl) ⟨⟨Nat.le_of_ble_eq_true rfl, Nat.le_of_ble_eq_true rfl⟩, Nat.le_of_ble_eq_true rfl, Nat.le_of_ble_eq_true rfl⟩ dX4_drop_10 (fun E ce q9 f2 H locs hPX hw hS hce hcv hcl => ?_) (fun v f2 H locs hP hw hS => ?_)
    · exact hPX.elim
    · obtain ⟨ev9, h3, k4⟩ := hP
      subst ev9
      refine W.eq (g2 := F0 m 13 ls [.int (nI (fl xv.toNatClampNeg))]) rfl ?_
      have p5 : PoolX G [] f2 := px_eq hPx k4 (fun b9 hb9 => by
          simp only [List.mem_cons, List.not_mem_nil, or_false] at hb9
          rcases hb9 with hb9
          · rw [hb9]; exact ⟨_, _, k_bf, h3, (Nat.ne_of_beq_eq_false rfl), (Nat.ne_of_beq_eq_false rfl), (Nat.ne_of_beq_eq_false rfl)⟩)
      have n7 : ez ≠ bf := hne k_ez k_bf (Nat.ne_of_beq_eq_false rfl)
      have h6 : f2 ez = some (.inr (1, [.ref nw0, .ref na0, .ref nq0, .ref nr0, .int mg0, .int st0, .int tm0, .int sr0, .int li0, .int lp0, .int mi0])) := (hEq.k k4) _ _ k_ez (ninc n7 nin0)
      have n9 : nq0 ≠ bf := hneL k_nq0 k_bf (Nat.ne_of_beq_eq_false rfl)
      have h8 : f2 nq0 = some (.inl (cI G, 6, .inl gq0)) := (hEq.k k4) _ _ k_nq0 (ninc n9 nin0)
      have n11 : nr0 ≠ bf := hne k_nr0 k_bf (Nat.ne_of_beq_eq_false rfl)
      have h10 : f2 nr0 = some (.inr (3, [hd0, tl0, .int cn0])) := (hEq.k k4) _ _ k_nr0 (ninc n11 nin0)
      have n13 : eo ≠ bf := hne k_eo k_bf (Nat.ne_of_beq_eq_false rfl)
      have h12 : f2 eo = some (.inr (1, [.ref nw1, .ref na1, .ref nq1, .ref nr1, .int mg1, .int st1, .int tm1, .int sr1, .int li1, .int lp1, .int mi1])) := (hEq.k k4) _ _ k_eo (ninc n13 nin0)
      have n15 : nq1 ≠ bf := hneL k_nq1 k_bf (Nat.ne_of_beq_eq_false rfl)
      have h14 : f2 nq1 = some (.inl (cI G, 6, .inl gq1)) := (hEq.k k4) _ _ k_nq1 (ninc n15 nin0)
      have n17 : nr1 ≠ bf := hne k_nr1 k_bf (Nat.ne_of_beq_eq_false rfl)
      have h16 : f2 nr1 = some (.inr (3, [hd1, tl1, .int cn1])) := (hEq.k k4) _ _ k_nr1 (ninc n17 nin0)
      have n19 : xo ≠ bf := hne k_xo k_bf (Nat.ne_of_beq_eq_false rfl)
      have h18 : f2 xo = some (.inr (4, [.ref ez, .ref eo, .ref bu])) := (hEq.k k4) _ _ k_xo (ninc n19 nin0)
      have n21 : nw0 ≠ bf := hneL k_nw0 k_bf (Nat.ne_of_beq_eq_false rfl)
      have h20 : f2 nw0 = some (.inl (cI G, 6, .inl gw0)) := (hEq.k k4) _ _ k_nw0 (ninc n21 nin0)
      have n23 : na0 ≠ bf := hneL k_na0 k_bf (Nat.ne_of_beq_eq_false rfl)
      have h22 : f2 na0 = some (.inl (cI G, 6, .inl ga0)) := (hEq.k k4) _ _ k_na0 (ninc n23 nin0)
      have n25 : nw1 ≠ bf := hneL k_nw1 k_bf (Nat.ne_of_beq_eq_false rfl)
      have h24 : f2 nw1 = some (.inl (cI G, 6, .inl gw1)) := (hEq.k k4) _ _ k_nw1 (ninc n25 nin0)
      have n27 : na1 ≠ bf := hneL k_na1 k_bf (Nat.ne_of_beq_eq_false rfl)
      have h26 : f2 na1 = some (.inl (cI G, 6, .inl ga1)) := (hEq.k k4) _ _ k_na1 (ninc n27 nin0)
      have n29 : bu ≠ bf := hne k_bu k_bf (Nat.ne_of_beq_eq_false rfl)
      have h28 : f2 bu = some (.inr (0, [.ref bs, .ref bp, .ref bh, .ref bf, .ref bl, .ref bg, .int (nI n), .int (nI cg), .int (nI x)])) := (hEq.k k4) _ _ k_bu (ninc n29 nin0)
      have n31 : bs ≠ bf := hneL k_bs k_bf (Nat.ne_of_beq_eq_false rfl)
      have h30 : f2 bs = some (.inl (cI G, 61, .inl (nf sa))) := (hEq.k k4) _ _ k_bs (ninc n31 nin0)
      have n33 : bp ≠ bf := hneL k_bp k_bf (Nat.ne_of_beq_eq_false rfl)
      have h32 : f2 bp = some (.inl (cI G, 240, .inl (nf pk))) := (hEq.k k4) _ _ k_bp (ninc n33 nin0)
      have n35 : bh ≠ bf := hneL k_bh k_bf (Nat.ne_of_beq_eq_false rfl)
      have h34 : f2 bh = some (.inl (cZ G, 240, .inl gh)) := (hEq.k k4) _ _ k_bh (ninc n35 nin0)
      have h36 : f2 bl = some (.inl (cI G, 3, .inl gl)) := (hEq.k k4) _ _ k_bl (ninc (Ne.symm nd_bf_bl) nin0)
      have n38 : bg ≠ bf := hneL k_bg k_bf (Nat.ne_of_beq_eq_false rfl)
      have h37 : f2 bg = some (.inl (cI G, 60, .inl (nf gv))) := (hEq.k k4) _ _ k_bg (ninc n38 nin0)
      exact hp_iret (v := (nI (fl xv.toNatClampNeg))) B0 hw hS hr ⟨Nat.le_of_ble_eq_true rfl, Nat.le_of_ble_eq_true rfl⟩ dX4_drop_13 (⟨spc_0 hsl hpl, rfl, ⟨h18, ⟨_, _, _, _, _, _, _, _, _, _, h6, h8, h10, (fhd0.kp (show hKp [xo, ez, eo, bu, nw0, na0, nq0, nr0, nw1, na1, nq1, nr1, bs, bp, bh, bf, bl, bg] f f2 from ((hKp.of (hEq.k k4) (fun x9 hx9 k9 h9 => by
          simp only [List.mem_cons, List.not_mem_nil, or_false] at hx9
          rcases hx9 with hx9
          · rw [hx9, k_bf] at h9; cases h9)).mono (fun x9 hx9 => by simp only [List.mem_cons, List.not_mem_nil, or_false] at hx9; rcases hx9 with hx9 <;> (rw [hx9]; simp))))), (ftl0.kp (show hKp [xo, ez, eo, bu, nw0, na0, nq0, nr0, nw1, na1, nq1, nr1, bs, bp, bh, bf, bl, bg] f f2 from ((hKp.of (hEq.k k4) (fun x9 hx9 k9 h9 => by
          simp only [List.mem_cons, List.not_mem_nil, or_false] at hx9
          rcases hx9 with hx9
          · rw [hx9, k_bf] at h9; cases h9)).mono (fun x9 hx9 => by simp only [List.mem_cons, List.not_mem_nil, or_false] at hx9; rcases hx9 with hx9 <;> (rw [hx9]; simp))))), blp0⟩, ⟨_, _, _, _, _, _, _, _, _, _, h12, h14, h16, (fhd1.kp (show hKp [xo, ez, eo, bu, nw0, na0, nq0, nr0, nw1, na1, nq1, nr1, bs, bp, bh, bf, bl, bg] f f2 from ((hKp.of (hEq.k k4) (fun x9 hx9 k9 h9 => by
          simp only [List.mem_cons, List.not_mem_nil, or_false] at hx9
          rcases hx9 with hx9
          · rw [hx9, k_bf] at h9; cases h9)).mono (fun x9 hx9 => by simp only [List.mem_cons, List.not_mem_nil, or_false] at hx9; rcases hx9 with hx9 <;> (rw [hx9]; simp))))), (ftl1.kp (show hKp [xo, ez, eo, bu, nw0, na0, nq0, nr0, nw1, na1, nq1, nr1, bs, bp, bh, bf, bl, bg] f f2 from ((hKp.of (hEq.k k4) (fun x9 hx9 k9 h9 => by
          simp only [List.mem_cons, List.not_mem_nil, or_false] at hx9
          rcases hx9 with hx9
          · rw [hx9, k_bf] at h9; cases h9)).mono (fun x9 hx9 => by simp only [List.mem_cons, List.not_mem_nil, or_false] at hx9; rcases hx9 with hx9 <;> (rw [hx9]; simp))))), blp1⟩, h20, h22, h24, h26, h28, h30, h32, h34, h3, h36, h37, p5, hB9, fl_up hfl9 (Nat.lt_of_lt_of_le hpl hB9.a240), nd_ez_eo, nd_nr0_nr1, nd_nw0_na0, nd_nw0_nq0, nd_nw0_nw1, nd_nw0_na1, nd_nw0_nq1, nd_na0_nq0, nd_na0_nw1, nd_na0_na1, nd_na0_nq1, nd_nq0_nw1, nd_nq0_na1, nd_nq0_nq1, nd_nw1_na1, nd_nw1_nq1, nd_na1_nq1, nd_bh_bp, nd_bf_bl⟩, (show hKp [xo, ez, eo, bu, nw0, na0, nq0, nr0, nw1, na1, nq1, nr1, bs, bp, bh, bf, bl, bg] f f2 from ((hKp.of (hEq.k k4) (fun x9 hx9 k9 h9 => by
          simp only [List.mem_cons, List.not_mem_nil, or_false] at hx9
          rcases hx9 with hx9
          · rw [hx9, k_bf] at h9; cases h9)).mono (fun x9 hx9 => by simp only [List.mem_cons, List.not_mem_nil, or_false] at hx9; rcases hx9 with hx9 <;> (rw [hx9]; simp))))⟩)

set_option maxHeartbeats 4000000 in
set_option maxRecDepth 100000 in
theorem c_W4_given {l : Launch} (hl : l.stackTraces = false) (G : hG) (f : hM) (xo ez eo bu nw0 na0 nq0 nr0 nw1 na1 nq1 nr1 bs bp bh bf bl bg : Nat) (gw0 : Nat → Int32) (ga0 : Nat → Int32) (gw1 : Nat → Int32) (ga1 : Nat → Int32) (mg0 : Int32) (mg1 : Int32) (n : Nat) (a : Nat) (cg : Nat) (x : Nat) (sa : Nat → Nat) (pk : Nat → Nat) (fl : Nat → Nat) (gv : Nat → Nat) (gh : Nat → Int32) (gl : Nat → Int32) (hC : CW G f xo ez eo bu nw0 na0 nq0 nr0 nw1 na1 nq1 nr1 bs bp bh bf bl bg gw0 ga0 gw1 ga1 mg0 mg1 n a cg x sa pk fl gv gh gl)  : CT l yX4_given (.code yX4_given cX4_given 1 (some .int)) 0 0 0 0 G [.ref xo] f (fun v f1 => v = some (.int (nI cg)) ∧ f1 = f) (fun E f1 => False) := by
  refine hp_start hl (own := RX4) (by decide) rfl (Nat.le_of_ble_eq_true rfl) ?_
  intro p e s m args below meth c B0 hr hnm hout hw hS ls hl9
  have hx := B0.1
  have hb := B0.2.1
  have hl9 : lv_has ls 1 [(0, .ref xo)] := hl9
  obtain ⟨k_xo, ⟨st0, tm0, sr0, li0, lp0, mi0, cn0, gq0, hd0, tl0, k_ez, k_nq0, k_nr0, fhd0, ftl0, blp0⟩, ⟨st1, tm1, sr1, li1, lp1, mi1, cn1, gq1, hd1, tl1, k_eo, k_nq1, k_nr1, fhd1, ftl1, blp1⟩, k_nw0, k_na0, k_nw1, k_na1, k_bu, k_bs, k_bp, k_bh, k_bf, k_bl, k_bg, hPx, hB9, hfl9, nd_ez_eo, nd_nr0_nr1, nd_nw0_na0, nd_nw0_nq0, nd_nw0_nw1, nd_nw0_na1, nd_nw0_nq1, nd_na0_nq0, nd_na0_nw1, nd_na0_na1, nd_na0_nq1, nd_nq0_nw1, nd_nq0_na1, nd_nq0_nq1, nd_nw1_na1, nd_nw1_nq1, nd_na1_nq1, nd_bh_bp, nd_bf_bl⟩ := id hC
  refine lv_aload_n hx hb dX4_given_0 rfl (lv_at hl9 0 rfl) ?_
  refine hp_get B0 hw 4 rfl in_X4 k_xo 2 (by decide) qF_X4_24 rfl dX4_given_1 ?_
  refine hp_getN B0 hw 0 rfl in_X0 k_bu 7 (by decide) oF_X4_134 rfl dX4_given_4 ?_
  exact hp_iret (v := (nI cg)) B0 hw hS hr ⟨Nat.le_of_ble_eq_true rfl, Nat.le_of_ble_eq_true rfl⟩ dX4_given_7 (⟨rfl, rfl⟩)

set_option maxHeartbeats 4000000 in
set_option maxRecDepth 100000 in
theorem c_W4_next {l : Launch} (hl : l.stackTraces = false) (G : hG) (f : hM) (xo ez eo bu nw0 na0 nq0 nr0 nw1 na1 nq1 nr1 bs bp bh bf bl bg : Nat) (gw0 : Nat → Int32) (ga0 : Nat → Int32) (gw1 : Nat → Int32) (ga1 : Nat → Int32) (mg0 : Int32) (mg1 : Int32) (n : Nat) (a : Nat) (cg : Nat) (x : Nat) (sa : Nat → Nat) (pk : Nat → Nat) (fl : Nat → Nat) (gv : Nat → Nat) (gh : Nat → Int32) (gl : Nat → Int32) (hC : CW G f xo ez eo bu nw0 na0 nq0 nr0 nw1 na1 nq1 nr1 bs bp bh bf bl bg gw0 ga0 gw1 ga1 mg0 mg1 n a cg x sa pk fl gv gh gl)  : CT l yX4_next (.code yX4_next cX4_next 1 (some .int)) 0 0 0 0 G [.ref xo] f (fun v f1 => v = some (.int (nI x)) ∧ f1 = f) (fun E f1 => False) := by
  refine hp_start hl (own := RX4) (by decide) rfl (Nat.le_of_ble_eq_true rfl) ?_
  intro p e s m args below meth c B0 hr hnm hout hw hS ls hl9
  have hx := B0.1
  have hb := B0.2.1
  have hl9 : lv_has ls 1 [(0, .ref xo)] := hl9
  obtain ⟨k_xo, ⟨st0, tm0, sr0, li0, lp0, mi0, cn0, gq0, hd0, tl0, k_ez, k_nq0, k_nr0, fhd0, ftl0, blp0⟩, ⟨st1, tm1, sr1, li1, lp1, mi1, cn1, gq1, hd1, tl1, k_eo, k_nq1, k_nr1, fhd1, ftl1, blp1⟩, k_nw0, k_na0, k_nw1, k_na1, k_bu, k_bs, k_bp, k_bh, k_bf, k_bl, k_bg, hPx, hB9, hfl9, nd_ez_eo, nd_nr0_nr1, nd_nw0_na0, nd_nw0_nq0, nd_nw0_nw1, nd_nw0_na1, nd_nw0_nq1, nd_na0_nq0, nd_na0_nw1, nd_na0_na1, nd_na0_nq1, nd_nq0_nw1, nd_nq0_na1, nd_nq0_nq1, nd_nw1_na1, nd_nw1_nq1, nd_na1_nq1, nd_bh_bp, nd_bf_bl⟩ := id hC
  refine lv_aload_n hx hb dX4_next_0 rfl (lv_at hl9 0 rfl) ?_
  refine hp_get B0 hw 4 rfl in_X4 k_xo 2 (by decide) qF_X4_24 rfl dX4_next_1 ?_
  refine hp_getN B0 hw 0 rfl in_X0 k_bu 8 (by decide) oF_X4_145 rfl dX4_next_4 ?_
  exact hp_iret (v := (nI x)) B0 hw hS hr ⟨Nat.le_of_ble_eq_true rfl, Nat.le_of_ble_eq_true rfl⟩ dX4_next_7 (⟨rfl, rfl⟩)

set_option maxHeartbeats 4000000 in
set_option maxRecDepth 100000 in
theorem c_W4_givenAt {l : Launch} (hl : l.stackTraces = false) (G : hG) (f : hM) (xo ez eo bu nw0 na0 nq0 nr0 nw1 na1 nq1 nr1 bs bp bh bf bl bg : Nat) (gw0 : Nat → Int32) (ga0 : Nat → Int32) (gw1 : Nat → Int32) (ga1 : Nat → Int32) (mg0 : Int32) (mg1 : Int32) (n : Nat) (a : Nat) (cg : Nat) (x : Nat) (sa : Nat → Nat) (pk : Nat → Nat) (fl : Nat → Nat) (gv : Nat → Nat) (gh : Nat → Int32) (gl : Nat → Int32) (hC : CW G f xo ez eo bu nw0 na0 nq0 nr0 nw1 na1 nq1 nr1 bs bp bh bf bl bg gw0 ga0 gw1 ga1 mg0 mg1 n a cg x sa pk fl gv gh gl) (xv : Int32) : CT l yX4_givenAt (.code yX4_givenAt cX4_givenAt 2 (some .int)) 6 82 1 6 G [.ref xo, .int xv] f (fun v f1 => spc (0 ≤ xv.toInt ∧ xv.toInt < (cg : Int)) True = 0 ∧ v = some (.int (nI (gv xv.toNatClampNeg))) ∧ CW G f1 xo ez eo bu nw0 na0 nq0 nr0 nw1 na1 nq1 nr1 bs bp bh bf bl bg gw0 ga0 gw1 ga1 mg0 mg1 n a cg x sa pk fl gv gh gl ∧ hKp [xo, ez, eo, bu, nw0, na0, nq0, nr0, nw1, na1, nq1, nr1, bs, bp, bh, bf, bl, bg] f f1) (fun E f1 => ((E = eI ∧ spc (0 ≤ xv.toInt ∧ xv.toInt < (cg : Int)) True = 1)) ∧ CW G f1 xo ez eo bu nw0 na0 nq0 nr0 nw1 na1 nq1 nr1 bs bp bh bf bl bg gw0 ga0 gw1 ga1 mg0 mg1 n a cg x sa pk fl gv gh gl ∧ hKp [xo, ez, eo, bu, nw0, na0, nq0, nr0, nw1, na1, nq1, nr1, bs, bp, bh, bf, bl, bg] f f1) := by
  refine hp_start hl (own := RX4) (by decide) rfl (Nat.le_of_ble_eq_true rfl) ?_
  intro p e s m args below meth c B0 hr hnm hout hw hS ls hl9
  have hx := B0.1
  have hb := B0.2.1
  have hl9 : lv_has ls 2 [(0, .ref xo), (1, .int xv)] := hl9
  obtain ⟨k_xo, ⟨st0, tm0, sr0, li0, lp0, mi0, cn0, gq0, hd0, tl0, k_ez, k_nq0, k_nr0, fhd0, ftl0, blp0⟩, ⟨st1, tm1, sr1, li1, lp1, mi1, cn1, gq1, hd1, tl1, k_eo, k_nq1, k_nr1, fhd1, ftl1, blp1⟩, k_nw0, k_na0, k_nw1, k_na1, k_bu, k_bs, k_bp, k_bh, k_bf, k_bl, k_bg, hPx, hB9, hfl9, nd_ez_eo, nd_nr0_nr1, nd_nw0_na0, nd_nw0_nq0, nd_nw0_nw1, nd_nw0_na1, nd_nw0_nq1, nd_na0_nq0, nd_na0_nw1, nd_na0_na1, nd_na0_nq1, nd_nq0_nw1, nd_nq0_na1, nd_nq0_nq1, nd_nw1_na1, nd_nw1_nq1, nd_na1_nq1, nd_bh_bp, nd_bf_bl⟩ := id hC
  have hc60 : cg ≤ 60 := by obtain ⟨q, h1, h2, h3⟩ := hB9.2.2.2.2.2.2; have h4 := hB9.1; omega
  refine lv_iload_n hx hb dX4_givenAt_0 rfl (lv_at hl9 1 rfl) ?_
  refine lv_if_lt (tgt := 15) hx hb dX4_givenAt_1 (by decide) (fun c1 => ?_) (fun c1 => ?_)
  · exact hp_throw (cls := eI) (names := tNm) B0 hw hS hout tF_eI qC_X4_137 qN_java_lang_IndexOutOfBoundsException sR_X4_139 tA_eI tB_eI tG_eI hl9.1 dX4_givenAt_15 dX4_givenAt_18 dX4_givenAt_19 dX4_givenAt_21 dX4_givenAt_24 ⟨⟨Nat.le_of_ble_eq_true rfl, Nat.le_of_ble_eq_true rfl⟩, Nat.le_of_ble_eq_true rfl, Nat.le_of_ble_eq_true rfl⟩ ⟨Nat.le_of_ble_eq_true rfl, Nat.le_of_ble_eq_true rfl⟩ (⟨⟨rfl, (spc_1 (fun h9 => by have h1 := c1; rw [jlt, tq0] at h1; have h2 := h9.1; omega))⟩, ⟨k_xo, ⟨_, _, _, _, _, _, _, _, _, _, k_ez, k_nq0, k_nr0, fhd0, ftl0, blp0⟩, ⟨_, _, _, _, _, _, _, _, _, _, k_eo, k_nq1, k_nr1, fhd1, ftl1, blp1⟩, k_nw0, k_na0, k_nw1, k_na1, k_bu, k_bs, k_bp, k_bh, k_bf, k_bl, k_bg, hPx, hB9, hfl9, nd_ez_eo, nd_nr0_nr1, nd_nw0_na0, nd_nw0_nq0, nd_nw0_nw1, nd_nw0_na1, nd_nw0_nq1, nd_na0_nq0, nd_na0_nw1, nd_na0_na1, nd_na0_nq1, nd_nq0_nw1, nd_nq0_na1, nd_nq0_nq1, nd_nw1_na1, nd_nw1_nq1, nd_na1_nq1, nd_bh_bp, nd_bf_bl⟩, hKp.rf⟩)
  · refine lv_iload_n hx hb dX4_givenAt_4 rfl (lv_at hl9 1 rfl) ?_
    refine lv_aload_n hx hb dX4_givenAt_5 rfl (lv_at hl9 0 rfl) ?_
    refine hp_get B0 hw 4 rfl in_X4 k_xo 2 (by decide) qF_X4_24 rfl dX4_givenAt_6 ?_
    refine hp_getN B0 hw 0 rfl in_X0 k_bu 7 (by decide) oF_X4_134 rfl dX4_givenAt_9 ?_
    refine lv_icmp_lt (tgt := 25) hx hb dX4_givenAt_12 (by decide) (fun c2 => ?_) (fun c2 => ?_)
    · have hga : (0 ≤ xv.toInt ∧ xv.toInt < (cg : Int)) := by have h1 := c1; have h2 := c2; rw [jlt] at h1 h2; rw [nI_toInt (by omega)] at h2; rw [tq0] at h1; exact ⟨by omega, by omega⟩
      have hop : vp_in xv 60 := vp_in_iff.mpr ⟨hga.1, by have h1 := hga.2; omega⟩
      refine lv_aload_n hx hb dX4_givenAt_25 rfl (lv_at hl9 0 rfl) ?_
      refine hp_get B0 hw 4 rfl in_X4 k_xo 2 (by decide) qF_X4_24 rfl dX4_givenAt_26 ?_
      refine hp_getN B0 hw 0 rfl in_X0 k_bu 5 (by decide) oF_X4_142 rfl dX4_givenAt_29 ?_
      refine lv_iload_n hx hb dX4_givenAt_32 rfl (lv_at hl9 1 rfl) ?_
      refine hp_iald B0 hw k_bg hop dX4_givenAt_33 ?_
      exact hp_iret (v := ((nf gv) (xv : Int32).toNatClampNeg)) B0 hw hS hr ⟨Nat.le_of_ble_eq_true rfl, Nat.le_of_ble_eq_true rfl⟩ dX4_givenAt_34 (⟨spc_0 hga trivial, rfl, ⟨k_xo, ⟨_, _, _, _, _, _, _, _, _, _, k_ez, k_nq0, k_nr0, fhd0, ftl0, blp0⟩, ⟨_, _, _, _, _, _, _, _, _, _, k_eo, k_nq1, k_nr1, fhd1, ftl1, blp1⟩, k_nw0, k_na0, k_nw1, k_na1, k_bu, k_bs, k_bp, k_bh, k_bf, k_bl, k_bg, hPx, hB9, hfl9, nd_ez_eo, nd_nr0_nr1, nd_nw0_na0, nd_nw0_nq0, nd_nw0_nw1, nd_nw0_na1, nd_nw0_nq1, nd_na0_nq0, nd_na0_nw1, nd_na0_na1, nd_na0_nq1, nd_nq0_nw1, nd_nq0_na1, nd_nq0_nq1, nd_nw1_na1, nd_nw1_nq1, nd_na1_nq1, nd_bh_bp, nd_bf_bl⟩, hKp.rf⟩)
    · exact hp_throw (cls := eI) (names := tNm) B0 hw hS hout tF_eI qC_X4_137 qN_java_lang_IndexOutOfBoundsException sR_X4_139 tA_eI tB_eI tG_eI hl9.1 dX4_givenAt_15 dX4_givenAt_18 dX4_givenAt_19 dX4_givenAt_21 dX4_givenAt_24 ⟨⟨Nat.le_of_ble_eq_true rfl, Nat.le_of_ble_eq_true rfl⟩, Nat.le_of_ble_eq_true rfl, Nat.le_of_ble_eq_true rfl⟩ ⟨Nat.le_of_ble_eq_true rfl, Nat.le_of_ble_eq_true rfl⟩ (⟨⟨rfl, (spc_1 (fun h9 => by have h1 := c2; rw [jlt, nI_toInt (by omega)] at h1; have h2 := h9.2; omega))⟩, ⟨k_xo, ⟨_, _, _, _, _, _, _, _, _, _, k_ez, k_nq0, k_nr0, fhd0, ftl0, blp0⟩, ⟨_, _, _, _, _, _, _, _, _, _, k_eo, k_nq1, k_nr1, fhd1, ftl1, blp1⟩, k_nw0, k_na0, k_nw1, k_na1, k_bu, k_bs, k_bp, k_bh, k_bf, k_bl, k_bg, hPx, hB9, hfl9, nd_ez_eo, nd_nr0_nr1, nd_nw0_na0, nd_nw0_nq0, nd_nw0_nw1, nd_nw0_na1, nd_nw0_nq1, nd_na0_nq0, nd_na0_nw1, nd_na0_na1, nd_na0_nq1, nd_nq0_nw1, nd_nq0_na1, nd_nq0_nq1, nd_nw1_na1, nd_nw1_nq1, nd_na1_nq1, nd_bh_bp, nd_bf_bl⟩, hKp.rf⟩)

