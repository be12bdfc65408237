set_option maxHeartbeats 4000000 in
set_option maxRecDepth 100000 in
theorem law_loop {p : Program} {l : Launch} {e : Env} {s : State} {m : MethodId} {below : List Frame} {meth : Method} {c : Code} {b L : Nat} {xs : Nat → Int32} (hL : L ≤ 2048) (hx : p.tables.exec = Jvm.exec) (hb : c.code = code) (hr : meth.sig.returnType = ret) (hlocks : meth.locks = false) (hX : va_X b L xs s s.heap) (hbl : b < s.heap.size) (hl : l.stackTraces = false) {G : hG} (B0 : hB p l s m #[Value.ref b] meth c code 7 RL G) (hbA : ¬ hFr G b) (hFs : ∀ q : Nat, hFr G q → s.heap.size ≤ q) {xo ez eo bu nw0 na0 nq0 nr0 nw1 na1 nq1 nr1 bs bp bh bf bl bg mo dW dA dQ dM dS dL dR dT dZ dI dH dN dK dJ dU dO dF dP dE dX dY dG out : Nat} (hdis : ∀ p, p ∈ [xo, ez, eo, bu, nw0, na0, nq0, nr0, nw1, na1, nq1, nr1, bs, bp, bh, bf, bl, bg] → p ∉ [mo, dW, dA, dQ, dM, dS, dL, dR, dT, dZ, dI, dH, dN, dK, dJ, dU, dO, dF, dP, dE, dX, dY, dG]) (hdos : ∀ p, p ∈ [mo, dW, dA, dQ, dM, dS, dL, dR, dT, dZ, dI, dH, dN, dK, dJ, dU, dO, dF, dP, dE, dX, dY, dG] → p ∉ [out, xo, ez, eo, bu, nw0, na0, nq0, nr0, nw1, na1, nq1, nr1, bs, bp, bh, bf, bl, bg]) (hno : out ∉ [xo, ez, eo, bu, nw0, na0, nq0, nr0, nw1, na1, nq1, nr1, bs, bp, bh, bf, bl, bg]) (hno2 : out ∉ [mo, dW, dA, dQ, dM, dS, dL, dR, dT, dZ, dI, dH, dN, dK, dJ, dU, dO, dF, dP, dE, dX, dY, dG]) {gw0 : Nat → Int32} {ga0 : Nat → Int32} {gw1 : Nat → Int32} {ga1 : Nat → Int32} {mg0 : Int32} {mg1 : Int32} {n : Nat} {a : Nat} {cg : Nat} {x : Nat} {sa : Nat → Nat} {pk : Nat → Nat} {fl : Nat → Nat} {gv : Nat → Nat} {gh : Nat → Int32} {gl : Nat → Int32} {f9 : hM} {th : Int32} {go : Nat → Int64} (hC : CW G f9 xo ez eo bu nw0 na0 nq0 nr0 nw1 na1 nq1 nr1 bs bp bh bf bl bg gw0 ga0 gw1 ga1 mg0 mg1 n a cg x sa pk fl gv gh gl) (hM : MW G f9 mo dW dA dQ dM dS dL dR dT dZ dI dH dN dK dJ dU dO dF dP dE dX dY dG th (100 * 0) gw0 ga0 gw1 ga1 mg0 mg1 n a cg x sa pk fl gv gh gl) (ho : f9 out = some (.inl (cJ G, 1, .inr (.inl go)))) {H : Heap} {locs : List Loc} {ls : Array Slot} (hw : hW G f9 H) (hS : va_S (hFr G) s.heap H locs) (hl9 : lv_has ls 7 [(4, .int (nI (4 * 0))), (0, .ref b), (1, .ref xo), (2, .ref mo), (3, .ref out)]) : W p l e room_1 s m #[Value.ref b] below meth c H locs (42) (9564) (lw_Z below #[Value.ref b] s) (F0 m 23 ls []) := by
  obtain ⟨T, hT1, hT2⟩ : ∃ T, 4 * T ≤ L ∧ L < 4 * T + 4 := ⟨L / 4, by omega, by omega⟩
  refine hp_cs (c2 := 42 + 0 * 201) (s2 := 9564 + 0 * 1101) (by rfl) (by rfl) ?_
  refine hp_forC (nL := 7) (pc := 23) (lwI G xo ez eo bu nw0 na0 nq0 nr0 nw1 na1 nq1 nr1 bs bp bh bf bl bg mo dW dA dQ dM dS dL dR dT dZ dI dH dN dK dJ dU dO dF dP dE dX dY dG out b) T 42 9564 201 1101 (fun j f9 lv9 H locs ls hj hI hw hS hl9 ih => ?_) (fun f9 lv9 H locs ls hI hw hS hl9 => ?_) T 0 (Nat.zero_add T) f9 _ _ _ ls ⟨_, _, _, _, _, _, _, _, _, _, _, _, _, _, _, _, hC, ⟨_, hM⟩, ⟨_, ho⟩, rfl⟩ hw hS hl9
  · obtain ⟨gw0, ga0, gw1, ga1, mg0, mg1, n, a, cg, x, sa, pk, fl, gv, gh, gl, hC, ⟨th, hM⟩, ⟨go, ho⟩, el9⟩ := hI
    rw [el9] at hl9
    refine lv_iload hx hb dL_law_23 (lv_at hl9 0 rfl) ?_
    refine lv_aload_n hx hb dL_law_25 rfl (lv_at hl9 1 rfl) ?_
    refine va_slen hx hb hX hbl hbA hS dL_law_26 ?_
    refine hp_c (v := nI L) rfl ?_
    refine lv_iconst (v := 4) hx hb dL_law_27 (by decide) ?_
    refine lv_isub hx hb dL_law_28 ?_
    refine lv_icmp_gt (tgt := 772) hx hb dL_law_29 (by decide) (fun c9 => absurd c9 (by rw [jlt, nI_m4 (by omega), nI_toInt (by omega)]; omega)) (fun _ => ?_)
    refine lv_aload_n hx hb dL_law_32 rfl (lv_at hl9 1 rfl) ?_
    refine lv_iload hx hb dL_law_33 (lv_at hl9 0 rfl) ?_
    refine va_sld hx hb hX hbl hbA hS (vp_in_nI (show 4 * j < L by omega) (by omega)) dL_law_35 ?_
    refine hp_c (v := xs (4 * j)) (congrArg xs (nI_clamp (by omega))) ?_
    refine lv_bipush (v := 31) hx hb dL_law_36 (by decide) ?_
    refine lv_iand hx hb dL_law_38 ?_
    obtain ⟨n9, hn9, en9⟩ := pk_andE (xs (4 * j)) (m := 31) 5 (by decide)
    refine hp_c (v := nI n9) en9 ?_
    rcases (show n9 = 0 ∨ n9 = 1 ∨ n9 = 2 ∨ n9 = 3 ∨ n9 = 4 ∨ n9 = 5 ∨ n9 = 6 ∨ n9 = 7 ∨ n9 = 8 ∨ n9 = 9 ∨ n9 = 10 ∨ n9 = 11 ∨ n9 = 12 ∨ n9 = 13 ∨ n9 = 14 ∨ n9 = 15 ∨ n9 = 16 ∨ n9 = 17 ∨ n9 = 18 ∨ n9 = 19 ∨ n9 = 20 ∨ 21 ≤ n9 by omega) with rfl | rfl | rfl | rfl | rfl | rfl | rfl | rfl | rfl | rfl | rfl | rfl | rfl | rfl | rfl | rfl | rfl | rfl | rfl | rfl | rfl | hb9
    · refine lv_tableIn (off := 97) (tgt := 136) hx hb dL_law_39 (by decide) (by decide) (by decide) (by decide) ?_
      exact law_c0 hL hx hb hX hbl hl B0 hbA hdis hdos hno hno2 hj hT1 ih hC hM ho hw hS hl9
    · refine lv_tableIn (off := 149) (tgt := 188) hx hb dL_law_39 (by decide) (by decide) (by decide) (by decide) ?_
      exact law_c1 hL hx hb hX hbl hl B0 hbA hdis hdos hno hno2 hj hT1 ih hC hM ho hw hS hl9
    · refine lv_tableIn (off := 201) (tgt := 240) hx hb dL_law_39 (by decide) (by decide) (by decide) (by decide) ?_
      exact law_c2 hL hx hb hX hbl hl B0 hbA hdis hdos hno hno2 hj hT1 ih hC hM ho hw hS hl9
    · refine lv_tableIn (off := 241) (tgt := 280) hx hb dL_law_39 (by decide) (by decide) (by decide) (by decide) ?_
      exact law_c3 hL hx hb hX hbl hl B0 hbA hdis hdos hno hno2 hj hT1 ih hC hM ho hw hS hl9
    · refine lv_tableIn (off := 269) (tgt := 308) hx hb dL_law_39 (by decide) (by decide) (by decide) (by decide) ?_
      exact law_c4 hL hx hb hX hbl hl B0 hbA hdis hdos hno hno2 hj hT1 ih hC hM ho hw hS hl9
    · refine lv_tableIn (off := 297) (tgt := 336) hx hb dL_law_39 (by decide) (by decide) (by decide) (by decide) ?_
      exact law_c5 hL hx hb hX hbl hl B0 hbA hdis hdos hno hno2 hj hT1 ih hC hM ho hw hS hl9
    · refine lv_tableIn (off := 325) (tgt := 364) hx hb dL_law_39 (by decide) (by decide) (by decide) (by decide) ?_
      exact law_c6 hL hx hb hX hbl hl B0 hbA hdis hdos hno hno2 hj hT1 ih hC hM ho hw hS hl9
    · refine lv_tableIn (off := 353) (tgt := 392) hx hb dL_law_39 (by decide) (by decide) (by decide) (by decide) ?_
      exact law_c7 hL hx hb hX hbl hl B0 hbA hdis hdos hno hno2 hj hT1 ih hC hM ho hw hS hl9
    · refine lv_tableIn (off := 381) (tgt := 420) hx hb dL_law_39 (by decide) (by decide) (by decide) (by decide) ?_
      exact law_c8 hL hx hb hX hbl hl B0 hbA hdis hdos hno hno2 hj hT1 ih hC hM ho hw hS hl9
    · refine lv_tableIn (off := 409) (tgt := 448) hx hb dL_law_39 (by decide) (by decide) (by decide) (by decide) ?_
      exact law_c9 hL hx hb hX hbl hl B0 hbA hdis hdos hno hno2 hj hT1 ih hC hM ho hw hS hl9
    · refine lv_tableIn (off := 437) (tgt := 476) hx hb dL_law_39 (by decide) (by decide) (by decide) (by decide) ?_
      exact law_c10 hL hx hb hX hbl hl B0 hbA hdis hdos hno hno2 hj hT1 ih hC hM ho hw hS hl9
    · refine lv_tableIn (off := 477) (tgt := 516) hx hb dL_law_39 (by decide) (by decide) (by decide) (by decide) ?_
      exact law_c11 hL hx hb hX hbl hl B0 hbA hdis hdos hno hno2 hj hT1 ih hC hM ho hw hS hl9
    · refine lv_tableIn (off := 505) (tgt := 544) hx hb dL_law_39 (by decide) (by decide) (by decide) (by decide) ?_
      exact law_c12 hL hx hb hX hbl hl B0 hbA hdis hdos hno hno2 hj hT1 ih hC hM ho hw hS hl9
    · refine lv_tableIn (off := 533) (tgt := 572) hx hb dL_law_39 (by decide) (by decide) (by decide) (by decide) ?_
      exact law_c13 hL hx hb hX hbl hl B0 hbA hdis hdos hno hno2 hj hT1 ih hC hM ho hw hS hl9
    · refine lv_tableIn (off := 561) (tgt := 600) hx hb dL_law_39 (by decide) (by decide) (by decide) (by decide) ?_
      exact law_c14 hL hx hb hX hbl hl B0 hbA hdis hdos hno hno2 hj hT1 ih hC hM ho hw hS hl9
    · refine lv_tableIn (off := 589) (tgt := 628) hx hb dL_law_39 (by decide) (by decide) (by decide) (by decide) ?_
      exact law_c15 hL hx hb hX hbl hl B0 hbA hdis hdos hno hno2 hj hT1 ih hC hM ho hw hS hl9
    · refine lv_tableIn (off := 617) (tgt := 656) hx hb dL_law_39 (by decide) (by decide) (by decide) (by decide) ?_
      exact law_c16 hL hx hb hX hbl hl B0 hbA hdis hdos hno hno2 hj hT1 ih hC hM ho hw hS hl9
    · refine lv_tableIn (off := 645) (tgt := 684) hx hb dL_law_39 (by decide) (by decide) (by decide) (by decide) ?_
      exact law_c17 hL hx hb hX hbl hl B0 hbA hdis hdos hno hno2 hj hT1 ih hC hM ho hw hS hl9
    · refine lv_tableIn (off := 673) (tgt := 712) hx hb dL_law_39 (by decide) (by decide) (by decide) (by decide) ?_
      exact law_c18 hL hx hb hX hbl hl B0 hbA hdis hdos hno hno2 hj hT1 ih hC hM ho hw hS hl9
    · refine lv_tableIn (off := 686) (tgt := 725) hx hb dL_law_39 (by decide) (by decide) (by decide) (by decide) ?_
      exact law_c19 hL hx hb hX hbl hl B0 hbA hdis hdos hno hno2 hj hT1 ih hC hM ho hw hS hl9
    · refine lv_tableIn (off := 714) (tgt := 753) hx hb dL_law_39 (by decide) (by decide) (by decide) (by decide) ?_
      exact law_c20 hL hx hb hX hbl hl B0 hbA hdis hdos hno hno2 hj hT1 ih hC hM ho hw hS hl9
    · refine lv_tableOut (tgt := 766) hx hb dL_law_39 (Or.inr (by rw [nI_toInt (by omega)]; omega)) (by decide) ?_
      exact law_c21 hL hx hb hX hbl hl B0 hbA hdis hdos hno hno2 hj hT1 ih hC hM ho hw hS hl9
  · obtain ⟨gw0, ga0, gw1, ga1, mg0, mg1, n, a, cg, x, sa, pk, fl, gv, gh, gl, hC, ⟨th, hM⟩, ⟨go, ho⟩, el9⟩ := hI
    rw [el9] at hl9
    refine lv_iload hx hb dL_law_23 (lv_at hl9 0 rfl) ?_
    refine lv_aload_n hx hb dL_law_25 rfl (lv_at hl9 1 rfl) ?_
    refine va_slen hx hb hX hbl hbA hS dL_law_26 ?_
    refine hp_c (v := nI L) rfl ?_
    refine lv_iconst (v := 4) hx hb dL_law_27 (by decide) ?_
    refine lv_isub hx hb dL_law_28 ?_
    refine lv_icmp_gt (tgt := 772) hx hb dL_law_29 (by decide) (fun _ => ?_) (fun c9 => absurd (by rw [jlt, nI_m4 (by omega), nI_toInt (by omega)]; omega) c9)
    refine lv_iconst (v := 1) hx hb dL_law_772 (by decide) ?_
    refine va_forget (fun q hq => hFs _ (hS.2.2 q hq)) ?_
    refine W.widen (k := 601024) (n := 7293034) (by omega) (by omega) ?_
    exact lw_ret hx hb hr hlocks dL_law_773

set_option maxHeartbeats 40000000 in
set_option maxRecDepth 100000 in
theorem whole_start {p : Program} {e : Env} {s : State} {m : MethodId} {below : List Frame} {meth : Method} {c : Code} (l : Launch) (hflags : l.flags = flags0) {b L : Nat} {xs : Nat → Int32} (hL : L ≤ 2048) (C0 : lw_At p s m meth c b L xs) : W p l e room_1 s m #[Value.ref b] below meth c s.heap [] 0 0 (lw_Z below #[Value.ref b] s) (entryFrame m ([Value.ref b] : List Value).toArray 7) := by
  obtain ⟨hx, hb, hr, hml, hown, hts, hX, hbl, hlocks, hgv⟩ := id C0
  have hl : l.stackTraces = false := by unfold Launch.stackTraces; rw [hflags]; decide
  obtain ⟨dC, dI, cI9, cZ9, cJ9, hk⟩ := hK_0 hts hgv
  obtain ⟨G, hGe⟩ : ∃ G : hG, G = ((dC, dI), (cI9, cZ9, cJ9), s.heap.size) := ⟨_, rfl⟩
  rw [← hGe] at hk
  have B0 : hB p l s m #[Value.ref b] meth c code 7 RL G := ⟨hx, hb, hml, hown, fun w h => hts w (List.mem_filter.mp h).1, hlocks, hk, hl⟩
  have hFs : ∀ q : Nat, hFr G q → s.heap.size ≤ q := by rw [hGe]; exact fun _ h => h
  have hbA : ¬ hFr G b := fun h => absurd (hFs b h) (Nat.not_le.mpr hbl)
  have hS : va_S (hFr G) s.heap s.heap [] := va_S.rf
  obtain ⟨f, hf0⟩ : ∃ f : hM, f = fun _ => none := ⟨_, rfl⟩
  have hw : hW G f s.heap := by rw [hf0]; exact hW_0
  have hf0 : ∀ a k, f a ≠ some (.inr (2, k)) := fun a k h => by rw [hf0] at h; cases h
  have hl9 := lv_entry ([.ref b]) (n := 7) (Nat.le_of_ble_eq_true rfl)
  rw [lg_entry_eq]
  generalize (lg_sl ([.ref b]) ++ List.replicate (7 - (lg_sl ([.ref b])).length) Slot.unset).toArray = ls at hl9 ⊢
  have hl9 : lv_has ls 7 [(0, .ref b)] := hl9
  refine hp_new (fs := [.null, .null, .null]) B0 hw hS 4 rfl in_X4 tyX4 tyX4_ok qC_L_8 qI_X4 qN_X4 (fun j hj => by rcases (show j = 0 ∨ j = 1 ∨ j = 2 by omega) with rfl | rfl | rfl <;> rfl) (Nat.le_of_ble_eq_true rfl) (Nat.le_of_ble_eq_true rfl) dL_law_0 (fun xo H f2 w1 ef2 hw hS => ?_)
  have h3 : f2 xo = some (.inr (4, [.null, .null, .null])) := by rw [ef2, va_up_self]
  refine lv_dup hx hb dL_law_3 rfl ?_
  refine hp_I (As := []) (rest := [.ref xo]) (b := xo) B0 hw hS (c_X4_init hl G f2 xo h3) mI_X4_init qM_L_76 rfl rfl hl9.1 (Nat.le_of_ble_eq_true rfl) ⟨⟨Nat.le_of_ble_eq_true rfl, Nat.le_of_ble_eq_true rfl⟩, (by first | omega | (dsimp only; omega) | (show (_ : Nat) ≤ _; simp only [room_1]; omega)), (by first | omega | (dsimp only; omega) | (show (_ : Nat) ≤ _; simp only [room_1]; omega))⟩ dL_law_4 (fun E ce q9 f4 H locs hPX hw hS hce hcv hcl => ?_) (fun v f4 H locs hP hw hS => ?_)
  · exact hPX.elim
  · obtain ⟨ev9, ez, eo, bu, nw0, na0, nq0, nr0, nw1, na1, nq1, nr1, bs, bp, bh, bf, bl, bg, wez, weo, wbu, wnw0, wna0, wnq0, wnr0, wnw1, wna1, wnq1, wnr1, wbs, wbp, wbh, wbf, wbl, wbg, h5, h6, h7, h8, h9, h10, h11, h12, h13, h14, h15, h16, h17, h18, h19, h20, h21, h22, nd_ez_eo, nd_nr0_nr1, nd_nw0_na0, nd_nw0_nq0, nd_nw0_nw1, nd_nw0_na1, nd_nw0_nq1, nd_na0_nq0, nd_na0_nw1, nd_na0_na1, nd_na0_nq1, nd_nq0_nw1, nd_nq0_na1, nd_nq0_nq1, nd_nw1_na1, nd_nw1_nq1, nd_na1_nq1, nd_bh_bp, nd_bf_bl, k23, znf4⟩ := hP
    subst ev9
    refine W.eq (g2 := F0 m 7 ls [.ref xo]) rfl ?_
    refine lv_astore_n (lv' := [(1, .ref xo), (0, .ref b)]) hx hb dL_law_7 rfl hl9 (by decide) rfl (fun ls hl9 => ?_)
    refine hp_new (fs := [.int 0, .null, .null, .null, .null, .null, .null, .null, .null, .null, .null, .null, .null, .null, .null, .null, .null, .int 0, .int 0, .null, .null, .null, .null, .null, .int 0, .int 0, .null]) B0 hw hS 5 rfl in_X5 tyX5 tyX5_ok qC_L_77 qI_X5 qN_X5 (fun j hj => by rcases (show j = 0 ∨ j = 1 ∨ j = 2 ∨ j = 3 ∨ j = 4 ∨ j = 5 ∨ j = 6 ∨ j = 7 ∨ j = 8 ∨ j = 9 ∨ j = 10 ∨ j = 11 ∨ j = 12 ∨ j = 13 ∨ j = 14 ∨ j = 15 ∨ j = 16 ∨ j = 17 ∨ j = 18 ∨ j = 19 ∨ j = 20 ∨ j = 21 ∨ j = 22 ∨ j = 23 ∨ j = 24 ∨ j = 25 ∨ j = 26 by omega) with rfl | rfl | rfl | rfl | rfl | rfl | rfl | rfl | rfl | rfl | rfl | rfl | rfl | rfl | rfl | rfl | rfl | rfl | rfl | rfl | rfl | rfl | rfl | rfl | rfl | rfl | rfl <;> rfl) (Nat.le_of_ble_eq_true rfl) (Nat.le_of_ble_eq_true rfl) dL_law_8 (fun mo H f25 w24 ef25 hw hS => ?_)
    have h26 : f25 mo = some (.inr (5, [.int 0, .null, .null, .null, .null, .null, .null, .null, .null, .null, .null, .null, .null, .null, .null, .null, .null, .int 0, .int 0, .null, .null, .null, .null, .null, .int 0, .int 0, .null])) := by rw [ef25, va_up_self]
    refine lv_dup hx hb dL_law_11 rfl ?_
    refine hp_I (As := []) (rest := [.ref mo]) (b := mo) B0 hw hS (c_X5_init hl G f25 mo h26) mI_X5_init qM_L_79 rfl rfl hl9.1 (Nat.le_of_ble_eq_true rfl) ⟨⟨Nat.le_of_ble_eq_true rfl, Nat.le_of_ble_eq_true rfl⟩, (by first | omega | (dsimp only; omega) | (show (_ : Nat) ≤ _; simp only [room_1]; omega)), (by first | omega | (dsimp only; omega) | (show (_ : Nat) ≤ _; simp only [room_1]; omega))⟩ dL_law_12 (fun E ce q9 f27 H locs hPX hw hS hce hcv hcl => ?_) (fun v f27 H locs hP hw hS => ?_)
    · exact hPX.elim
    · obtain ⟨ev9, dW, dA, dQ, dM, dS, dL, dR, dT, dZ, dI, dH, dN, dK, dJ, dU, dO, dF, dP, dE, dX, dY, dG, wdW, wdA, wdQ, wdM, wdS, wdL, wdR, wdT, wdZ, wdI, wdH, wdN, wdK, wdJ, wdU, wdO, wdF, wdP, wdE, wdX, wdY, wdG, h28, h29, h30, h31, h32, h33, h34, h35, h36, h37, h38, h39, h40, h41, h42, h43, h44, h45, h46, h47, h48, h49, h50, nd_dW_dA, nd_dW_dQ, nd_dA_dQ, nd_dM_dS, nd_dM_dL, nd_dM_dR, nd_dM_dT, nd_dM_dZ, nd_dM_dI, nd_dM_dH, nd_dM_dN, nd_dS_dL, nd_dS_dR, nd_dS_dT, nd_dS_dZ, nd_dS_dI, nd_dS_dH, nd_dS_dN, nd_dL_dR, nd_dL_dT, nd_dL_dZ, nd_dL_dI, nd_dL_dH, nd_dL_dN, nd_dR_dT, nd_dR_dZ, nd_dR_dI, nd_dR_dH, nd_dR_dN, nd_dT_dZ, nd_dT_dI, nd_dT_dH, nd_dT_dN, nd_dZ_dI, nd_dZ_dH, nd_dZ_dN, nd_dI_dH, nd_dI_dN, nd_dH_dN, nd_dK_dJ, nd_dK_dU, nd_dK_dO, nd_dJ_dU, nd_dJ_dO, nd_dU_dO, nd_dP_dE, nd_dX_dY, k51, znf5⟩ := hP
      subst ev9
      refine W.eq (g2 := F0 m 15 ls [.ref mo]) rfl ?_
      refine lv_astore_n (lv' := [(2, .ref mo), (1, .ref xo), (0, .ref b)]) hx hb dL_law_15 rfl hl9 (by decide) rfl (fun ls hl9 => ?_)
      refine lv_iconst (v := 1) hx hb dL_law_16 (by decide) ?_
      refine hp_newaJ (N' := 1) B0 hw hS qA_long (by decide) (by decide) (Nat.le_of_ble_eq_true rfl) (Nat.le_of_ble_eq_true rfl) (Nat.le_of_ble_eq_true rfl) dL_law_17 (fun out H f53 w52 ef53 hw hS => ?_)
      have h54 : f53 out = some (.inl (cJ G, 1, .inr (.inl (fun _ => 0)))) := by rw [ef53, va_up_self]
      refine lv_astore_n (lv' := [(3, .ref out), (2, .ref mo), (1, .ref xo), (0, .ref b)]) hx hb dL_law_19 rfl hl9 (by decide) rfl (fun ls hl9 => ?_)
      refine lv_iconst (v := 0) hx hb dL_law_20 (by decide) ?_
      refine lv_istore (lv' := [(4, .int 0), (3, .ref out), (2, .ref mo), (1, .ref xo), (0, .ref b)]) hx hb dL_law_21 hl9 (by decide) rfl (fun ls hl9 => ?_)
      have n55 : xo ≠ mo := hnew h5 w24
      have h56 : f25 xo = some (.inr (4, [.ref ez, .ref eo, .ref bu])) := by rw [ef25, va_up_ne _ _ (hnew h5 w24)]; exact h5
      have n57 : xo ≠ dW := hnew h56 wdW
      have n58 : xo ≠ dA := hnew h56 wdA
      have n59 : xo ≠ dQ := hnew h56 wdQ
      have n60 : xo ≠ dM := hnew h56 wdM
      have n61 : xo ≠ dS := hnew h56 wdS
      have n62 : xo ≠ dL := hnew h56 wdL
      have n63 : xo ≠ dR := hnew h56 wdR
      have n64 : xo ≠ dT := hnew h56 wdT
      have n65 : xo ≠ dZ := hnew h56 wdZ
      have n66 : xo ≠ dI := hnew h56 wdI
      have n67 : xo ≠ dH := hnew h56 wdH
      have n68 : xo ≠ dN := hnew h56 wdN
      have n69 : xo ≠ dK := hnew h56 wdK
      have n70 : xo ≠ dJ := hnew h56 wdJ
      have n71 : xo ≠ dU := hnew h56 wdU
      have n72 : xo ≠ dO := hnew h56 wdO
      have n73 : xo ≠ dF := hnew h56 wdF
      have n74 : xo ≠ dP := hnew h56 wdP
      have n75 : xo ≠ dE := hnew h56 wdE
      have n76 : xo ≠ dX := hnew h56 wdX
      have n77 : xo ≠ dY := hnew h56 wdY
      have n78 : xo ≠ dG := hnew h56 wdG
      have n79 : ez ≠ mo := hnew h6 w24
      have h80 : f25 ez = some (.inr (1, [.ref nw0, .ref na0, .ref nq0, .ref nr0, .int 1, .int 0, .int 0, .int 0, .int (-1), .int 0, .int 0])) := by rw [ef25, va_up_ne _ _ (hnew h6 w24)]; exact h6
      have n81 : ez ≠ dW := hnew h80 wdW
      have n82 : ez ≠ dA := hnew h80 wdA
      have n83 : ez ≠ dQ := hnew h80 wdQ
      have n84 : ez ≠ dM := hnew h80 wdM
      have n85 : ez ≠ dS := hnew h80 wdS
      have n86 : ez ≠ dL := hnew h80 wdL
      have n87 : ez ≠ dR := hnew h80 wdR
      have n88 : ez ≠ dT := hnew h80 wdT
      have n89 : ez ≠ dZ := hnew h80 wdZ
      have n90 : ez ≠ dI := hnew h80 wdI
      have n91 : ez ≠ dH := hnew h80 wdH
      have n92 : ez ≠ dN := hnew h80 wdN
      have n93 : ez ≠ dK := hnew h80 wdK
      have n94 : ez ≠ dJ := hnew h80 wdJ
      have n95 : ez ≠ dU := hnew h80 wdU
      have n96 : ez ≠ dO := hnew h80 wdO
      have n97 : ez ≠ dF := hnew h80 wdF
      have n98 : ez ≠ dP := hnew h80 wdP
      have n99 : ez ≠ dE := hnew h80 wdE
      have n100 : ez ≠ dX := hnew h80 wdX
      have n101 : ez ≠ dY := hnew h80 wdY
      have n102 : ez ≠ dG := hnew h80 wdG
      have n103 : eo ≠ mo := hnew h11 w24
      have h104 : f25 eo = some (.inr (1, [.ref nw1, .ref na1, .ref nq1, .ref nr1, .int 2, .int 0, .int 0, .int 0, .int (-1), .int 0, .int 0])) := by rw [ef25, va_up_ne _ _ (hnew h11 w24)]; exact h11
      have n105 : eo ≠ dW := hnew h104 wdW
      have n106 : eo ≠ dA := hnew h104 wdA
      have n107 : eo ≠ dQ := hnew h104 wdQ
      have n108 : eo ≠ dM := hnew h104 wdM
      have n109 : eo ≠ dS := hnew h104 wdS
      have n110 : eo ≠ dL := hnew h104 wdL
      have n111 : eo ≠ dR := hnew h104 wdR
      have n112 : eo ≠ dT := hnew h104 wdT
      have n113 : eo ≠ dZ := hnew h104 wdZ
      have n114 : eo ≠ dI := hnew h104 wdI
      have n115 : eo ≠ dH := hnew h104 wdH
      have n116 : eo ≠ dN := hnew h104 wdN
      have n117 : eo ≠ dK := hnew h104 wdK
      have n118 : eo ≠ dJ := hnew h104 wdJ
      have n119 : eo ≠ dU := hnew h104 wdU
      have n120 : eo ≠ dO := hnew h104 wdO
      have n121 : eo ≠ dF := hnew h104 wdF
      have n122 : eo ≠ dP := hnew h104 wdP
      have n123 : eo ≠ dE := hnew h104 wdE
      have n124 : eo ≠ dX := hnew h104 wdX
      have n125 : eo ≠ dY := hnew h104 wdY
      have n126 : eo ≠ dG := hnew h104 wdG
      have n127 : bu ≠ mo := hnew h16 w24
      have h128 : f25 bu = some (.inr (0, [.ref bs, .ref bp, .ref bh, .ref bf, .ref bl, .ref bg, .int 0, .int 0, .int 0])) := by rw [ef25, va_up_ne _ _ (hnew h16 w24)]; exact h16
      have n129 : bu ≠ dW := hnew h128 wdW
      have n130 : bu ≠ dA := hnew h128 wdA
      have n131 : bu ≠ dQ := hnew h128 wdQ
      have n132 : bu ≠ dM := hnew h128 wdM
      have n133 : bu ≠ dS := hnew h128 wdS
      have n134 : bu ≠ dL := hnew h128 wdL
      have n135 : bu ≠ dR := hnew h128 wdR
      have n136 : bu ≠ dT := hnew h128 wdT
      have n137 : bu ≠ dZ := hnew h128 wdZ
      have n138 : bu ≠ dI := hnew h128 wdI
      have n139 : bu ≠ dH := hnew h128 wdH
      have n140 : bu ≠ dN := hnew h128 wdN
      have n141 : bu ≠ dK := hnew h128 wdK
      have n142 : bu ≠ dJ := hnew h128 wdJ
      have n143 : bu ≠ dU := hnew h128 wdU
      have n144 : bu ≠ dO := hnew h128 wdO
      have n145 : bu ≠ dF := hnew h128 wdF
      have n146 : bu ≠ dP := hnew h128 wdP
      have n147 : bu ≠ dE := hnew h128 wdE
      have n148 : bu ≠ dX := hnew h128 wdX
      have n149 : bu ≠ dY := hnew h128 wdY
      have n150 : bu ≠ dG := hnew h128 wdG
      have n151 : nw0 ≠ mo := hnew h7 w24
      have h152 : f25 nw0 = some (.inl (cI G, 6, .inl (fun j => if j < 6 then (-1) else (fun _ => 0) j))) := by rw [ef25, va_up_ne _ _ (hnew h7 w24)]; exact h7
      have n153 : nw0 ≠ dW := hnew h152 wdW
      have n154 : nw0 ≠ dA := hnew h152 wdA
      have n155 : nw0 ≠ dQ := hnew h152 wdQ
      have n156 : nw0 ≠ dM := hnew h152 wdM
      have n157 : nw0 ≠ dS := hnew h152 wdS
      have n158 : nw0 ≠ dL := hnew h152 wdL
      have n159 : nw0 ≠ dR := hnew h152 wdR
      have n160 : nw0 ≠ dT := hnew h152 wdT
      have n161 : nw0 ≠ dZ := hnew h152 wdZ
      have n162 : nw0 ≠ dI := hnew h152 wdI
      have n163 : nw0 ≠ dH := hnew h152 wdH
      have n164 : nw0 ≠ dN := hnew h152 wdN
      have n165 : nw0 ≠ dK := hnew h152 wdK
      have n166 : nw0 ≠ dJ := hnew h152 wdJ
      have n167 : nw0 ≠ dU := hnew h152 wdU
      have n168 : nw0 ≠ dO := hnew h152 wdO
      have n169 : nw0 ≠ dF := hnew h152 wdF
      have n170 : nw0 ≠ dP := hnew h152 wdP
      have n171 : nw0 ≠ dE := hnew h152 wdE
      have n172 : nw0 ≠ dX := hnew h152 wdX
      have n173 : nw0 ≠ dY := hnew h152 wdY
      have n174 : nw0 ≠ dG := hnew h152 wdG
      have n175 : na0 ≠ mo := hnew h8 w24
      have h176 : f25 na0 = some (.inl (cI G, 6, .inl (fun _ => 0))) := by rw [ef25, va_up_ne _ _ (hnew h8 w24)]; exact h8
      have n177 : na0 ≠ dW := hnew h176 wdW
      have n178 : na0 ≠ dA := hnew h176 wdA
      have n179 : na0 ≠ dQ := hnew h176 wdQ
      have n180 : na0 ≠ dM := hnew h176 wdM
      have n181 : na0 ≠ dS := hnew h176 wdS
      have n182 : na0 ≠ dL := hnew h176 wdL
      have n183 : na0 ≠ dR := hnew h176 wdR
      have n184 : na0 ≠ dT := hnew h176 wdT
      have n185 : na0 ≠ dZ := hnew h176 wdZ
      have n186 : na0 ≠ dI := hnew h176 wdI
      have n187 : na0 ≠ dH := hnew h176 wdH
      have n188 : na0 ≠ dN := hnew h176 wdN
      have n189 : na0 ≠ dK := hnew h176 wdK
      have n190 : na0 ≠ dJ := hnew h176 wdJ
      have n191 : na0 ≠ dU := hnew h176 wdU
      have n192 : na0 ≠ dO := hnew h176 wdO
      have n193 : na0 ≠ dF := hnew h176 wdF
      have n194 : na0 ≠ dP := hnew h176 wdP
      have n195 : na0 ≠ dE := hnew h176 wdE
      have n196 : na0 ≠ dX := hnew h176 wdX
      have n197 : na0 ≠ dY := hnew h176 wdY
      have n198 : na0 ≠ dG := hnew h176 wdG
      have n199 : nq0 ≠ mo := hnew h9 w24
      have h200 : f25 nq0 = some (.inl (cI G, 6, .inl (fun j => if j < 6 then (-1) else (fun _ => 0) j))) := by rw [ef25, va_up_ne _ _ (hnew h9 w24)]; exact h9
      have n201 : nq0 ≠ dW := hnew h200 wdW
      have n202 : nq0 ≠ dA := hnew h200 wdA
      have n203 : nq0 ≠ dQ := hnew h200 wdQ
      have n204 : nq0 ≠ dM := hnew h200 wdM
      have n205 : nq0 ≠ dS := hnew h200 wdS
      have n206 : nq0 ≠ dL := hnew h200 wdL
      have n207 : nq0 ≠ dR := hnew h200 wdR
      have n208 : nq0 ≠ dT := hnew h200 wdT
      have n209 : nq0 ≠ dZ := hnew h200 wdZ
      have n210 : nq0 ≠ dI := hnew h200 wdI
      have n211 : nq0 ≠ dH := hnew h200 wdH
      have n212 : nq0 ≠ dN := hnew h200 wdN
      have n213 : nq0 ≠ dK := hnew h200 wdK
      have n214 : nq0 ≠ dJ := hnew h200 wdJ
      have n215 : nq0 ≠ dU := hnew h200 wdU
      have n216 : nq0 ≠ dO := hnew h200 wdO
      have n217 : nq0 ≠ dF := hnew h200 wdF
      have n218 : nq0 ≠ dP := hnew h200 wdP
      have n219 : nq0 ≠ dE := hnew h200 wdE
      have n220 : nq0 ≠ dX := hnew h200 wdX
      have n221 : nq0 ≠ dY := hnew h200 wdY
      have n222 : nq0 ≠ dG := hnew h200 wdG
      have n223 : nr0 ≠ mo := hnew h10 w24
      have h224 : f25 nr0 = some (.inr (3, [.null, .null, .int 0])) := by rw [ef25, va_up_ne _ _ (hnew h10 w24)]; exact h10
      have n225 : nr0 ≠ dW := hnew h224 wdW
      have n226 : nr0 ≠ dA := hnew h224 wdA
      have n227 : nr0 ≠ dQ := hnew h224 wdQ
      have n228 : nr0 ≠ dM := hnew h224 wdM
      have n229 : nr0 ≠ dS := hnew h224 wdS
      have n230 : nr0 ≠ dL := hnew h224 wdL
      have n231 : nr0 ≠ dR := hnew h224 wdR
      have n232 : nr0 ≠ dT := hnew h224 wdT
      have n233 : nr0 ≠ dZ := hnew h224 wdZ
      have n234 : nr0 ≠ dI := hnew h224 wdI
      have n235 : nr0 ≠ dH := hnew h224 wdH
      have n236 : nr0 ≠ dN := hnew h224 wdN
      have n237 : nr0 ≠ dK := hnew h224 wdK
      have n238 : nr0 ≠ dJ := hnew h224 wdJ
      have n239 : nr0 ≠ dU := hnew h224 wdU
      have n240 : nr0 ≠ dO := hnew h224 wdO
      have n241 : nr0 ≠ dF := hnew h224 wdF
      have n242 : nr0 ≠ dP := hnew h224 wdP
      have n243 : nr0 ≠ dE := hnew h224 wdE
      have n244 : nr0 ≠ dX := hnew h224 wdX
      have n245 : nr0 ≠ dY := hnew h224 wdY
      have n246 : nr0 ≠ dG := hnew h224 wdG
      have n247 : nw1 ≠ mo := hnew h12 w24
      have h248 : f25 nw1 = some (.inl (cI G, 6, .inl (fun j => if j < 6 then (-1) else (fun _ => 0) j))) := by rw [ef25, va_up_ne _ _ (hnew h12 w24)]; exact h12
      have n249 : nw1 ≠ dW := hnew h248 wdW
      have n250 : nw1 ≠ dA := hnew h248 wdA
      have n251 : nw1 ≠ dQ := hnew h248 wdQ
      have n252 : nw1 ≠ dM := hnew h248 wdM
      have n253 : nw1 ≠ dS := hnew h248 wdS
      have n254 : nw1 ≠ dL := hnew h248 wdL
      have n255 : nw1 ≠ dR := hnew h248 wdR
      have n256 : nw1 ≠ dT := hnew h248 wdT
      have n257 : nw1 ≠ dZ := hnew h248 wdZ
      have n258 : nw1 ≠ dI := hnew h248 wdI
      have n259 : nw1 ≠ dH := hnew h248 wdH
      have n260 : nw1 ≠ dN := hnew h248 wdN
      have n261 : nw1 ≠ dK := hnew h248 wdK
      have n262 : nw1 ≠ dJ := hnew h248 wdJ
      have n263 : nw1 ≠ dU := hnew h248 wdU
      have n264 : nw1 ≠ dO := hnew h248 wdO
      have n265 : nw1 ≠ dF := hnew h248 wdF
      have n266 : nw1 ≠ dP := hnew h248 wdP
      have n267 : nw1 ≠ dE := hnew h248 wdE
      have n268 : nw1 ≠ dX := hnew h248 wdX
      have n269 : nw1 ≠ dY := hnew h248 wdY
      have n270 : nw1 ≠ dG := hnew h248 wdG
      have n271 : na1 ≠ mo := hnew h13 w24
      have h272 : f25 na1 = some (.inl (cI G, 6, .inl (fun _ => 0))) := by rw [ef25, va_up_ne _ _ (hnew h13 w24)]; exact h13
      have n273 : na1 ≠ dW := hnew h272 wdW
      have n274 : na1 ≠ dA := hnew h272 wdA
      have n275 : na1 ≠ dQ := hnew h272 wdQ
      have n276 : na1 ≠ dM := hnew h272 wdM
      have n277 : na1 ≠ dS := hnew h272 wdS
      have n278 : na1 ≠ dL := hnew h272 wdL
      have n279 : na1 ≠ dR := hnew h272 wdR
      have n280 : na1 ≠ dT := hnew h272 wdT
      have n281 : na1 ≠ dZ := hnew h272 wdZ
      have n282 : na1 ≠ dI := hnew h272 wdI
      have n283 : na1 ≠ dH := hnew h272 wdH
      have n284 : na1 ≠ dN := hnew h272 wdN
      have n285 : na1 ≠ dK := hnew h272 wdK
      have n286 : na1 ≠ dJ := hnew h272 wdJ
      have n287 : na1 ≠ dU := hnew h272 wdU
      have n288 : na1 ≠ dO := hnew h272 wdO
      have n289 : na1 ≠ dF := hnew h272 wdF
      have n290 : na1 ≠ dP := hnew h272 wdP
      have n291 : na1 ≠ dE := hnew h272 wdE
      have n292 : na1 ≠ dX := hnew h272 wdX
      have n293 : na1 ≠ dY := hnew h272 wdY
      have n294 : na1 ≠ dG := hnew h272 wdG
      have n295 : nq1 ≠ mo := hnew h14 w24
      have h296 : f25 nq1 = some (.inl (cI G, 6, .inl (fun j => if j < 6 then (-1) else (fun _ => 0) j))) := by rw [ef25, va_up_ne _ _ (hnew h14 w24)]; exact h14
      have n297 : nq1 ≠ dW := hnew h296 wdW
      have n298 : nq1 ≠ dA := hnew h296 wdA
      have n299 : nq1 ≠ dQ := hnew h296 wdQ
      have n300 : nq1 ≠ dM := hnew h296 wdM
      have n301 : nq1 ≠ dS := hnew h296 wdS
      have n302 : nq1 ≠ dL := hnew h296 wdL
      have n303 : nq1 ≠ dR := hnew h296 wdR
      have n304 : nq1 ≠ dT := hnew h296 wdT
      have n305 : nq1 ≠ dZ := hnew h296 wdZ
      have n306 : nq1 ≠ dI := hnew h296 wdI
      have n307 : nq1 ≠ dH := hnew h296 wdH
      have n308 : nq1 ≠ dN := hnew h296 wdN
      have n309 : nq1 ≠ dK := hnew h296 wdK
      have n310 : nq1 ≠ dJ := hnew h296 wdJ
      have n311 : nq1 ≠ dU := hnew h296 wdU
      have n312 : nq1 ≠ dO := hnew h296 wdO
      have n313 : nq1 ≠ dF := hnew h296 wdF
      have n314 : nq1 ≠ dP := hnew h296 wdP
      have n315 : nq1 ≠ dE := hnew h296 wdE
      have n316 : nq1 ≠ dX := hnew h296 wdX
      have n317 : nq1 ≠ dY := hnew h296 wdY
      have n318 : nq1 ≠ dG := hnew h296 wdG
      have n319 : nr1 ≠ mo := hnew h15 w24
      have h320 : f25 nr1 = some (.inr (3, [.null, .null, .int 0])) := by rw [ef25, va_up_ne _ _ (hnew h15 w24)]; exact h15
      have n321 : nr1 ≠ dW := hnew h320 wdW
      have n322 : nr1 ≠ dA := hnew h320 wdA
      have n323 : nr1 ≠ dQ := hnew h320 wdQ
      have n324 : nr1 ≠ dM := hnew h320 wdM
      have n325 : nr1 ≠ dS := hnew h320 wdS
      have n326 : nr1 ≠ dL := hnew h320 wdL
      have n327 : nr1 ≠ dR := hnew h320 wdR
      have n328 : nr1 ≠ dT := hnew h320 wdT
      have n329 : nr1 ≠ dZ := hnew h320 wdZ
      have n330 : nr1 ≠ dI := hnew h320 wdI
      have n331 : nr1 ≠ dH := hnew h320 wdH
      have n332 : nr1 ≠ dN := hnew h320 wdN
      have n333 : nr1 ≠ dK := hnew h320 wdK
      have n334 : nr1 ≠ dJ := hnew h320 wdJ
      have n335 : nr1 ≠ dU := hnew h320 wdU
      have n336 : nr1 ≠ dO := hnew h320 wdO
      have n337 : nr1 ≠ dF := hnew h320 wdF
      have n338 : nr1 ≠ dP := hnew h320 wdP
      have n339 : nr1 ≠ dE := hnew h320 wdE
      have n340 : nr1 ≠ dX := hnew h320 wdX
      have n341 : nr1 ≠ dY := hnew h320 wdY
      have n342 : nr1 ≠ dG := hnew h320 wdG
      have n343 : bs ≠ mo := hnew h17 w24
      have h344 : f25 bs = some (.inl (cI G, 61, .inl (fun _ => 0))) := by rw [ef25, va_up_ne _ _ (hnew h17 w24)]; exact h17
      have n345 : bs ≠ dW := hnew h344 wdW
      have n346 : bs ≠ dA := hnew h344 wdA
      have n347 : bs ≠ dQ := hnew h344 wdQ
      have n348 : bs ≠ dM := hnew h344 wdM
      have n349 : bs ≠ dS := hnew h344 wdS
      have n350 : bs ≠ dL := hnew h344 wdL
      have n351 : bs ≠ dR := hnew h344 wdR
      have n352 : bs ≠ dT := hnew h344 wdT
      have n353 : bs ≠ dZ := hnew h344 wdZ
      have n354 : bs ≠ dI := hnew h344 wdI
      have n355 : bs ≠ dH := hnew h344 wdH
      have n356 : bs ≠ dN := hnew h344 wdN
      have n357 : bs ≠ dK := hnew h344 wdK
      have n358 : bs ≠ dJ := hnew h344 wdJ
      have n359 : bs ≠ dU := hnew h344 wdU
      have n360 : bs ≠ dO := hnew h344 wdO
      have n361 : bs ≠ dF := hnew h344 wdF
      have n362 : bs ≠ dP := hnew h344 wdP
      have n363 : bs ≠ dE := hnew h344 wdE
      have n364 : bs ≠ dX := hnew h344 wdX
      have n365 : bs ≠ dY := hnew h344 wdY
      have n366 : bs ≠ dG := hnew h344 wdG
      have n367 : bp ≠ mo := hnew h18 w24
      have h368 : f25 bp = some (.inl (cI G, 240, .inl (fun _ => 0))) := by rw [ef25, va_up_ne _ _ (hnew h18 w24)]; exact h18
      have n369 : bp ≠ dW := hnew h368 wdW
      have n370 : bp ≠ dA := hnew h368 wdA
      have n371 : bp ≠ dQ := hnew h368 wdQ
      have n372 : bp ≠ dM := hnew h368 wdM
      have n373 : bp ≠ dS := hnew h368 wdS
      have n374 : bp ≠ dL := hnew h368 wdL
      have n375 : bp ≠ dR := hnew h368 wdR
      have n376 : bp ≠ dT := hnew h368 wdT
      have n377 : bp ≠ dZ := hnew h368 wdZ
      have n378 : bp ≠ dI := hnew h368 wdI
      have n379 : bp ≠ dH := hnew h368 wdH
      have n380 : bp ≠ dN := hnew h368 wdN
      have n381 : bp ≠ dK := hnew h368 wdK
      have n382 : bp ≠ dJ := hnew h368 wdJ
      have n383 : bp ≠ dU := hnew h368 wdU
      have n384 : bp ≠ dO := hnew h368 wdO
      have n385 : bp ≠ dF := hnew h368 wdF
      have n386 : bp ≠ dP := hnew h368 wdP
      have n387 : bp ≠ dE := hnew h368 wdE
      have n388 : bp ≠ dX := hnew h368 wdX
      have n389 : bp ≠ dY := hnew h368 wdY
      have n390 : bp ≠ dG := hnew h368 wdG
      have n391 : bh ≠ mo := hnew h19 w24
      have h392 : f25 bh = some (.inl (cZ G, 240, .inl (fun _ => 0))) := by rw [ef25, va_up_ne _ _ (hnew h19 w24)]; exact h19
      have n393 : bh ≠ dW := hnew h392 wdW
      have n394 : bh ≠ dA := hnew h392 wdA
      have n395 : bh ≠ dQ := hnew h392 wdQ
      have n396 : bh ≠ dM := hnew h392 wdM
      have n397 : bh ≠ dS := hnew h392 wdS
      have n398 : bh ≠ dL := hnew h392 wdL
      have n399 : bh ≠ dR := hnew h392 wdR
      have n400 : bh ≠ dT := hnew h392 wdT
      have n401 : bh ≠ dZ := hnew h392 wdZ
      have n402 : bh ≠ dI := hnew h392 wdI
      have n403 : bh ≠ dH := hnew h392 wdH
      have n404 : bh ≠ dN := hnew h392 wdN
      have n405 : bh ≠ dK := hnew h392 wdK
      have n406 : bh ≠ dJ := hnew h392 wdJ
      have n407 : bh ≠ dU := hnew h392 wdU
      have n408 : bh ≠ dO := hnew h392 wdO
      have n409 : bh ≠ dF := hnew h392 wdF
      have n410 : bh ≠ dP := hnew h392 wdP
      have n411 : bh ≠ dE := hnew h392 wdE
      have n412 : bh ≠ dX := hnew h392 wdX
      have n413 : bh ≠ dY := hnew h392 wdY
      have n414 : bh ≠ dG := hnew h392 wdG
      have n415 : bf ≠ mo := hnew h20 w24
      have h416 : f25 bf = some (.inl (cI G, 3, .inl (upd (upd (upd (fun _ => 0) (0 : Int32).toNatClampNeg 0) (1 : Int32).toNatClampNeg 1) (2 : Int32).toNatClampNeg 2))) := by rw [ef25, va_up_ne _ _ (hnew h20 w24)]; exact h20
      have n417 : bf ≠ dW := hnew h416 wdW
      have n418 : bf ≠ dA := hnew h416 wdA
      have n419 : bf ≠ dQ := hnew h416 wdQ
      have n420 : bf ≠ dM := hnew h416 wdM
      have n421 : bf ≠ dS := hnew h416 wdS
      have n422 : bf ≠ dL := hnew h416 wdL
      have n423 : bf ≠ dR := hnew h416 wdR
      have n424 : bf ≠ dT := hnew h416 wdT
      have n425 : bf ≠ dZ := hnew h416 wdZ
      have n426 : bf ≠ dI := hnew h416 wdI
      have n427 : bf ≠ dH := hnew h416 wdH
      have n428 : bf ≠ dN := hnew h416 wdN
      have n429 : bf ≠ dK := hnew h416 wdK
      have n430 : bf ≠ dJ := hnew h416 wdJ
      have n431 : bf ≠ dU := hnew h416 wdU
      have n432 : bf ≠ dO := hnew h416 wdO
      have n433 : bf ≠ dF := hnew h416 wdF
      have n434 : bf ≠ dP := hnew h416 wdP
      have n435 : bf ≠ dE := hnew h416 wdE
      have n436 : bf ≠ dX := hnew h416 wdX
      have n437 : bf ≠ dY := hnew h416 wdY
      have n438 : bf ≠ dG := hnew h416 wdG
      have n439 : bl ≠ mo := hnew h21 w24
      have h440 : f25 bl = some (.inl (cI G, 3, .inl (fun j => if j < 3 then (-1) else (fun _ => 0) j))) := by rw [ef25, va_up_ne _ _ (hnew h21 w24)]; exact h21
      have n441 : bl ≠ dW := hnew h440 wdW
      have n442 : bl ≠ dA := hnew h440 wdA
      have n443 : bl ≠ dQ := hnew h440 wdQ
      have n444 : bl ≠ dM := hnew h440 wdM
      have n445 : bl ≠ dS := hnew h440 wdS
      have n446 : bl ≠ dL := hnew h440 wdL
      have n447 : bl ≠ dR := hnew h440 wdR
      have n448 : bl ≠ dT := hnew h440 wdT
      have n449 : bl ≠ dZ := hnew h440 wdZ
      have n450 : bl ≠ dI := hnew h440 wdI
      have n451 : bl ≠ dH := hnew h440 wdH
      have n452 : bl ≠ dN := hnew h440 wdN
      have n453 : bl ≠ dK := hnew h440 wdK
      have n454 : bl ≠ dJ := hnew h440 wdJ
      have n455 : bl ≠ dU := hnew h440 wdU
      have n456 : bl ≠ dO := hnew h440 wdO
      have n457 : bl ≠ dF := hnew h440 wdF
      have n458 : bl ≠ dP := hnew h440 wdP
      have n459 : bl ≠ dE := hnew h440 wdE
      have n460 : bl ≠ dX := hnew h440 wdX
      have n461 : bl ≠ dY := hnew h440 wdY
      have n462 : bl ≠ dG := hnew h440 wdG
      have n463 : bg ≠ mo := hnew h22 w24
      have h464 : f25 bg = some (.inl (cI G, 60, .inl (fun _ => 0))) := by rw [ef25, va_up_ne _ _ (hnew h22 w24)]; exact h22
      have n465 : bg ≠ dW := hnew h464 wdW
      have n466 : bg ≠ dA := hnew h464 wdA
      have n467 : bg ≠ dQ := hnew h464 wdQ
      have n468 : bg ≠ dM := hnew h464 wdM
      have n469 : bg ≠ dS := hnew h464 wdS
      have n470 : bg ≠ dL := hnew h464 wdL
      have n471 : bg ≠ dR := hnew h464 wdR
      have n472 : bg ≠ dT := hnew h464 wdT
      have n473 : bg ≠ dZ := hnew h464 wdZ
      have n474 : bg ≠ dI := hnew h464 wdI
      have n475 : bg ≠ dH := hnew h464 wdH
      have n476 : bg ≠ dN := hnew h464 wdN
      have n477 : bg ≠ dK := hnew h464 wdK
      have n478 : bg ≠ dJ := hnew h464 wdJ
      have n479 : bg ≠ dU := hnew h464 wdU
      have n480 : bg ≠ dO := hnew h464 wdO
      have n481 : bg ≠ dF := hnew h464 wdF
      have n482 : bg ≠ dP := hnew h464 wdP
      have n483 : bg ≠ dE := hnew h464 wdE
      have n484 : bg ≠ dX := hnew h464 wdX
      have n485 : bg ≠ dY := hnew h464 wdY
      have n486 : bg ≠ dG := hnew h464 wdG
      have h487 : f27 xo = some (.inr (4, [.ref ez, .ref eo, .ref bu])) := k51 _ _ h56 (ninc n55 nin0)
      have n488 : xo ≠ out := hnew h487 w52
      have h489 : f27 ez = some (.inr (1, [.ref nw0, .ref na0, .ref nq0, .ref nr0, .int 1, .int 0, .int 0, .int 0, .int (-1), .int 0, .int 0])) := k51 _ _ h80 (ninc n79 nin0)
      have n490 : ez ≠ out := hnew h489 w52
      have h491 : f27 eo = some (.inr (1, [.ref nw1, .ref na1, .ref nq1, .ref nr1, .int 2, .int 0, .int 0, .int 0, .int (-1), .int 0, .int 0])) := k51 _ _ h104 (ninc n103 nin0)
      have n492 : eo ≠ out := hnew h491 w52
      have h493 : f27 bu = some (.inr (0, [.ref bs, .ref bp, .ref bh, .ref bf, .ref bl, .ref bg, .int 0, .int 0, .int 0])) := k51 _ _ h128 (ninc n127 nin0)
      have n494 : bu ≠ out := hnew h493 w52
      have h495 : f27 nw0 = some (.inl (cI G, 6, .inl (fun j => if j < 6 then (-1) else (fun _ => 0) j))) := k51 _ _ h152 (ninc n151 nin0)
      have n496 : nw0 ≠ out := hnew h495 w52
      have h497 : f27 na0 = some (.inl (cI G, 6, .inl (fun _ => 0))) := k51 _ _ h176 (ninc n175 nin0)
      have n498 : na0 ≠ out := hnew h497 w52
      have h499 : f27 nq0 = some (.inl (cI G, 6, .inl (fun j => if j < 6 then (-1) else (fun _ => 0) j))) := k51 _ _ h200 (ninc n199 nin0)
      have n500 : nq0 ≠ out := hnew h499 w52
      have h501 : f27 nr0 = some (.inr (3, [.null, .null, .int 0])) := k51 _ _ h224 (ninc n223 nin0)
      have n502 : nr0 ≠ out := hnew h501 w52
      have h503 : f27 nw1 = some (.inl (cI G, 6, .inl (fun j => if j < 6 then (-1) else (fun _ => 0) j))) := k51 _ _ h248 (ninc n247 nin0)
      have n504 : nw1 ≠ out := hnew h503 w52
      have h505 : f27 na1 = some (.inl (cI G, 6, .inl (fun _ => 0))) := k51 _ _ h272 (ninc n271 nin0)
      have n506 : na1 ≠ out := hnew h505 w52
      have h507 : f27 nq1 = some (.inl (cI G, 6, .inl (fun j => if j < 6 then (-1) else (fun _ => 0) j))) := k51 _ _ h296 (ninc n295 nin0)
      have n508 : nq1 ≠ out := hnew h507 w52
      have h509 : f27 nr1 = some (.inr (3, [.null, .null, .int 0])) := k51 _ _ h320 (ninc n319 nin0)
      have n510 : nr1 ≠ out := hnew h509 w52
      have h511 : f27 bs = some (.inl (cI G, 61, .inl (fun _ => 0))) := k51 _ _ h344 (ninc n343 nin0)
      have n512 : bs ≠ out := hnew h511 w52
      have h513 : f27 bp = some (.inl (cI G, 240, .inl (fun _ => 0))) := k51 _ _ h368 (ninc n367 nin0)
      have n514 : bp ≠ out := hnew h513 w52
      have h515 : f27 bh = some (.inl (cZ G, 240, .inl (fun _ => 0))) := k51 _ _ h392 (ninc n391 nin0)
      have n516 : bh ≠ out := hnew h515 w52
      have h517 : f27 bf = some (.inl (cI G, 3, .inl (upd (upd (upd (fun _ => 0) (0 : Int32).toNatClampNeg 0) (1 : Int32).toNatClampNeg 1) (2 : Int32).toNatClampNeg 2))) := k51 _ _ h416 (ninc n415 nin0)
      have n518 : bf ≠ out := hnew h517 w52
      have h519 : f27 bl = some (.inl (cI G, 3, .inl (fun j => if j < 3 then (-1) else (fun _ => 0) j))) := k51 _ _ h440 (ninc n439 nin0)
      have n520 : bl ≠ out := hnew h519 w52
      have h521 : f27 bg = some (.inl (cI G, 60, .inl (fun _ => 0))) := k51 _ _ h464 (ninc n463 nin0)
      have n522 : bg ≠ out := hnew h521 w52
      have n523 : mo ≠ out := hnew h28 w52
      have n524 : dW ≠ out := hnew h29 w52
      have n525 : dA ≠ out := hnew h30 w52
      have n526 : dQ ≠ out := hnew h31 w52
      have n527 : dM ≠ out := hnew h32 w52
      have n528 : dS ≠ out := hnew h33 w52
      have n529 : dL ≠ out := hnew h34 w52
      have n530 : dR ≠ out := hnew h35 w52
      have n531 : dT ≠ out := hnew h36 w52
      have n532 : dZ ≠ out := hnew h37 w52
      have n533 : dI ≠ out := hnew h38 w52
      have n534 : dH ≠ out := hnew h39 w52
      have n535 : dN ≠ out := hnew h40 w52
      have n536 : dK ≠ out := hnew h41 w52
      have n537 : dJ ≠ out := hnew h42 w52
      have n538 : dU ≠ out := hnew h43 w52
      have n539 : dO ≠ out := hnew h44 w52
      have n540 : dF ≠ out := hnew h45 w52
      have n541 : dP ≠ out := hnew h46 w52
      have n542 : dE ≠ out := hnew h47 w52
      have n543 : dX ≠ out := hnew h48 w52
      have n544 : dY ≠ out := hnew h49 w52
      have n545 : dG ≠ out := hnew h50 w52
      have hdis : ∀ p, p ∈ [xo, ez, eo, bu, nw0, na0, nq0, nr0, nw1, na1, nq1, nr1, bs, bp, bh, bf, bl, bg] → p ∉ [mo, dW, dA, dQ, dM, dS, dL, dR, dT, dZ, dI, dH, dN, dK, dJ, dU, dO, dF, dP, dE, dX, dY, dG] := by
        intro p hp
        simp only [List.mem_cons, List.not_mem_nil, or_false] at hp
        rcases hp with hp | hp | hp | hp | hp | hp | hp | hp | hp | hp | hp | hp | hp | hp | hp | hp | hp | hp
        · rw [hp]; exact (ninc n55 (ninc n57 (ninc n58 (ninc n59 (ninc n60 (ninc n61 (ninc n62 (ninc n63 (ninc n64 (ninc n65 (ninc n66 (ninc n67 (ninc n68 (ninc n69 (ninc n70 (ninc n71 (ninc n72 (ninc n73 (ninc n74 (ninc n75 (ninc n76 (ninc n77 (ninc n78 nin0)))))))))))))))))))))))
        · rw [hp]; exact (ninc n79 (ninc n81 (ninc n82 (ninc n83 (ninc n84 (ninc n85 (ninc n86 (ninc n87 (ninc n88 (ninc n89 (ninc n90 (ninc n91 (ninc n92 (ninc n93 (ninc n94 (ninc n95 (ninc n96 (ninc n97 (ninc n98 (ninc n99 (ninc n100 (ninc n101 (ninc n102 nin0)))))))))))))))))))))))
        · rw [hp]; exact (ninc n103 (ninc n105 (ninc n106 (ninc n107 (ninc n108 (ninc n109 (ninc n110 (ninc n111 (ninc n112 (ninc n113 (ninc n114 (ninc n115 (ninc n116 (ninc n117 (ninc n118 (ninc n119 (ninc n120 (ninc n121 (ninc n122 (ninc n123 (ninc n124 (ninc n125 (ninc n126 nin0)))))))))))))))))))))))
        · rw [hp]; exact (ninc n127 (ninc n129 (ninc n130 (ninc n131 (ninc n132 (ninc n133 (ninc n134 (ninc n135 (ninc n136 (ninc n137 (ninc n138 (ninc n139 (ninc n140 (ninc n141 (ninc n142 (ninc n143 (ninc n144 (ninc n145 (ninc n146 (ninc n147 (ninc n148 (ninc n149 (ninc n150 nin0)))))))))))))))))))))))
        · rw [hp]; exact (ninc n151 (ninc n153 (ninc n154 (ninc n155 (ninc n156 (ninc n157 (ninc n158 (ninc n159 (ninc n160 (ninc n161 (ninc n162 (ninc n163 (ninc n164 (ninc n165 (ninc n166 (ninc n167 (ninc n168 (ninc n169 (ninc n170 (ninc n171 (ninc n172 (ninc n173 (ninc n174 nin0)))))))))))))))))))))))
        · rw [hp]; exact (ninc n175 (ninc n177 (ninc n178 (ninc n179 (ninc n180 (ninc n181 (ninc n182 (ninc n183 (ninc n184 (ninc n185 (ninc n186 (ninc n187 (ninc n188 (ninc n189 (ninc n190 (ninc n191 (ninc n192 (ninc n193 (ninc n194 (ninc n195 (ninc n196 (ninc n197 (ninc n198 nin0)))))))))))))))))))))))
        · rw [hp]; exact (ninc n199 (ninc n201 (ninc n202 (ninc n203 (ninc n204 (ninc n205 (ninc n206 (ninc n207 (ninc n208 (ninc n209 (ninc n210 (ninc n211 (ninc n212 (ninc n213 (ninc n214 (ninc n215 (ninc n216 (ninc n217 (ninc n218 (ninc n219 (ninc n220 (ninc n221 (ninc n222 nin0)))))))))))))))))))))))
        · rw [hp]; exact (ninc n223 (ninc n225 (ninc n226 (ninc n227 (ninc n228 (ninc n229 (ninc n230 (ninc n231 (ninc n232 (ninc n233 (ninc n234 (ninc n235 (ninc n236 (ninc n237 (ninc n238 (ninc n239 (ninc n240 (ninc n241 (ninc n242 (ninc n243 (ninc n244 (ninc n245 (ninc n246 nin0)))))))))))))))))))))))
        · rw [hp]; exact (ninc n247 (ninc n249 (ninc n250 (ninc n251 (ninc n252 (ninc n253 (ninc n254 (ninc n255 (ninc n256 (ninc n257 (ninc n258 (ninc n259 (ninc n260 (ninc n261 (ninc n262 (ninc n263 (ninc n264 (ninc n265 (ninc n266 (ninc n267 (ninc n268 (ninc n269 (ninc n270 nin0)))))))))))))))))))))))
        · rw [hp]; exact (ninc n271 (ninc n273 (ninc n274 (ninc n275 (ninc n276 (ninc n277 (ninc n278 (ninc n279 (ninc n280 (ninc n281 (ninc n282 (ninc n283 (ninc n284 (ninc n285 (ninc n286 (ninc n287 (ninc n288 (ninc n289 (ninc n290 (ninc n291 (ninc n292 (ninc n293 (ninc n294 nin0)))))))))))))))))))))))
        · rw [hp]; exact (ninc n295 (ninc n297 (ninc n298 (ninc n299 (ninc n300 (ninc n301 (ninc n302 (ninc n303 (ninc n304 (ninc n305 (ninc n306 (ninc n307 (ninc n308 (ninc n309 (ninc n310 (ninc n311 (ninc n312 (ninc n313 (ninc n314 (ninc n315 (ninc n316 (ninc n317 (ninc n318 nin0)))))))))))))))))))))))
        · rw [hp]; exact (ninc n319 (ninc n321 (ninc n322 (ninc n323 (ninc n324 (ninc n325 (ninc n326 (ninc n327 (ninc n328 (ninc n329 (ninc n330 (ninc n331 (ninc n332 (ninc n333 (ninc n334 (ninc n335 (ninc n336 (ninc n337 (ninc n338 (ninc n339 (ninc n340 (ninc n341 (ninc n342 nin0)))))))))))))))))))))))
        · rw [hp]; exact (ninc n343 (ninc n345 (ninc n346 (ninc n347 (ninc n348 (ninc n349 (ninc n350 (ninc n351 (ninc n352 (ninc n353 (ninc n354 (ninc n355 (ninc n356 (ninc n357 (ninc n358 (ninc n359 (ninc n360 (ninc n361 (ninc n362 (ninc n363 (ninc n364 (ninc n365 (ninc n366 nin0)))))))))))))))))))))))
        · rw [hp]; exact (ninc n367 (ninc n369 (ninc n370 (ninc n371 (ninc n372 (ninc n373 (ninc n374 (ninc n375 (ninc n376 (ninc n377 (ninc n378 (ninc n379 (ninc n380 (ninc n381 (ninc n382 (ninc n383 (ninc n384 (ninc n385 (ninc n386 (ninc n387 (ninc n388 (ninc n389 (ninc n390 nin0)))))))))))))))))))))))
        · rw [hp]; exact (ninc n391 (ninc n393 (ninc n394 (ninc n395 (ninc n396 (ninc n397 (ninc n398 (ninc n399 (ninc n400 (ninc n401 (ninc n402 (ninc n403 (ninc n404 (ninc n405 (ninc n406 (ninc n407 (ninc n408 (ninc n409 (ninc n410 (ninc n411 (ninc n412 (ninc n413 (ninc n414 nin0)))))))))))))))))))))))
        · rw [hp]; exact (ninc n415 (ninc n417 (ninc n418 (ninc n419 (ninc n420 (ninc n421 (ninc n422 (ninc n423 (ninc n424 (ninc n425 (ninc n426 (ninc n427 (ninc n428 (ninc n429 (ninc n430 (ninc n431 (ninc n432 (ninc n433 (ninc n434 (ninc n435 (ninc n436 (ninc n437 (ninc n438 nin0)))))))))))))))))))))))
        · rw [hp]; exact (ninc n439 (ninc n441 (ninc n442 (ninc n443 (ninc n444 (ninc n445 (ninc n446 (ninc n447 (ninc n448 (ninc n449 (ninc n450 (ninc n451 (ninc n452 (ninc n453 (ninc n454 (ninc n455 (ninc n456 (ninc n457 (ninc n458 (ninc n459 (ninc n460 (ninc n461 (ninc n462 nin0)))))))))))))))))))))))
        · rw [hp]; exact (ninc n463 (ninc n465 (ninc n466 (ninc n467 (ninc n468 (ninc n469 (ninc n470 (ninc n471 (ninc n472 (ninc n473 (ninc n474 (ninc n475 (ninc n476 (ninc n477 (ninc n478 (ninc n479 (ninc n480 (ninc n481 (ninc n482 (ninc n483 (ninc n484 (ninc n485 (ninc n486 nin0)))))))))))))))))))))))
      have hdos : ∀ p, p ∈ [mo, dW, dA, dQ, dM, dS, dL, dR, dT, dZ, dI, dH, dN, dK, dJ, dU, dO, dF, dP, dE, dX, dY, dG] → p ∉ [out, xo, ez, eo, bu, nw0, na0, nq0, nr0, nw1, na1, nq1, nr1, bs, bp, bh, bf, bl, bg] := by
        intro p hp
        simp only [List.mem_cons, List.not_mem_nil, or_false] at hp
        rcases hp with hp | hp | hp | hp | hp | hp | hp | hp | hp | hp | hp | hp | hp | hp | hp | hp | hp | hp | hp | hp | hp | hp | hp
        · rw [hp]; exact (ninc n523 (ninc (Ne.symm n55) (ninc (Ne.symm n79) (ninc (Ne.symm n103) (ninc (Ne.symm n127) (ninc (Ne.symm n151) (ninc (Ne.symm n175) (ninc (Ne.symm n199) (ninc (Ne.symm n223) (ninc (Ne.symm n247) (ninc (Ne.symm n271) (ninc (Ne.symm n295) (ninc (Ne.symm n319) (ninc (Ne.symm n343) (ninc (Ne.symm n367) (ninc (Ne.symm n391) (ninc (Ne.symm n415) (ninc (Ne.symm n439) (ninc (Ne.symm n463) nin0)))))))))))))))))))
        · rw [hp]; exact (ninc n524 (ninc (Ne.symm n57) (ninc (Ne.symm n81) (ninc (Ne.symm n105) (ninc (Ne.symm n129) (ninc (Ne.symm n153) (ninc (Ne.symm n177) (ninc (Ne.symm n201) (ninc (Ne.symm n225) (ninc (Ne.symm n249) (ninc (Ne.symm n273) (ninc (Ne.symm n297) (ninc (Ne.symm n321) (ninc (Ne.symm n345) (ninc (Ne.symm n369) (ninc (Ne.symm n393) (ninc (Ne.symm n417) (ninc (Ne.symm n441) (ninc (Ne.symm n465) nin0)))))))))))))))))))
        · rw [hp]; exact (ninc n525 (ninc (Ne.symm n58) (ninc (Ne.symm n82) (ninc (Ne.symm n106) (ninc (Ne.symm n130) (ninc (Ne.symm n154) (ninc (Ne.symm n178) (ninc (Ne.symm n202) (ninc (Ne.symm n226) (ninc (Ne.symm n250) (ninc (Ne.symm n274) (ninc (Ne.symm n298) (ninc (Ne.symm n322) (ninc (Ne.symm n346) (ninc (Ne.symm n370) (ninc (Ne.symm n394) (ninc (Ne.symm n418) (ninc (Ne.symm n442) (ninc (Ne.symm n466) nin0)))))))))))))))))))
        · rw [hp]; exact (ninc n526 (ninc (Ne.symm n59) (ninc (Ne.symm n83) (ninc (Ne.symm n107) (ninc (Ne.symm n131) (ninc (Ne.symm n155) (ninc (Ne.symm n179) (ninc (Ne.symm n203) (ninc (Ne.symm n227) (ninc (Ne.symm n251) (ninc (Ne.symm n275) (ninc (Ne.symm n299) (ninc (Ne.symm n323) (ninc (Ne.symm n347) (ninc (Ne.symm n371) (ninc (Ne.symm n395) (ninc (Ne.symm n419) (ninc (Ne.symm n443) (ninc (Ne.symm n467) nin0)))))))))))))))))))
        · rw [hp]; exact (ninc n527 (ninc (Ne.symm n60) (ninc (Ne.symm n84) (ninc (Ne.symm n108) (ninc (Ne.symm n132) (ninc (Ne.symm n156) (ninc (Ne.symm n180) (ninc (Ne.symm n204) (ninc (Ne.symm n228) (ninc (Ne.symm n252) (ninc (Ne.symm n276) (ninc (Ne.symm n300) (ninc (Ne.symm n324) (ninc (Ne.symm n348) (ninc (Ne.symm n372) (ninc (Ne.symm n396) (ninc (Ne.symm n420) (ninc (Ne.symm n444) (ninc (Ne.symm n468) nin0)))))))))))))))))))
        · rw [hp]; exact (ninc n528 (ninc (Ne.symm n61) (ninc (Ne.symm n85) (ninc (Ne.symm n109) (ninc (Ne.symm n133) (ninc (Ne.symm n157) (ninc (Ne.symm n181) (ninc (Ne.symm n205) (ninc (Ne.symm n229) (ninc (Ne.symm n253) (ninc (Ne.symm n277) (ninc (Ne.symm n301) (ninc (Ne.symm n325) (ninc (Ne.symm n349) (ninc (Ne.symm n373) (ninc (Ne.symm n397) (ninc (Ne.symm n421) (ninc (Ne.symm n445) (ninc (Ne.symm n469) nin0)))))))))))))))))))
        · rw [hp]; exact (ninc n529 (ninc (Ne.symm n62) (ninc (Ne.symm n86) (ninc (Ne.symm n110) (ninc (Ne.symm n134) (ninc (Ne.symm n158) (ninc (Ne.symm n182) (ninc (Ne.symm n206) (ninc (Ne.symm n230) (ninc (Ne.symm n254) (ninc (Ne.symm n278) (ninc (Ne.symm n302) (ninc (Ne.symm n326) (ninc (Ne.symm n350) (ninc (Ne.symm n374) (ninc (Ne.symm n398) (ninc (Ne.symm n422) (ninc (Ne.symm n446) (ninc (Ne.symm n470) nin0)))))))))))))))))))
        · rw [hp]; exact (ninc n530 (ninc (Ne.symm n63) (ninc (Ne.symm n87) (ninc (Ne.symm n111) (ninc (Ne.symm n135) (ninc (Ne.symm n159) (ninc (Ne.symm n183) (ninc (Ne.symm n207) (ninc (Ne.symm n231) (ninc (Ne.symm n255) (ninc (Ne.symm n279) (ninc (Ne.symm n303) (ninc (Ne.symm n327) (ninc (Ne.symm n351) (ninc (Ne.symm n375) (ninc (Ne.symm n399) (ninc (Ne.symm n423) (ninc (Ne.symm n447) (ninc (Ne.symm n471) nin0)))))))))))))))))))
        · rw [hp]; exact (ninc n531 (ninc (Ne.symm n64) (ninc (Ne.symm n88) (ninc (Ne.symm n112) (ninc (Ne.symm n136) (ninc (Ne.symm n160) (ninc (Ne.symm n184) (ninc (Ne.symm n208) (ninc (Ne.symm n232) (ninc (Ne.symm n256) (ninc (Ne.symm n280) (ninc (Ne.symm n304) (ninc (Ne.symm n328) (ninc (Ne.symm n352) (ninc (Ne.symm n376) (ninc (Ne.symm n400) (ninc (Ne.symm n424) (ninc (Ne.symm n448) (ninc (Ne.symm n472) nin0)))))))))))))))))))
        · rw [hp]; exact (ninc n532 (ninc (Ne.symm n65) (ninc (Ne.symm n89) (ninc (Ne.symm n113) (ninc (Ne.symm n137) (ninc (Ne.symm n161) (ninc (Ne.symm n185) (ninc (Ne.symm n209) (ninc (Ne.symm n233) (ninc (Ne.symm n257) (ninc (Ne.symm n281) (ninc (Ne.symm n305) (ninc (Ne.symm n329) (ninc (Ne.symm n353) (ninc (Ne.symm n377) (ninc (Ne.symm n401) (ninc (Ne.symm n425) (ninc (Ne.symm n449) (ninc (Ne.symm n473) nin0)))))))))))))))))))
        · rw [hp]; exact (ninc n533 (ninc (Ne.symm n66) (ninc (Ne.symm n90) (ninc (Ne.symm n114) (ninc (Ne.symm n138) (ninc (Ne.symm n162) (ninc (Ne.symm n186) (ninc (Ne.symm n210) (ninc (Ne.symm n234) (ninc (Ne.symm n258) (ninc (Ne.symm n282) (ninc (Ne.symm n306) (ninc (Ne.symm n330) (ninc (Ne.symm n354) (ninc (Ne.symm n378) (ninc (Ne.symm n402) (ninc (Ne.symm n426) (ninc (Ne.symm n450) (ninc (Ne.symm n474) nin0)))))))))))))))))))
        · rw [hp]; exact (ninc n534 (ninc (Ne.symm n67) (ninc (Ne.symm n91) (ninc (Ne.symm n115) (ninc (Ne.symm n139) (ninc (Ne.symm n163) (ninc (Ne.symm n187) (ninc (Ne.symm n211) (ninc (Ne.symm n235) (ninc (Ne.symm n259) (ninc (Ne.symm n283) (ninc (Ne.symm n307) (ninc (Ne.symm n331) (ninc (Ne.symm n355) (ninc (Ne.symm n379) (ninc (Ne.symm n403) (ninc (Ne.symm n427) (ninc (Ne.symm n451) (ninc (Ne.symm n475) nin0)))))))))))))))))))
        · rw [hp]; exact (ninc n535 (ninc (Ne.symm n68) (ninc (Ne.symm n92) (ninc (Ne.symm n116) (ninc (Ne.symm n140) (ninc (Ne.symm n164) (ninc (Ne.symm n188) (ninc (Ne.symm n212) (ninc (Ne.symm n236) (ninc (Ne.symm n260) (ninc (Ne.symm n284) (ninc (Ne.symm n308) (ninc (Ne.symm n332) (ninc (Ne.symm n356) (ninc (Ne.symm n380) (ninc (Ne.symm n404) (ninc (Ne.symm n428) (ninc (Ne.symm n452) (ninc (Ne.symm n476) nin0)))))))))))))))))))
        · rw [hp]; exact (ninc n536 (ninc (Ne.symm n69) (ninc (Ne.symm n93) (ninc (Ne.symm n117) (ninc (Ne.symm n141) (ninc (Ne.symm n165) (ninc (Ne.symm n189) (ninc (Ne.symm n213) (ninc (Ne.symm n237) (ninc (Ne.symm n261) (ninc (Ne.symm n285) (ninc (Ne.symm n309) (ninc (Ne.symm n333) (ninc (Ne.symm n357) (ninc (Ne.symm n381) (ninc (Ne.symm n405) (ninc (Ne.symm n429) (ninc (Ne.symm n453) (ninc (Ne.symm n477) nin0)))))))))))))))))))
        · rw [hp]; exact (ninc n537 (ninc (Ne.symm n70) (ninc (Ne.symm n94) (ninc (Ne.symm n118) (ninc (Ne.symm n142) (ninc (Ne.symm n166) (ninc (Ne.symm n190) (ninc (Ne.symm n214) (ninc (Ne.symm n238) (ninc (Ne.symm n262) (ninc (Ne.symm n286) (ninc (Ne.symm n310) (ninc (Ne.symm n334) (ninc (Ne.symm n358) (ninc (Ne.symm n382) (ninc (Ne.symm n406) (ninc (Ne.symm n430) (ninc (Ne.symm n454) (ninc (Ne.symm n478) nin0)))))))))))))))))))
        · rw [hp]; exact (ninc n538 (ninc (Ne.symm n71) (ninc (Ne.symm n95) (ninc (Ne.symm n119) (ninc (Ne.symm n143) (ninc (Ne.symm n167) (ninc (Ne.symm n191) (ninc (Ne.symm n215) (ninc (Ne.symm n239) (ninc (Ne.symm n263) (ninc (Ne.symm n287) (ninc (Ne.symm n311) (ninc (Ne.symm n335) (ninc (Ne.symm n359) (ninc (Ne.symm n383) (ninc (Ne.symm n407) (ninc (Ne.symm n431) (ninc (Ne.symm n455) (ninc (Ne.symm n479) nin0)))))))))))))))))))
        · rw [hp]; exact (ninc n539 (ninc (Ne.symm n72) (ninc (Ne.symm n96) (ninc (Ne.symm n120) (ninc (Ne.symm n144) (ninc (Ne.symm n168) (ninc (Ne.symm n192) (ninc (Ne.symm n216) (ninc (Ne.symm n240) (ninc (Ne.symm n264) (ninc (Ne.symm n288) (ninc (Ne.symm n312) (ninc (Ne.symm n336) (ninc (Ne.symm n360) (ninc (Ne.symm n384) (ninc (Ne.symm n408) (ninc (Ne.symm n432) (ninc (Ne.symm n456) (ninc (Ne.symm n480) nin0)))))))))))))))))))
        · rw [hp]; exact (ninc n540 (ninc (Ne.symm n73) (ninc (Ne.symm n97) (ninc (Ne.symm n121) (ninc (Ne.symm n145) (ninc (Ne.symm n169) (ninc (Ne.symm n193) (ninc (Ne.symm n217) (ninc (Ne.symm n241) (ninc (Ne.symm n265) (ninc (Ne.symm n289) (ninc (Ne.symm n313) (ninc (Ne.symm n337) (ninc (Ne.symm n361) (ninc (Ne.symm n385) (ninc (Ne.symm n409) (ninc (Ne.symm n433) (ninc (Ne.symm n457) (ninc (Ne.symm n481) nin0)))))))))))))))))))
        · rw [hp]; exact (ninc n541 (ninc (Ne.symm n74) (ninc (Ne.symm n98) (ninc (Ne.symm n122) (ninc (Ne.symm n146) (ninc (Ne.symm n170) (ninc (Ne.symm n194) (ninc (Ne.symm n218) (ninc (Ne.symm n242) (ninc (Ne.symm n266) (ninc (Ne.symm n290) (ninc (Ne.symm n314) (ninc (Ne.symm n338) (ninc (Ne.symm n362) (ninc (Ne.symm n386) (ninc (Ne.symm n410) (ninc (Ne.symm n434) (ninc (Ne.symm n458) (ninc (Ne.symm n482) nin0)))))))))))))))))))
        · rw [hp]; exact (ninc n542 (ninc (Ne.symm n75) (ninc (Ne.symm n99) (ninc (Ne.symm n123) (ninc (Ne.symm n147) (ninc (Ne.symm n171) (ninc (Ne.symm n195) (ninc (Ne.symm n219) (ninc (Ne.symm n243) (ninc (Ne.symm n267) (ninc (Ne.symm n291) (ninc (Ne.symm n315) (ninc (Ne.symm n339) (ninc (Ne.symm n363) (ninc (Ne.symm n387) (ninc (Ne.symm n411) (ninc (Ne.symm n435) (ninc (Ne.symm n459) (ninc (Ne.symm n483) nin0)))))))))))))))))))
        · rw [hp]; exact (ninc n543 (ninc (Ne.symm n76) (ninc (Ne.symm n100) (ninc (Ne.symm n124) (ninc (Ne.symm n148) (ninc (Ne.symm n172) (ninc (Ne.symm n196) (ninc (Ne.symm n220) (ninc (Ne.symm n244) (ninc (Ne.symm n268) (ninc (Ne.symm n292) (ninc (Ne.symm n316) (ninc (Ne.symm n340) (ninc (Ne.symm n364) (ninc (Ne.symm n388) (ninc (Ne.symm n412) (ninc (Ne.symm n436) (ninc (Ne.symm n460) (ninc (Ne.symm n484) nin0)))))))))))))))))))
        · rw [hp]; exact (ninc n544 (ninc (Ne.symm n77) (ninc (Ne.symm n101) (ninc (Ne.symm n125) (ninc (Ne.symm n149) (ninc (Ne.symm n173) (ninc (Ne.symm n197) (ninc (Ne.symm n221) (ninc (Ne.symm n245) (ninc (Ne.symm n269) (ninc (Ne.symm n293) (ninc (Ne.symm n317) (ninc (Ne.symm n341) (ninc (Ne.symm n365) (ninc (Ne.symm n389) (ninc (Ne.symm n413) (ninc (Ne.symm n437) (ninc (Ne.symm n461) (ninc (Ne.symm n485) nin0)))))))))))))))))))
        · rw [hp]; exact (ninc n545 (ninc (Ne.symm n78) (ninc (Ne.symm n102) (ninc (Ne.symm n126) (ninc (Ne.symm n150) (ninc (Ne.symm n174) (ninc (Ne.symm n198) (ninc (Ne.symm n222) (ninc (Ne.symm n246) (ninc (Ne.symm n270) (ninc (Ne.symm n294) (ninc (Ne.symm n318) (ninc (Ne.symm n342) (ninc (Ne.symm n366) (ninc (Ne.symm n390) (ninc (Ne.symm n414) (ninc (Ne.symm n438) (ninc (Ne.symm n462) (ninc (Ne.symm n486) nin0)))))))))))))))))))
      have hno : out ∉ [xo, ez, eo, bu, nw0, na0, nq0, nr0, nw1, na1, nq1, nr1, bs, bp, bh, bf, bl, bg] := (ninc (Ne.symm n488) (ninc (Ne.symm n490) (ninc (Ne.symm n492) (ninc (Ne.symm n494) (ninc (Ne.symm n496) (ninc (Ne.symm n498) (ninc (Ne.symm n500) (ninc (Ne.symm n502) (ninc (Ne.symm n504) (ninc (Ne.symm n506) (ninc (Ne.symm n508) (ninc (Ne.symm n510) (ninc (Ne.symm n512) (ninc (Ne.symm n514) (ninc (Ne.symm n516) (ninc (Ne.symm n518) (ninc (Ne.symm n520) (ninc (Ne.symm n522) nin0))))))))))))))))))
      have hno2 : out ∉ [mo, dW, dA, dQ, dM, dS, dL, dR, dT, dZ, dI, dH, dN, dK, dJ, dU, dO, dF, dP, dE, dX, dY, dG] := (ninc (Ne.symm n523) (ninc (Ne.symm n524) (ninc (Ne.symm n525) (ninc (Ne.symm n526) (ninc (Ne.symm n527) (ninc (Ne.symm n528) (ninc (Ne.symm n529) (ninc (Ne.symm n530) (ninc (Ne.symm n531) (ninc (Ne.symm n532) (ninc (Ne.symm n533) (ninc (Ne.symm n534) (ninc (Ne.symm n535) (ninc (Ne.symm n536) (ninc (Ne.symm n537) (ninc (Ne.symm n538) (ninc (Ne.symm n539) (ninc (Ne.symm n540) (ninc (Ne.symm n541) (ninc (Ne.symm n542) (ninc (Ne.symm n543) (ninc (Ne.symm n544) (ninc (Ne.symm n545) nin0)))))))))))))))))))))))
      have hnf : ∀ a k, f53 a ≠ some (.inr (2, k)) := fun a9 k9 h9 => hf0 a9 k9 (((show NF f f2 from (by rw [ef2]; exact NF.up (Nat.ne_of_beq_eq_false rfl))).tr (znf4.tr ((show NF f4 f25 from (by rw [ef25]; exact NF.up (Nat.ne_of_beq_eq_false rfl))).tr (znf5.tr (show NF f27 f53 from (by rw [ef53]; exact NF.up (Nat.ne_of_beq_eq_false rfl))))))) a9 k9 h9)
      have h546 : f53 xo = some (.inr (4, [.ref ez, .ref eo, .ref bu])) := by rw [ef53, va_up_ne _ _ (hnew h487 w52)]; exact h487
      have h547 : f53 ez = some (.inr (1, [.ref nw0, .ref na0, .ref nq0, .ref nr0, .int 1, .int 0, .int 0, .int 0, .int (-1), .int 0, .int 0])) := by rw [ef53, va_up_ne _ _ (hnew h489 w52)]; exact h489
      have h548 : f53 nq0 = some (.inl (cI G, 6, .inl (fun j => if j < 6 then (-1) else (fun _ => 0) j))) := by rw [ef53, va_up_ne _ _ (hnew h499 w52)]; exact h499
      have h549 : f53 nr0 = some (.inr (3, [.null, .null, .int 0])) := by rw [ef53, va_up_ne _ _ (hnew h501 w52)]; exact h501
      have h550 : f53 eo = some (.inr (1, [.ref nw1, .ref na1, .ref nq1, .ref nr1, .int 2, .int 0, .int 0, .int 0, .int (-1), .int 0, .int 0])) := by rw [ef53, va_up_ne _ _ (hnew h491 w52)]; exact h491
      have h551 : f53 nq1 = some (.inl (cI G, 6, .inl (fun j => if j < 6 then (-1) else (fun _ => 0) j))) := by rw [ef53, va_up_ne _ _ (hnew h507 w52)]; exact h507
      have h552 : f53 nr1 = some (.inr (3, [.null, .null, .int 0])) := by rw [ef53, va_up_ne _ _ (hnew h509 w52)]; exact h509
      have h553 : f53 nw0 = some (.inl (cI G, 6, .inl (fun j => if j < 6 then (-1) else (fun _ => 0) j))) := by rw [ef53, va_up_ne _ _ (hnew h495 w52)]; exact h495
      have h554 : f53 na0 = some (.inl (cI G, 6, .inl (fun _ => 0))) := by rw [ef53, va_up_ne _ _ (hnew h497 w52)]; exact h497
      have h555 : f53 nw1 = some (.inl (cI G, 6, .inl (fun j => if j < 6 then (-1) else (fun _ => 0) j))) := by rw [ef53, va_up_ne _ _ (hnew h503 w52)]; exact h503
      have h556 : f53 na1 = some (.inl (cI G, 6, .inl (fun _ => 0))) := by rw [ef53, va_up_ne _ _ (hnew h505 w52)]; exact h505
      have h557 : f53 bu = some (.inr (0, [.ref bs, .ref bp, .ref bh, .ref bf, .ref bl, .ref bg, .int 0, .int 0, .int 0])) := by rw [ef53, va_up_ne _ _ (hnew h493 w52)]; exact h493
      have h558 : f53 bs = some (.inl (cI G, 61, .inl (fun _ => 0))) := by rw [ef53, va_up_ne _ _ (hnew h511 w52)]; exact h511
      have h559 : f53 bp = some (.inl (cI G, 240, .inl (fun _ => 0))) := by rw [ef53, va_up_ne _ _ (hnew h513 w52)]; exact h513
      have h560 : f53 bh = some (.inl (cZ G, 240, .inl (fun _ => 0))) := by rw [ef53, va_up_ne _ _ (hnew h515 w52)]; exact h515
      have h561 : f53 bf = some (.inl (cI G, 3, .inl (upd (upd (upd (fun _ => 0) (0 : Int32).toNatClampNeg 0) (1 : Int32).toNatClampNeg 1) (2 : Int32).toNatClampNeg 2))) := by rw [ef53, va_up_ne _ _ (hnew h517 w52)]; exact h517
      have h562 : f53 bl = some (.inl (cI G, 3, .inl (fun j => if j < 3 then (-1) else (fun _ => 0) j))) := by rw [ef53, va_up_ne _ _ (hnew h519 w52)]; exact h519
      have h563 : f53 bg = some (.inl (cI G, 60, .inl (fun _ => 0))) := by rw [ef53, va_up_ne _ _ (hnew h521 w52)]; exact h521
      have hC0 : CW G f53 xo ez eo bu nw0 na0 nq0 nr0 nw1 na1 nq1 nr1 bs bp bh bf bl bg (fun j => if j < 6 then (-1) else (fun _ => 0) j) (fun _ => 0) (fun j => if j < 6 then (-1) else (fun _ => 0) j) (fun _ => 0) 1 2 0 0 0 0 (fun _ => 0) (fun _ => 0) fl0 (fun _ => 0) (fun _ => 0) (fun j => if j < 3 then (-1) else (fun _ => 0) j) := ⟨h546, ⟨0, 0, 0, -1, 0, 0, 0, (fun j => if j < 6 then (-1) else (fun _ => 0) j), .null, .null, h547, h548, h549, FRef.nul, FRef.nul, rfl⟩, ⟨0, 0, 0, -1, 0, 0, 0, (fun j => if j < 6 then (-1) else (fun _ => 0) j), .null, .null, h550, h551, h552, FRef.nul, FRef.nul, rfl⟩, h553, h554, h555, h556, h557, h558, h559, h560, (by rw [← F3_fl]; exact h561), h562, h563, (fun a9 k9 h9 _ => absurd h9 (hnf a9 k9)), BOK_0, fl0_ok, nd_ez_eo, nd_nr0_nr1, nd_nw0_na0, nd_nw0_nq0, nd_nw0_nw1, nd_nw0_na1, nd_nw0_nq1, nd_na0_nq0, nd_na0_nw1, nd_na0_na1, nd_na0_nq1, nd_nq0_nw1, nd_nq0_na1, nd_nq0_nq1, nd_nw1_na1, nd_nw1_nq1, nd_na1_nq1, nd_bh_bp, nd_bf_bl⟩
      have h564 : f53 mo = some (.inr (5, [.int 0, .ref dW, .ref dA, .ref dQ, .ref dM, .ref dS, .ref dL, .ref dR, .ref dT, .ref dZ, .ref dI, .ref dH, .ref dN, .ref dK, .ref dJ, .ref dU, .ref dO, .int 0, .int 0, .ref dF, .ref dP, .ref dE, .ref dX, .ref dY, .int 0, .int 0, .ref dG])) := by rw [ef53, va_up_ne _ _ (hnew h28 w52)]; exact h28
      have h565 : f53 dQ = some (.inl (cI G, 12, .inl mA12)) := by rw [ef53, va_up_ne _ _ (hnew h31 w52)]; exact h31
      have h566 : f53 dS = some (.inl (cI G, 2, .inl (fun _ => 0))) := by rw [ef53, va_up_ne _ _ (hnew h33 w52)]; exact h33
      have h567 : f53 dL = some (.inl (cI G, 2, .inl (mA2 (-1) (-1)))) := by rw [ef53, va_up_ne _ _ (hnew h34 w52)]; exact h34
      have h568 : f53 dR = some (.inl (cI G, 2, .inl (fun _ => 0))) := by rw [ef53, va_up_ne _ _ (hnew h35 w52)]; exact h35
      have h569 : f53 dT = some (.inl (cI G, 2, .inl (fun _ => 0))) := by rw [ef53, va_up_ne _ _ (hnew h36 w52)]; exact h36
      have h570 : f53 dZ = some (.inl (cZ G, 2, .inl (fun _ => 0))) := by rw [ef53, va_up_ne _ _ (hnew h37 w52)]; exact h37
      have h571 : f53 dI = some (.inl (cI G, 2, .inl (fun _ => 0))) := by rw [ef53, va_up_ne _ _ (hnew h38 w52)]; exact h38
      have h572 : f53 dH = some (.inl (cI G, 2, .inl (fun _ => 0))) := by rw [ef53, va_up_ne _ _ (hnew h39 w52)]; exact h39
      have h573 : f53 dN = some (.inl (cI G, 2, .inl (fun _ => 0))) := by rw [ef53, va_up_ne _ _ (hnew h40 w52)]; exact h40
      have h574 : f53 dK = some (.inl (cI G, 2048, .inl (fun _ => 0))) := by rw [ef53, va_up_ne _ _ (hnew h41 w52)]; exact h41
      have h575 : f53 dJ = some (.inl (cI G, 2048, .inl (fun _ => 0))) := by rw [ef53, va_up_ne _ _ (hnew h42 w52)]; exact h42
      have h576 : f53 dU = some (.inl (cI G, 2048, .inl (fun _ => 0))) := by rw [ef53, va_up_ne _ _ (hnew h43 w52)]; exact h43
      have h577 : f53 dO = some (.inl (cI G, 2048, .inl (fun _ => 0))) := by rw [ef53, va_up_ne _ _ (hnew h44 w52)]; exact h44
      have h578 : f53 dW = some (.inl (cI G, 12, .inl mA12)) := by rw [ef53, va_up_ne _ _ (hnew h29 w52)]; exact h29
      have h579 : f53 dA = some (.inl (cI G, 12, .inl (fun _ => 0))) := by rw [ef53, va_up_ne _ _ (hnew h30 w52)]; exact h30
      have h580 : f53 dM = some (.inl (cI G, 2, .inl (mA2 1 2))) := by rw [ef53, va_up_ne _ _ (hnew h32 w52)]; exact h32
      have h581 : f53 dF = some (.inl (cI G, 61, .inl (fun _ => 0))) := by rw [ef53, va_up_ne _ _ (hnew h45 w52)]; exact h45
      have h582 : f53 dP = some (.inl (cI G, 240, .inl (fun _ => 0))) := by rw [ef53, va_up_ne _ _ (hnew h46 w52)]; exact h46
      have h583 : f53 dE = some (.inl (cZ G, 240, .inl (fun _ => 0))) := by rw [ef53, va_up_ne _ _ (hnew h47 w52)]; exact h47
      have h584 : f53 dX = some (.inl (cI G, 3, .inl (mA3 0 1 2))) := by rw [ef53, va_up_ne _ _ (hnew h48 w52)]; exact h48
      have h585 : f53 dY = some (.inl (cI G, 3, .inl (mA3 (-1) (-1) (-1)))) := by rw [ef53, va_up_ne _ _ (hnew h49 w52)]; exact h49
      have h586 : f53 dG = some (.inl (cI G, 60, .inl (fun _ => 0))) := by rw [ef53, va_up_ne _ _ (hnew h50 w52)]; exact h50
      have hM0 : MW G f53 mo dW dA dQ dM dS dL dR dT dZ dI dH dN dK dJ dU dO dF dP dE dX dY dG 0 (100 * 0) (fun j => if j < 6 then (-1) else (fun _ => 0) j) (fun _ => 0) (fun j => if j < 6 then (-1) else (fun _ => 0) j) (fun _ => 0) 1 2 0 0 0 0 (fun _ => 0) (fun _ => 0) fl0 (fun _ => 0) (fun _ => 0) (fun j => if j < 3 then (-1) else (fun _ => 0) j) := ⟨h564, ⟨nd_dW_dA, nd_dW_dQ, nd_dA_dQ, nd_dM_dS, nd_dM_dL, nd_dM_dR, nd_dM_dT, nd_dM_dZ, nd_dM_dI, nd_dM_dH, nd_dM_dN, nd_dS_dL, nd_dS_dR, nd_dS_dT, nd_dS_dZ, nd_dS_dI, nd_dS_dH, nd_dS_dN, nd_dL_dR, nd_dL_dT, nd_dL_dZ, nd_dL_dI, nd_dL_dH, nd_dL_dN, nd_dR_dT, nd_dR_dZ, nd_dR_dI, nd_dR_dH, nd_dR_dN, nd_dT_dZ, nd_dT_dI, nd_dT_dH, nd_dT_dN, nd_dZ_dI, nd_dZ_dH, nd_dZ_dN, nd_dI_dH, nd_dI_dN, nd_dH_dN, nd_dK_dJ, nd_dK_dU, nd_dK_dO, nd_dJ_dU, nd_dJ_dO, nd_dU_dO, nd_dP_dE, nd_dX_dY⟩, ⟨_, _, _, _, _, _, _, _, _, _, _, _, _, h565, h566, h567, h568, h569, h570, h571, h572, h573, h574, h575, h576, h577, hHd_0, hMn_0⟩, (by rw [← jn_W]; exact h578), (by rw [← jn_0]; exact h579), h580, h581, h582, h583, (by rw [← mA3_fl]; exact h584), (by rw [← mA3_L]; exact h585), h586, (by rw [← jn_0]; intro j9 hj9; exact (show sA 0 by decide)), BOK_0, fl0_ok⟩
      exact law_loop hL hx hb hr hlocks hX hbl hl B0 hbA hFs hdis hdos hno hno2 hC0 hM0 h54 hw hS (lv_sub hl9 [0, 4, 3, 2, 1] rfl)

