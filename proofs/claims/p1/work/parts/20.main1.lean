theorem hW_0 {G : hG} {H : Heap} : hW G (fun _ => none) H := ⟨[], fun _ => .inr (0, []), (fun a e h => nomatch h), (fun k q h => by simp [va_pl] at h), ⟨fun i j p q h => by simp [va_pl] at h, fun k q h => by simp [va_pl] at h⟩⟩
theorem arr_of {ty : FieldType} {args : Array Value} {s : State} (h : (Cond.arrayClass ty).before args s = true) (hp : ∀ C, ty ≠ .object C) : ∃ cA, ArrOfT s cA ty ∧ va_RA s cA ty := by
  obtain ⟨c, k, comp, h1, h2, h3⟩ := Cond.arrayClass_spec h
  refine ⟨c, fun n z => ⟨fun k h => (by cases h), k, h2, comp, h3⟩, ?_⟩
  cases ty <;> first | exact absurd rfl (hp _) | exact h1
theorem hstr_all : hStr.all (fun q => decide (Cond.exactly (.string q.1 q.2.1) "java/lang/String" ∈ flatC (Jvm.Cond.and given_1 narrow_1))) = true := by decide +kernel
theorem hnc_all : hNcs.all (fun q => decide (Cond.not (.castable q.1 q.2) ∈ flatC (Jvm.Cond.and given_1 narrow_1))) = true := by decide +kernel
theorem hisU : Cond.isRef (.static Bundle.tN "UNASSIGNED_STACK" Bundle.steD) ∈ flatC (Jvm.Cond.and given_1 narrow_1) := by decide +kernel
theorem hisN : Cond.isRef (.static Bundle.tN "SUPPRESSED_SENTINEL" Bundle.listD) ∈ flatC (Jvm.Cond.and given_1 narrow_1) := by decide +kernel
theorem hlyU : Cond.laysStatic Bundle.tN "UNASSIGNED_STACK" Bundle.steD ∈ lw_tbl := List.mem_of_getElem? (i := 223) (by decide +kernel)
theorem hlyN : Cond.laysStatic Bundle.tN "SUPPRESSED_SENTINEL" Bundle.listD ∈ lw_tbl := List.mem_of_getElem? (i := 225) (by decide +kernel)
set_option maxHeartbeats 4000000 in
theorem hK_0 {b : Nat} {s : State} (hts : ∀ w ∈ lw_tbl, w.before #[Value.ref b] s = true) (hgv : (Jvm.Cond.and given_1 narrow_1).before #[Value.ref b] s = true) : ∃ (dC : Nat → ClassId) (dI : Nat → Nat → Nat) (c1 c2 c3 : ClassId), hK ((dC, dI), (c1, c2, c3), s.heap.size) s := by
  have hs := flat_of_before _ hgv
  have htg : ∀ w ∈ gW, w.before #[Value.ref b] s = true := fun w h => hts w (List.mem_filter.mp h).1
  obtain ⟨c0, i0, hn0⟩ := u_known (C := RX0) (T := TX0) (N := 9) (n := 9) htg in_X0 (htg _ qI_X0)
  obtain ⟨c1, i1, hn1⟩ := u_known (C := RX1) (T := TX1) (N := 11) (n := 11) htg in_X1 (htg _ qI_X1)
  obtain ⟨c2, i2, hn2⟩ := u_known (C := RX2) (T := TX2) (N := 5) (n := 5) htg in_X2 (htg _ qI_X2)
  obtain ⟨c3, i3, hn3⟩ := u_known (C := RX3) (T := TX3) (N := 3) (n := 3) htg in_X3 (htg _ qI_X3)
  obtain ⟨c4, i4, hn4⟩ := u_known (C := RX4) (T := TX4) (N := 3) (n := 3) htg in_X4 (htg _ qI_X4)
  obtain ⟨c5, i5, hn5⟩ := u_known (C := RX5) (T := TX5) (N := 27) (n := 27) htg in_X5 (htg _ qI_X5)
  obtain ⟨cI1, hI1, hI2⟩ := arr_of (htg _ qA_int) (fun C h => by cases h)
  obtain ⟨cZ1, hZ1, hZ2⟩ := arr_of (htg _ qA_boolean) (fun C h => by cases h)
  obtain ⟨cJ1, hJ1, hJ2⟩ := arr_of (htg _ qA_long) (fun C h => by cases h)
  have hA : ∀ a : Nat, a < s.heap.size → ¬ s.heap.size ≤ a := fun a h => Nat.not_le.mpr h
  refine ⟨fun k => if k = 0 then c0 else if k = 1 then c1 else if k = 2 then c2 else if k = 3 then c3 else if k = 4 then c4 else c5, fun k => if k = 0 then i0 else if k = 1 then i1 else if k = 2 then i2 else if k = 3 then i3 else if k = 4 then i4 else i5, cI1, cZ1, cJ1, ⟨?_, ?_⟩, ?_, ?_, ?_, ?_, ?_, Nat.le_refl _⟩
  · intro k q hq
    match k, hq with
    | 0, hq => cases hq; exact hn0
    | 1, hq => cases hq; exact hn1
    | 2, hq => cases hq; exact hn2
    | 3, hq => cases hq; exact hn3
    | 4, hq => cases hq; exact hn4
    | 5, hq => cases hq; exact hn5
    | k + 6, hq => simp at hq
  · intro k q hq
    match k, hq with
    | 0, hq => cases hq; exact ⟨hI1, hI2⟩
    | 1, hq => cases hq; exact ⟨hZ1, hZ2⟩
    | 2, hq => cases hq; exact ⟨hJ1, hJ2⟩
    | k + 3, hq => simp at hq
  · exact vx_Zqof (hts _ hlyU) (htg _ qN_java_lang_Throwable) (hs _ hisU) hA
  · exact vx_Zqof (hts _ hlyN) (htg _ qN_java_lang_Throwable) (hs _ hisN) hA
  · exact fun w hw => va_Nw.of (hOw_tabs (List.mem_filter.mp hw).2) (hts w (List.mem_filter.mp hw).1)
  · intro q hq
    have h2 := hs _ (of_decide_eq_true (List.all_eq_true.mp hstr_all q hq))
    obtain ⟨a, c, cell, k, h3, -⟩ := Cond.exactly_spec h2
    refine ⟨a, ?_⟩
    unfold hStr at hq
    obtain ⟨w, hw1, hw2⟩ := List.mem_filterMap.mp hq
    cases w <;> first | (cases hw2; exact vk_R.of (hts _ hw1) h3) | (cases hw2)
  · exact fun q hq => va_Nc.of (hs _ (of_decide_eq_true (List.all_eq_true.mp hnc_all q hq)))
set_option maxHeartbeats 40000000 in
set_option maxRecDepth 100000 in
theorem whole_start {p : Program} {e : Env} {s : State} {m : MethodId} {below : List Frame} {meth : Method} {c : Code} (l : Launch) (hflags : l.flags = flags0) {b L : Nat} {xs : Nat → Int32} (hL : L ≤ 4) (C0 : lw_At p s m meth c b L xs) : W p l e room_1 s m #[Value.ref b] below meth c s.heap [] 0 0 (lw_Z below #[Value.ref b] s) (entryFrame m ([Value.ref b] : List Value).toArray 7) := by
  obtain ⟨hx, hb, hr, hml, hown, hts, hX, hbl, hlocks, hgv⟩ := id C0
  have hl : l.stackTraces = false := by unfold Launch.stackTraces; rw [hflags]; decide
  obtain ⟨dC, dI, cI9, cZ9, cJ9, hk⟩ := hK_0 hts hgv
  obtain ⟨G, hGe⟩ : ∃ G : hG, G = ((dC, dI), (cI9, cZ9, cJ9), s.heap.size) := ⟨_, rfl⟩
  rw [← hGe] at hk
  have B0 : hB p l s m #[Value.ref b] meth c code 7 RL G := ⟨hx, hb, hml, hown, fun w h => hts w (List.mem_filter.mp h).1, hlocks, hk, hl⟩
  have hFs : ∀ q : Nat, hFr G q → s.heap.size ≤ q := by rw [hGe]; exact fun _ h => h
  have hbA : ¬ hFr G b := fun h => absurd (hFs b h) (Nat.not_le.mpr hbl)
  have hS : va_S (hFr G) s.heap s.heap [] := va_S.rf
  obtain ⟨f, hf0⟩ : ∃ f : hM, f = fun _ => none := ⟨_, rfl⟩
  have hw : hW G f s.heap := by rw [hf0]; exact hW_0
  clear hf0
  have hl9 := lv_entry ([.ref b]) (n := 7) (Nat.le_of_ble_eq_true rfl)
  rw [lg_entry_eq]
  generalize (lg_sl ([.ref b]) ++ List.replicate (7 - (lg_sl ([.ref b])).length) Slot.unset).toArray = ls at hl9 ⊢
  have hl9 : lv_has ls 7 [(0, .ref b)] := hl9
  refine hp_new (fs := [.null, .null, .null]) B0 hw hS 4 rfl in_X4 tyX4 tyX4_ok qC_L_8 qI_X4 qN_X4 (fun j hj => by rcases (show j = 0 ∨ j = 1 ∨ j = 2 by omega) with rfl | rfl | rfl <;> rfl) (Nat.le_of_ble_eq_true rfl) (Nat.le_of_ble_eq_true rfl) dL_law_0 (fun q1 H f3 w2 ef3 hw hS => ?_)
  have h4 : f3 q1 = some (.inr (4, [.null, .null, .null])) := by rw [ef3, va_up_self]
  refine lv_dup hx hb dL_law_3 rfl ?_
  refine hp_I (As := []) (rest := [.ref q1]) (b := q1) B0 hw hS (c_X4_init hl G f3 q1 h4) mI_X4_init qM_L_76 rfl rfl hl9.1 (Nat.le_of_ble_eq_true rfl) ⟨⟨Nat.le_of_ble_eq_true rfl, Nat.le_of_ble_eq_true rfl⟩, Nat.le_of_ble_eq_true rfl, Nat.le_of_ble_eq_true rfl⟩ dL_law_4 (fun E ce q9 f5 H locs hPX hw hS hce hcv hcl => ?_) (fun v f5 H locs hP hw hS => ?_)
  · exact hPX.elim
  · obtain ⟨ev9, ez, eo, bu, nw0, na0, nq0, nr0, nw1, na1, nq1, nr1, bs, bp, bh, bf, bl, bg, wez, weo, wbu, wnw0, wna0, wnq0, wnr0, wnw1, wna1, wnq1, wnr1, wbs, wbp, wbh, wbf, wbl, wbg, h6, h7, h8, h9, h10, h11, h12, h13, h14, h15, h16, h17, h18, h19, h20, h21, h22, h23, n_wq0, n_wq1, n_sp, k24⟩ := hP
    subst ev9
    refine W.eq (g2 := F0 m 7 ls [.ref q1]) rfl ?_
    refine lv_astore_n (lv' := [(1, .ref q1), (0, .ref b)]) hx hb dL_law_7 rfl hl9 (by decide) rfl (fun ls hl9 => ?_)
    refine hp_new (fs := [.int 0, .null, .null, .null, .null, .null, .null, .null, .null, .null, .null, .null, .null, .null, .null, .null, .null, .int 0, .int 0, .null, .null, .null, .null, .null, .int 0, .int 0, .null]) B0 hw hS 5 rfl in_X5 tyX5 tyX5_ok qC_L_77 qI_X5 qN_X5 (fun j hj => by rcases (show j = 0 ∨ j = 1 ∨ j = 2 ∨ j = 3 ∨ j = 4 ∨ j = 5 ∨ j = 6 ∨ j = 7 ∨ j = 8 ∨ j = 9 ∨ j = 10 ∨ j = 11 ∨ j = 12 ∨ j = 13 ∨ j = 14 ∨ j = 15 ∨ j = 16 ∨ j = 17 ∨ j = 18 ∨ j = 19 ∨ j = 20 ∨ j = 21 ∨ j = 22 ∨ j = 23 ∨ j = 24 ∨ j = 25 ∨ j = 26 by omega) with rfl | rfl | rfl | rfl | rfl | rfl | rfl | rfl | rfl | rfl | rfl | rfl | rfl | rfl | rfl | rfl | rfl | rfl | rfl | rfl | rfl | rfl | rfl | rfl | rfl | rfl | rfl <;> rfl) (Nat.le_of_ble_eq_true rfl) (Nat.le_of_ble_eq_true rfl) dL_law_8 (fun q25 H f27 w26 ef27 hw hS => ?_)
    have h28 : f27 q25 = some (.inr (5, [.int 0, .null, .null, .null, .null, .null, .null, .null, .null, .null, .null, .null, .null, .null, .null, .null, .null, .int 0, .int 0, .null, .null, .null, .null, .null, .int 0, .int 0, .null])) := by rw [ef27, va_up_self]
    refine lv_dup hx hb dL_law_11 rfl ?_
    refine hp_I (As := []) (rest := [.ref q25]) (b := q25) B0 hw hS (c_X5_init hl G f27 q25 h28) mI_X5_init qM_L_79 rfl rfl hl9.1 (Nat.le_of_ble_eq_true rfl) ⟨⟨Nat.le_of_ble_eq_true rfl, Nat.le_of_ble_eq_true rfl⟩, Nat.le_of_ble_eq_true rfl, Nat.le_of_ble_eq_true rfl⟩ dL_law_12 (fun E ce q9 f29 H locs hPX hw hS hce hcv hcl => ?_) (fun v f29 H locs hP hw hS => ?_)
    · exact hPX.elim
    · obtain ⟨ev9, dW, dA, dQ, dM, dS, dL, dR, dT, dZ, dI, dH, dN, dK, dJ, dU, dO, dF, dP, dE, dX, dY, dG, wdW, wdA, wdQ, wdM, wdS, wdL, wdR, wdT, wdZ, wdI, wdH, wdN, wdK, wdJ, wdU, wdO, wdF, wdP, wdE, wdX, wdY, wdG, h30, h31, h32, h33, h34, h35, h36, h37, h38, h39, h40, h41, h42, h43, h44, h45, h46, h47, h48, h49, h50, h51, h52, nd_dF_dH, nd_dF_dJ, nd_dF_dK, nd_dF_dL, nd_dF_dM, nd_dF_dN, nd_dF_dO, nd_dF_dP, nd_dF_dQ, nd_dF_dR, nd_dF_dS, nd_dF_dT, nd_dF_dU, nd_dF_dW, nd_dH_dJ, nd_dH_dK, nd_dH_dL, nd_dH_dM, nd_dH_dN, nd_dH_dO, nd_dH_dP, nd_dH_dQ, nd_dH_dR, nd_dH_dS, nd_dH_dT, nd_dH_dU, nd_dH_dW, nd_dJ_dK, nd_dJ_dL, nd_dJ_dM, nd_dJ_dN, nd_dJ_dO, nd_dJ_dP, nd_dJ_dQ, nd_dJ_dR, nd_dJ_dS, nd_dJ_dT, nd_dJ_dU, nd_dJ_dW, nd_dK_dL, nd_dK_dM, nd_dK_dN, nd_dK_dO, nd_dK_dP, nd_dK_dQ, nd_dK_dR, nd_dK_dS, nd_dK_dT, nd_dK_dU, nd_dK_dW, nd_dL_dM, nd_dL_dN, nd_dL_dO, nd_dL_dP, nd_dL_dQ, nd_dL_dR, nd_dL_dS, nd_dL_dT, nd_dL_dU, nd_dL_dW, nd_dM_dN, nd_dM_dO, nd_dM_dP, nd_dM_dQ, nd_dM_dR, nd_dM_dS, nd_dM_dT, nd_dM_dU, nd_dM_dW, nd_dN_dO, nd_dN_dP, nd_dN_dQ, nd_dN_dR, nd_dN_dS, nd_dN_dT, nd_dN_dU, nd_dN_dW, nd_dO_dP, nd_dO_dQ, nd_dO_dR, nd_dO_dS, nd_dO_dT, nd_dO_dU, nd_dO_dW, nd_dP_dQ, nd_dP_dR, nd_dP_dS, nd_dP_dT, nd_dP_dU, nd_dP_dW, nd_dQ_dR, nd_dQ_dS, nd_dQ_dT, nd_dQ_dU, nd_dQ_dW, nd_dR_dS, nd_dR_dT, nd_dR_dU, nd_dR_dW, nd_dS_dT, nd_dS_dU, nd_dS_dW, nd_dT_dU, nd_dT_dW, nd_dU_dW, k53⟩ := hP
      subst ev9
      refine W.eq (g2 := F0 m 15 ls [.ref q25]) rfl ?_
      refine lv_astore_n (lv' := [(2, .ref q25), (1, .ref q1), (0, .ref b)]) hx hb dL_law_15 rfl hl9 (by decide) rfl (fun ls hl9 => ?_)
      refine lv_iconst (v := 1) hx hb dL_law_16 (by decide) ?_
      refine hp_newaJ (N' := 1) B0 hw hS qA_long (by decide) (by decide) (Nat.le_of_ble_eq_true rfl) (Nat.le_of_ble_eq_true rfl) (Nat.le_of_ble_eq_true rfl) dL_law_17 (fun q54 H f56 w55 ef56 hw hS => ?_)
      have h57 : f56 q54 = some (.inl (cJ G, 1, .inr (.inl (fun _ => 0)))) := by rw [ef56, va_up_self]
      refine lv_astore_n (lv' := [(3, .ref q54), (2, .ref q25), (1, .ref q1), (0, .ref b)]) hx hb dL_law_19 rfl hl9 (by decide) rfl (fun ls hl9 => ?_)
      refine lv_iconst (v := 0) hx hb dL_law_20 (by decide) ?_
      refine lv_istore (lv' := [(4, .int 0), (3, .ref q54), (2, .ref q25), (1, .ref q1), (0, .ref b)]) hx hb dL_law_21 hl9 (by decide) rfl (fun ls hl9 => ?_)
      rcases (show L = 0 ∨ L = 1 ∨ L = 2 ∨ L = 3 ∨ L = 4 by omega) with rfl | rfl | rfl | rfl | rfl
      · refine lv_iload hx hb dL_law_23 (lv_at hl9 0 rfl) ?_
        refine lv_aload_n hx hb dL_law_25 rfl (lv_at hl9 4 rfl) ?_
        refine va_slen hx hb hX hbl hbA hS dL_law_26 ?_
        refine hp_c (v := 0) rfl ?_
        refine lv_iconst (v := 4) hx hb dL_law_27 (by decide) ?_
        refine lv_isub hx hb dL_law_28 ?_
        refine hp_c (v := (-4)) (by decide) ?_
        refine lv_icmp_gt (tgt := 1311) hx hb dL_law_29 (by decide) (fun _ => ?_) (fun c9 => absurd (by decide) c9)
        refine lv_iconst (v := 1) hx hb dL_law_1311 (by decide) ?_
        refine va_forget (fun q hq => hFs _ (hS.2.2 q hq)) ?_
        refine W.widen (k := 600002) (n := 7302232) (Nat.le_of_ble_eq_true rfl) (Nat.le_of_ble_eq_true rfl) ?_
        exact lw_ret hx hb hr hlocks dL_law_1312
      · refine lv_iload hx hb dL_law_23 (lv_at hl9 0 rfl) ?_
        refine lv_aload_n hx hb dL_law_25 rfl (lv_at hl9 4 rfl) ?_
        refine va_slen hx hb hX hbl hbA hS dL_law_26 ?_
        refine hp_c (v := 1) rfl ?_
        refine lv_iconst (v := 4) hx hb dL_law_27 (by decide) ?_
        refine lv_isub hx hb dL_law_28 ?_
        refine hp_c (v := (-3)) (by decide) ?_
        refine lv_icmp_gt (tgt := 1311) hx hb dL_law_29 (by decide) (fun _ => ?_) (fun c9 => absurd (by decide) c9)
        refine lv_iconst (v := 1) hx hb dL_law_1311 (by decide) ?_
        refine va_forget (fun q hq => hFs _ (hS.2.2 q hq)) ?_
        refine W.widen (k := 600002) (n := 7302232) (Nat.le_of_ble_eq_true rfl) (Nat.le_of_ble_eq_true rfl) ?_
        exact lw_ret hx hb hr hlocks dL_law_1312
      · refine lv_iload hx hb dL_law_23 (lv_at hl9 0 rfl) ?_
        refine lv_aload_n hx hb dL_law_25 rfl (lv_at hl9 4 rfl) ?_
        refine va_slen hx hb hX hbl hbA hS dL_law_26 ?_
        refine hp_c (v := 2) rfl ?_
        refine lv_iconst (v := 4) hx hb dL_law_27 (by decide) ?_
        refine lv_isub hx hb dL_law_28 ?_
        refine hp_c (v := (-2)) (by decide) ?_
        refine lv_icmp_gt (tgt := 1311) hx hb dL_law_29 (by decide) (fun _ => ?_) (fun c9 => absurd (by decide) c9)
        refine lv_iconst (v := 1) hx hb dL_law_1311 (by decide) ?_
        refine va_forget (fun q hq => hFs _ (hS.2.2 q hq)) ?_
        refine W.widen (k := 600002) (n := 7302232) (Nat.le_of_ble_eq_true rfl) (Nat.le_of_ble_eq_true rfl) ?_
        exact lw_ret hx hb hr hlocks dL_law_1312
      · refine lv_iload hx hb dL_law_23 (lv_at hl9 0 rfl) ?_
        refine lv_aload_n hx hb dL_law_25 rfl (lv_at hl9 4 rfl) ?_
        refine va_slen hx hb hX hbl hbA hS dL_law_26 ?_
        refine hp_c (v := 3) rfl ?_
        refine lv_iconst (v := 4) hx hb dL_law_27 (by decide) ?_
        refine lv_isub hx hb dL_law_28 ?_
        refine hp_c (v := (-1)) (by decide) ?_
        refine lv_icmp_gt (tgt := 1311) hx hb dL_law_29 (by decide) (fun _ => ?_) (fun c9 => absurd (by decide) c9)
        refine lv_iconst (v := 1) hx hb dL_law_1311 (by decide) ?_
        refine va_forget (fun q hq => hFs _ (hS.2.2 q hq)) ?_
        refine W.widen (k := 600002) (n := 7302232) (Nat.le_of_ble_eq_true rfl) (Nat.le_of_ble_eq_true rfl) ?_
        exact lw_ret hx hb hr hlocks dL_law_1312
      · refine lv_iload hx hb dL_law_23 (lv_at hl9 0 rfl) ?_
        refine lv_aload_n hx hb dL_law_25 rfl (lv_at hl9 4 rfl) ?_
        refine va_slen hx hb hX hbl hbA hS dL_law_26 ?_
        refine hp_c (v := 4) rfl ?_
        refine lv_iconst (v := 4) hx hb dL_law_27 (by decide) ?_
        refine lv_isub hx hb dL_law_28 ?_
        refine hp_c (v := 0) (by decide) ?_
        refine lv_icmp_gt (tgt := 1311) hx hb dL_law_29 (by decide) (fun c9 => absurd c9 (by decide)) (fun _ => ?_)
        refine lv_aload_n hx hb dL_law_32 rfl (lv_at hl9 4 rfl) ?_
        refine lv_iload hx hb dL_law_33 (lv_at hl9 0 rfl) ?_
        refine va_sld hx hb hX hbl hbA hS (by unfold vp_in; decide) dL_law_35 ?_
        refine hp_c (v := xs 0) rfl ?_
        refine lv_bipush (v := 31) hx hb dL_law_36 (by decide) ?_
        refine lv_iand hx hb dL_law_38 ?_
        obtain ⟨n9, hn9, en9⟩ := pk_andE (xs 0) (m := 31) 5 (by decide)
        refine hp_c (v := nI n9) en9 ?_
        rcases (show n9 = 0 ∨ n9 = 1 ∨ n9 = 2 ∨ n9 = 3 ∨ n9 = 4 ∨ n9 = 5 ∨ n9 = 6 ∨ n9 = 7 ∨ n9 = 8 ∨ n9 = 9 ∨ n9 = 10 ∨ n9 = 11 ∨ n9 = 12 ∨ n9 = 13 ∨ n9 = 14 ∨ n9 = 15 ∨ n9 = 16 ∨ n9 = 17 ∨ n9 = 18 ∨ n9 = 19 ∨ n9 = 20 ∨ 21 ≤ n9 by omega) with rfl | rfl | rfl | rfl | rfl | rfl | rfl | rfl | rfl | rfl | rfl | rfl | rfl | rfl | rfl | rfl | rfl | rfl | rfl | rfl | rfl | hb9
        · refine lv_tableIn (off := 97) (tgt := 136) hx hb dL_law_39 (by decide) (by decide) (by decide) (by decide) ?_
          refine lv_aload_n hx hb dL_law_136 rfl (lv_at hl9 3 rfl) ?_
          refine lv_aload_n hx hb dL_law_137 rfl (lv_at hl9 4 rfl) ?_
          refine lv_iload hx hb dL_law_138 (lv_at hl9 0 rfl) ?_
          refine lv_iconst (v := 1) hx hb dL_law_140 (by decide) ?_
          refine lv_iadd hx hb dL_law_141 ?_
          refine hp_c (v := 1) (by decide) ?_
          refine va_sld hx hb hX hbl hbA hS (by unfold vp_in; decide) dL_law_142 ?_
          refine hp_c (v := xs 1) rfl ?_
          refine lv_aload_n hx hb dL_law_143 rfl (lv_at hl9 4 rfl) ?_
          refine lv_iload hx hb dL_law_144 (lv_at hl9 0 rfl) ?_
          refine lv_iconst (v := 2) hx hb dL_law_146 (by decide) ?_
          refine lv_iadd hx hb dL_law_147 ?_
          refine hp_c (v := 2) (by decide) ?_
          refine va_sld hx hb hX hbl hbA hS (by unfold vp_in; decide) dL_law_148 ?_
          refine hp_c (v := xs 2) rfl ?_
          refine lv_aload_n hx hb dL_law_149 rfl (lv_at hl9 4 rfl) ?_
          refine lv_iload hx hb dL_law_150 (lv_at hl9 0 rfl) ?_
          refine lv_iconst (v := 3) hx hb dL_law_152 (by decide) ?_
          refine lv_iadd hx hb dL_law_153 ?_
          refine hp_c (v := 3) (by decide) ?_
          refine va_sld hx hb hX hbl hbA hS (by unfold vp_in; decide) dL_law_154 ?_
          refine hp_c (v := xs 3) rfl ?_
          refine lv_aload_n hx hb dL_law_155 rfl (lv_at hl9 1 rfl) ?_
          have h58 : f27 q1 = some (.inr (4, [.ref ez, .ref eo, .ref bu])) := by rw [ef27, va_up_ne _ _ (hnew h6 w26)]; exact h6
          have n60 : q1 ≠ q25 := hnew h6 w26
          have h59 : f29 q1 = some (.inr (4, [.ref ez, .ref eo, .ref bu])) := k53 _ _ h58 (ninc n60 nin0)
          have h61 : f56 q1 = some (.inr (4, [.ref ez, .ref eo, .ref bu])) := by rw [ef56, va_up_ne _ _ (hnew h59 w55)]; exact h59
          have h62 : f27 ez = some (.inr (1, [.ref nw0, .ref na0, .ref nq0, .ref nr0, .int 1, .int 0, .int 0, .int 0, .int (-1), .int 0, .int 0])) := by rw [ef27, va_up_ne _ _ (hnew h7 w26)]; exact h7
          have n64 : ez ≠ q25 := hnew h7 w26
          have h63 : f29 ez = some (.inr (1, [.ref nw0, .ref na0, .ref nq0, .ref nr0, .int 1, .int 0, .int 0, .int 0, .int (-1), .int 0, .int 0])) := k53 _ _ h62 (ninc n64 nin0)
          have h65 : f56 ez = some (.inr (1, [.ref nw0, .ref na0, .ref nq0, .ref nr0, .int 1, .int 0, .int 0, .int 0, .int (-1), .int 0, .int 0])) := by rw [ef56, va_up_ne _ _ (hnew h63 w55)]; exact h63
          have h66 : f27 nw0 = some (.inl (cI G, 6, .inl (fun j => if j < 6 then (-1) else (fun _ => 0) j))) := by rw [ef27, va_up_ne _ _ (hnew h8 w26)]; exact h8
          have n68 : nw0 ≠ q25 := hnew h8 w26
          have h67 : f29 nw0 = some (.inl (cI G, 6, .inl (fun j => if j < 6 then (-1) else (fun _ => 0) j))) := k53 _ _ h66 (ninc n68 nin0)
          have h69 : f56 nw0 = some (.inl (cI G, 6, .inl (fun j => if j < 6 then (-1) else (fun _ => 0) j))) := by rw [ef56, va_up_ne _ _ (hnew h67 w55)]; exact h67
          have h70 : f27 na0 = some (.inl (cI G, 6, .inl (fun _ => 0))) := by rw [ef27, va_up_ne _ _ (hnew h9 w26)]; exact h9
          have n72 : na0 ≠ q25 := hnew h9 w26
          have h71 : f29 na0 = some (.inl (cI G, 6, .inl (fun _ => 0))) := k53 _ _ h70 (ninc n72 nin0)
          have h73 : f56 na0 = some (.inl (cI G, 6, .inl (fun _ => 0))) := by rw [ef56, va_up_ne _ _ (hnew h71 w55)]; exact h71
          have h74 : f27 nq0 = some (.inl (cI G, 6, .inl (fun j => if j < 6 then (-1) else (fun _ => 0) j))) := by rw [ef27, va_up_ne _ _ (hnew h10 w26)]; exact h10
          have n76 : nq0 ≠ q25 := hnew h10 w26
          have h75 : f29 nq0 = some (.inl (cI G, 6, .inl (fun j => if j < 6 then (-1) else (fun _ => 0) j))) := k53 _ _ h74 (ninc n76 nin0)
          have h77 : f56 nq0 = some (.inl (cI G, 6, .inl (fun j => if j < 6 then (-1) else (fun _ => 0) j))) := by rw [ef56, va_up_ne _ _ (hnew h75 w55)]; exact h75
          have h78 : f27 nr0 = some (.inr (3, [.null, .null, .int 0])) := by rw [ef27, va_up_ne _ _ (hnew h11 w26)]; exact h11
          have n80 : nr0 ≠ q25 := hnew h11 w26
          have h79 : f29 nr0 = some (.inr (3, [.null, .null, .int 0])) := k53 _ _ h78 (ninc n80 nin0)
          have h81 : f56 nr0 = some (.inr (3, [.null, .null, .int 0])) := by rw [ef56, va_up_ne _ _ (hnew h79 w55)]; exact h79
          have h82 : f27 eo = some (.inr (1, [.ref nw1, .ref na1, .ref nq1, .ref nr1, .int 2, .int 0, .int 0, .int 0, .int (-1), .int 0, .int 0])) := by rw [ef27, va_up_ne _ _ (hnew h12 w26)]; exact h12
          have n84 : eo ≠ q25 := hnew h12 w26
          have h83 : f29 eo = some (.inr (1, [.ref nw1, .ref na1, .ref nq1, .ref nr1, .int 2, .int 0, .int 0, .int 0, .int (-1), .int 0, .int 0])) := k53 _ _ h82 (ninc n84 nin0)
          have h85 : f56 eo = some (.inr (1, [.ref nw1, .ref na1, .ref nq1, .ref nr1, .int 2, .int 0, .int 0, .int 0, .int (-1), .int 0, .int 0])) := by rw [ef56, va_up_ne _ _ (hnew h83 w55)]; exact h83
          have h86 : f27 nw1 = some (.inl (cI G, 6, .inl (fun j => if j < 6 then (-1) else (fun _ => 0) j))) := by rw [ef27, va_up_ne _ _ (hnew h13 w26)]; exact h13
          have n88 : nw1 ≠ q25 := hnew h13 w26
          have h87 : f29 nw1 = some (.inl (cI G, 6, .inl (fun j => if j < 6 then (-1) else (fun _ => 0) j))) := k53 _ _ h86 (ninc n88 nin0)
          have h89 : f56 nw1 = some (.inl (cI G, 6, .inl (fun j => if j < 6 then (-1) else (fun _ => 0) j))) := by rw [ef56, va_up_ne _ _ (hnew h87 w55)]; exact h87
          have h90 : f27 na1 = some (.inl (cI G, 6, .inl (fun _ => 0))) := by rw [ef27, va_up_ne _ _ (hnew h14 w26)]; exact h14
          have n92 : na1 ≠ q25 := hnew h14 w26
          have h91 : f29 na1 = some (.inl (cI G, 6, .inl (fun _ => 0))) := k53 _ _ h90 (ninc n92 nin0)
          have h93 : f56 na1 = some (.inl (cI G, 6, .inl (fun _ => 0))) := by rw [ef56, va_up_ne _ _ (hnew h91 w55)]; exact h91
          have h94 : f27 nq1 = some (.inl (cI G, 6, .inl (fun j => if j < 6 then (-1) else (fun _ => 0) j))) := by rw [ef27, va_up_ne _ _ (hnew h15 w26)]; exact h15
          have n96 : nq1 ≠ q25 := hnew h15 w26
          have h95 : f29 nq1 = some (.inl (cI G, 6, .inl (fun j => if j < 6 then (-1) else (fun _ => 0) j))) := k53 _ _ h94 (ninc n96 nin0)
          have h97 : f56 nq1 = some (.inl (cI G, 6, .inl (fun j => if j < 6 then (-1) else (fun _ => 0) j))) := by rw [ef56, va_up_ne _ _ (hnew h95 w55)]; exact h95
          have h98 : f27 nr1 = some (.inr (3, [.null, .null, .int 0])) := by rw [ef27, va_up_ne _ _ (hnew h16 w26)]; exact h16
          have n100 : nr1 ≠ q25 := hnew h16 w26
          have h99 : f29 nr1 = some (.inr (3, [.null, .null, .int 0])) := k53 _ _ h98 (ninc n100 nin0)
          have h101 : f56 nr1 = some (.inr (3, [.null, .null, .int 0])) := by rw [ef56, va_up_ne _ _ (hnew h99 w55)]; exact h99
          have h102 : f27 bu = some (.inr (0, [.ref bs, .ref bp, .ref bh, .ref bf, .ref bl, .ref bg, .int 0, .int 0, .int 0])) := by rw [ef27, va_up_ne _ _ (hnew h17 w26)]; exact h17
          have n104 : bu ≠ q25 := hnew h17 w26
          have h103 : f29 bu = some (.inr (0, [.ref bs, .ref bp, .ref bh, .ref bf, .ref bl, .ref bg, .int 0, .int 0, .int 0])) := k53 _ _ h102 (ninc n104 nin0)
          have h105 : f56 bu = some (.inr (0, [.ref bs, .ref bp, .ref bh, .ref bf, .ref bl, .ref bg, .int 0, .int 0, .int 0])) := by rw [ef56, va_up_ne _ _ (hnew h103 w55)]; exact h103
          have h106 : f27 bs = some (.inl (cI G, 61, .inl (fun _ => 0))) := by rw [ef27, va_up_ne _ _ (hnew h18 w26)]; exact h18
          have n108 : bs ≠ q25 := hnew h18 w26
          have h107 : f29 bs = some (.inl (cI G, 61, .inl (fun _ => 0))) := k53 _ _ h106 (ninc n108 nin0)
          have h109 : f56 bs = some (.inl (cI G, 61, .inl (fun _ => 0))) := by rw [ef56, va_up_ne _ _ (hnew h107 w55)]; exact h107
          have h110 : f27 bp = some (.inl (cI G, 240, .inl (fun _ => 0))) := by rw [ef27, va_up_ne _ _ (hnew h19 w26)]; exact h19
          have n112 : bp ≠ q25 := hnew h19 w26
          have h111 : f29 bp = some (.inl (cI G, 240, .inl (fun _ => 0))) := k53 _ _ h110 (ninc n112 nin0)
          have h113 : f56 bp = some (.inl (cI G, 240, .inl (fun _ => 0))) := by rw [ef56, va_up_ne _ _ (hnew h111 w55)]; exact h111
          have h114 : f27 bh = some (.inl (cZ G, 240, .inl (fun _ => 0))) := by rw [ef27, va_up_ne _ _ (hnew h20 w26)]; exact h20
          have n116 : bh ≠ q25 := hnew h20 w26
          have h115 : f29 bh = some (.inl (cZ G, 240, .inl (fun _ => 0))) := k53 _ _ h114 (ninc n116 nin0)
          have h117 : f56 bh = some (.inl (cZ G, 240, .inl (fun _ => 0))) := by rw [ef56, va_up_ne _ _ (hnew h115 w55)]; exact h115
          have h118 : f27 bf = some (.inl (cI G, 3, .inl (upd (upd (upd (fun _ => 0) (0 : Int32).toNatClampNeg 0) (1 : Int32).toNatClampNeg 1) (2 : Int32).toNatClampNeg 2))) := by rw [ef27, va_up_ne _ _ (hnew h21 w26)]; exact h21
          have n120 : bf ≠ q25 := hnew h21 w26
          have h119 : f29 bf = some (.inl (cI G, 3, .inl (upd (upd (upd (fun _ => 0) (0 : Int32).toNatClampNeg 0) (1 : Int32).toNatClampNeg 1) (2 : Int32).toNatClampNeg 2))) := k53 _ _ h118 (ninc n120 nin0)
          have h121 : f56 bf = some (.inl (cI G, 3, .inl (upd (upd (upd (fun _ => 0) (0 : Int32).toNatClampNeg 0) (1 : Int32).toNatClampNeg 1) (2 : Int32).toNatClampNeg 2))) := by rw [ef56, va_up_ne _ _ (hnew h119 w55)]; exact h119
          have h122 : f27 bl = some (.inl (cI G, 3, .inl (fun j => if j < 3 then (-1) else (fun _ => 0) j))) := by rw [ef27, va_up_ne _ _ (hnew h22 w26)]; exact h22
          have n124 : bl ≠ q25 := hnew h22 w26
          have h123 : f29 bl = some (.inl (cI G, 3, .inl (fun j => if j < 3 then (-1) else (fun _ => 0) j))) := k53 _ _ h122 (ninc n124 nin0)
          have h125 : f56 bl = some (.inl (cI G, 3, .inl (fun j => if j < 3 then (-1) else (fun _ => 0) j))) := by rw [ef56, va_up_ne _ _ (hnew h123 w55)]; exact h123
          have h126 : f27 bg = some (.inl (cI G, 60, .inl (fun _ => 0))) := by rw [ef27, va_up_ne _ _ (hnew h23 w26)]; exact h23
          have n128 : bg ≠ q25 := hnew h23 w26
          have h127 : f29 bg = some (.inl (cI G, 60, .inl (fun _ => 0))) := k53 _ _ h126 (ninc n128 nin0)
          have h129 : f56 bg = some (.inl (cI G, 60, .inl (fun _ => 0))) := by rw [ef56, va_up_ne _ _ (hnew h127 w55)]; exact h127
          have n130 : bp ≠ q54 := hnew h111 w55
          have n131 : bs ≠ q54 := hnew h107 w55
          have n132 : nq1 ≠ q54 := hnew h95 w55
          have n133 : nq0 ≠ q54 := hnew h75 w55
          have n134 : na1 ≠ q54 := hnew h91 w55
          have n135 : na0 ≠ q54 := hnew h71 w55
          have n136 : nw1 ≠ q54 := hnew h87 w55
          have n137 : nw0 ≠ q54 := hnew h67 w55
          refine hp_SH (As := [.ref q1, .int (xs 1), .int (xs 2), .int (xs 3), .ref q54]) (rest := []) B0 hw hS (c_L_wish hl G f56 q1 ez eo bu nw0 na0 nq0 nr0 nw1 na1 nq1 nr1 bs bp bh bf bl bg q54 ⟨h61, h65, h69, h73, h77, h81, h85, h89, h93, h97, h101, h105, h109, h113, h117, h121, h125, h129, n_wq0, n_wq1, n_sp⟩ (ninc (Ne.symm n137) (ninc (Ne.symm n136) (ninc (Ne.symm n135) (ninc (Ne.symm n134) (ninc (Ne.symm n133) (ninc (Ne.symm n132) (ninc (Ne.symm n131) (ninc (Ne.symm n130) nin0)))))))) h57 (xs 1) (xs 2) (xs 3)) mH_L_wish qM_L_80 rfl rfl hl9.1 (Nat.le_of_ble_eq_true rfl) ⟨⟨Nat.le_of_ble_eq_true rfl, Nat.le_of_ble_eq_true rfl⟩, Nat.le_of_ble_eq_true rfl, Nat.le_of_ble_eq_true rfl⟩ dL_law_156 (fun E ce q9 f138 H locs hPX hw hS hce hcv hcl => ?_) (fun v f138 H locs hP hw hS => ?_)
          · exact hPX.elim
          · obtain ⟨ev9, h139, k140⟩ := hP
            subst ev9
            refine W.eq (g2 := F0 m 159 ls [.int (spc (sE (xs 1) ∧ sO (xs 2)) (sV (xs 3)))]) rfl ?_
            refine lv_istore (lv' := [(5, .int (spc (sE (xs 1) ∧ sO (xs 2)) (sV (xs 3)))), (4, .int 0), (3, .ref q54), (2, .ref q25), (1, .ref q1), (0, .ref b)]) hx hb dL_law_159 hl9 (by decide) rfl (fun ls hl9 => ?_)
            refine lv_aload_n hx hb dL_law_161 rfl (lv_at hl9 3 rfl) ?_
            refine lv_aload_n hx hb dL_law_162 rfl (lv_at hl9 5 rfl) ?_
            refine lv_iload hx hb dL_law_163 (lv_at hl9 1 rfl) ?_
            refine lv_iconst (v := 1) hx hb dL_law_165 (by decide) ?_
            refine lv_iadd hx hb dL_law_166 ?_
            refine hp_c (v := 1) (by decide) ?_
            refine va_sld hx hb hX hbl hbA hS (by unfold vp_in; decide) dL_law_167 ?_
            refine hp_c (v := xs 1) rfl ?_
            refine lv_aload_n hx hb dL_law_168 rfl (lv_at hl9 5 rfl) ?_
            refine lv_iload hx hb dL_law_169 (lv_at hl9 1 rfl) ?_
            refine lv_iconst (v := 2) hx hb dL_law_171 (by decide) ?_
            refine lv_iadd hx hb dL_law_172 ?_
            refine hp_c (v := 2) (by decide) ?_
            refine va_sld hx hb hX hbl hbA hS (by unfold vp_in; decide) dL_law_173 ?_
            refine hp_c (v := xs 2) rfl ?_
            refine lv_aload_n hx hb dL_law_174 rfl (lv_at hl9 5 rfl) ?_
            refine lv_iload hx hb dL_law_175 (lv_at hl9 1 rfl) ?_
            refine lv_iconst (v := 3) hx hb dL_law_177 (by decide) ?_
            refine lv_iadd hx hb dL_law_178 ?_
            refine hp_c (v := 3) (by decide) ?_
            refine va_sld hx hb hX hbl hbA hS (by unfold vp_in; decide) dL_law_179 ?_
            refine hp_c (v := xs 3) rfl ?_
            have h141 : f56 q25 = some (.inr (5, [.int 0, .ref dW, .ref dA, .ref dQ, .ref dM, .ref dS, .ref dL, .ref dR, .ref dT, .ref dZ, .ref dI, .ref dH, .ref dN, .ref dK, .ref dJ, .ref dU, .ref dO, .int 0, .int 0, .ref dF, .ref dP, .ref dE, .ref dX, .ref dY, .int 0, .int 0, .ref dG])) := by rw [ef56, va_up_ne _ _ (hnew h30 w55)]; exact h30
            have n143 : q25 ≠ q54 := hnew h30 w55
            have h142 : f138 q25 = some (.inr (5, [.int 0, .ref dW, .ref dA, .ref dQ, .ref dM, .ref dS, .ref dL, .ref dR, .ref dT, .ref dZ, .ref dI, .ref dH, .ref dN, .ref dK, .ref dJ, .ref dU, .ref dO, .int 0, .int 0, .ref dF, .ref dP, .ref dE, .ref dX, .ref dY, .int 0, .int 0, .ref dG])) := k140 _ _ h141 (ninc (Ne.symm n68) (ninc (Ne.symm n88) (ninc n143 nin0)))
            have h144 : f56 dW = some (.inl (cI G, 12, .inl mA12)) := by rw [ef56, va_up_ne _ _ (hnew h31 w55)]; exact h31
            have n146 : dW ≠ q54 := hnew h31 w55
            have n147 : nw1 ≠ dW := hnew h86 wdW
            have n148 : nw0 ≠ dW := hnew h66 wdW
            have h145 : f138 dW = some (.inl (cI G, 12, .inl mA12)) := k140 _ _ h144 (ninc (Ne.symm n148) (ninc (Ne.symm n147) (ninc n146 nin0)))
            refine hp_V (ci := 5) (As := [.int (xs 1), .int (xs 2), .int (xs 3)]) (rest := []) B0 hw hS (c_X5_wish0 hl G f138 q25 dW dA dQ dM dS dL dR dT dZ dI dH dN dK dJ dU dO dF dP dE dX dY dG 0 h142 h145  (xs 1) (xs 2) (xs 3)) mV_X5_wish qM_L_85 rfl h142 rfl rfl hl9.1 (Nat.le_of_ble_eq_true rfl) ⟨⟨Nat.le_of_ble_eq_true rfl, Nat.le_of_ble_eq_true rfl⟩, Nat.le_of_ble_eq_true rfl, Nat.le_of_ble_eq_true rfl⟩ dL_law_180 (fun E ce q9 f149 H locs hPX hw hS hce hcv hcl => ?_) (fun v f149 H locs hP hw hS => ?_)
            · exact hPX.elim
            · obtain ⟨⟨r150, ev9, h151⟩, ⟨c152, h153⟩, k154⟩ := hP
              subst ev9
              refine W.eq (g2 := F0 m 183 ls [.int r150]) rfl ?_
              refine lv_istore (lv' := [(6, .int r150), (5, .int (spc (sE (xs 1) ∧ sO (xs 2)) (sV (xs 3)))), (4, .int 0), (3, .ref q54), (2, .ref q25), (1, .ref q1), (0, .ref b)]) hx hb dL_law_183 hl9 (by decide) rfl (fun ls hl9 => ?_)
              refine lv_aload_n hx hb dL_law_185 rfl (lv_at hl9 4 rfl) ?_
              refine hp_V (ci := 5) (As := []) (rest := []) B0 hw hS (c_X5_thrown hl G f149 q25 (spc (sE (xs 1) ∧ sO (xs 2)) (sV (xs 3))) c152 h153) mV_X5_thrown qM_L_86 rfl h153 rfl rfl hl9.1 (Nat.le_of_ble_eq_true rfl) ⟨⟨Nat.le_of_ble_eq_true rfl, Nat.le_of_ble_eq_true rfl⟩, Nat.le_of_ble_eq_true rfl, Nat.le_of_ble_eq_true rfl⟩ dL_law_186 (fun E ce q9 f155 H locs hPX hw hS hce hcv hcl => ?_) (fun v f155 H locs hP hw hS => ?_)
              · exact hPX.elim
              · obtain ⟨ev9, ef9⟩ := hP
                rw [ef9] at hw
                subst ev9
                refine W.eq (g2 := F0 m 189 ls [.int (spc (sE (xs 1) ∧ sO (xs 2)) (sV (xs 3)))]) rfl ?_
                refine lv_iload hx hb dL_law_189 (lv_at hl9 1 rfl) ?_
                refine lv_icmp_eq (tgt := 196) hx hb dL_law_191 (by decide) (fun _ => ?_) (fun c9 => absurd rfl c9)
                refine lv_iload hx hb dL_law_196 (lv_at hl9 1 rfl) ?_
                refine lv_if_ne (tgt := 213) hx hb dL_law_198 (by decide) (fun c156 => ?_) (fun c156 => ?_)
                · refine lv_goto (tgt := 1305) hx hb dL_law_213 (by decide) ?_
                  refine lv_iinc (v := 4) (lv' := [(4, .int 4), (6, .int r150), (5, .int (spc (sE (xs 1) ∧ sO (xs 2)) (sV (xs 3)))), (3, .ref q54), (2, .ref q25), (1, .ref q1), (0, .ref b)]) hx hb dL_law_1305 hl9 (k := 2) rfl (by decide) (by decide) rfl (fun ls hl9 => ?_)
                  refine lv_goto (tgt := 23) hx hb dL_law_1308 (by decide) ?_
                  refine lv_iload hx hb dL_law_23 (lv_at hl9 0 rfl) ?_
                  refine lv_aload_n hx hb dL_law_25 rfl (lv_at hl9 6 rfl) ?_
                  refine va_slen hx hb hX hbl hbA hS dL_law_26 ?_
                  refine hp_c (v := 4) rfl ?_
                  refine lv_iconst (v := 4) hx hb dL_law_27 (by decide) ?_
                  refine lv_isub hx hb dL_law_28 ?_
                  refine hp_c (v := 0) (by decide) ?_
                  refine lv_icmp_gt (tgt := 1311) hx hb dL_law_29 (by decide) (fun _ => ?_) (fun c9 => absurd (by decide) c9)
                  refine lv_iconst (v := 1) hx hb dL_law_1311 (by decide) ?_
                  refine va_forget (fun q hq => hFs _ (hS.2.2 q hq)) ?_
                  refine W.widen (k := 600002) (n := 7302232) (Nat.le_of_ble_eq_true rfl) (Nat.le_of_ble_eq_true rfl) ?_
                  exact lw_ret hx hb hr hlocks dL_law_1312
                · refine lv_aload_n hx hb dL_law_201 rfl (lv_at hl9 3 rfl) ?_
                  refine lv_iconst (v := 0) hx hb dL_law_202 (by decide) ?_
                  have h157 : f138 q54 = some (.inl (cJ G, 1, .inr (.inl (vp_updL (fun _ => 0) (0 : Int32).toNatClampNeg (((-1) : Int32).toInt64))))) := h139 c156
                  have h158 : f149 q54 = some (.inl (cJ G, 1, .inr (.inl (vp_updL (fun _ => 0) (0 : Int32).toNatClampNeg (((-1) : Int32).toInt64))))) := k154 _ _ h157 (ninc (Ne.symm n143) (ninc (Ne.symm n146) nin0))
                  refine hp_lald B0 hw h158 (by unfold vp_in; decide) dL_law_203 ?_
                  refine lv_iload hx hb dL_law_204 (lv_at hl9 0 rfl) ?_
                  refine lv_i2l (v := (r150 : Int32).toInt64) hx hb dL_law_206 rfl ?_
                  refine W.lcmp hx hb dL_law_207 ?_
                  refine lv_if_eq (tgt := 213) hx hb dL_law_208 (by decide) (fun _ => ?_) (fun c9 => absurd (lg_eq0 (by have h9 := h151 c156; subst h9; rfl)) c9)
                  refine lv_goto (tgt := 1305) hx hb dL_law_213 (by decide) ?_
                  refine lv_iinc (v := 4) (lv' := [(4, .int 4), (6, .int r150), (5, .int (spc (sE (xs 1) ∧ sO (xs 2)) (sV (xs 3)))), (3, .ref q54), (2, .ref q25), (1, .ref q1), (0, .ref b)]) hx hb dL_law_1305 hl9 (k := 2) rfl (by decide) (by decide) rfl (fun ls hl9 => ?_)
                  refine lv_goto (tgt := 23) hx hb dL_law_1308 (by decide) ?_
                  refine lv_iload hx hb dL_law_23 (lv_at hl9 0 rfl) ?_
                  refine lv_aload_n hx hb dL_law_25 rfl (lv_at hl9 6 rfl) ?_
                  refine va_slen hx hb hX hbl hbA hS dL_law_26 ?_
                  refine hp_c (v := 4) rfl ?_
                  refine lv_iconst (v := 4) hx hb dL_law_27 (by decide) ?_
                  refine lv_isub hx hb dL_law_28 ?_
                  refine hp_c (v := 0) (by decide) ?_
                  refine lv_icmp_gt (tgt := 1311) hx hb dL_law_29 (by decide) (fun _ => ?_) (fun c9 => absurd (by decide) c9)
                  refine lv_iconst (v := 1) hx hb dL_law_1311 (by decide) ?_
                  refine va_forget (fun q hq => hFs _ (hS.2.2 q hq)) ?_
                  refine W.widen (k := 600002) (n := 7302232) (Nat.le_of_ble_eq_true rfl) (Nat.le_of_ble_eq_true rfl) ?_
                  exact lw_ret hx hb hr hlocks dL_law_1312
        · refine lv_tableIn (off := 177) (tgt := 216) hx hb dL_law_39 (by decide) (by decide) (by decide) (by decide) ?_
          refine lv_aload_n hx hb dL_law_216 rfl (lv_at hl9 3 rfl) ?_
          refine lv_aload_n hx hb dL_law_217 rfl (lv_at hl9 4 rfl) ?_
          refine lv_iload hx hb dL_law_218 (lv_at hl9 0 rfl) ?_
          refine lv_iconst (v := 1) hx hb dL_law_220 (by decide) ?_
          refine lv_iadd hx hb dL_law_221 ?_
          refine hp_c (v := 1) (by decide) ?_
          refine va_sld hx hb hX hbl hbA hS (by unfold vp_in; decide) dL_law_222 ?_
          refine hp_c (v := xs 1) rfl ?_
          refine lv_aload_n hx hb dL_law_223 rfl (lv_at hl9 4 rfl) ?_
          refine lv_iload hx hb dL_law_224 (lv_at hl9 0 rfl) ?_
          refine lv_iconst (v := 2) hx hb dL_law_226 (by decide) ?_
          refine lv_iadd hx hb dL_law_227 ?_
          refine hp_c (v := 2) (by decide) ?_
          refine va_sld hx hb hX hbl hbA hS (by unfold vp_in; decide) dL_law_228 ?_
          refine hp_c (v := xs 2) rfl ?_
          refine lv_aload_n hx hb dL_law_229 rfl (lv_at hl9 4 rfl) ?_
          refine lv_iload hx hb dL_law_230 (lv_at hl9 0 rfl) ?_
          refine lv_iconst (v := 3) hx hb dL_law_232 (by decide) ?_
          refine lv_iadd hx hb dL_law_233 ?_
          refine hp_c (v := 3) (by decide) ?_
          refine va_sld hx hb hX hbl hbA hS (by unfold vp_in; decide) dL_law_234 ?_
          refine hp_c (v := xs 3) rfl ?_
          refine lv_aload_n hx hb dL_law_235 rfl (lv_at hl9 1 rfl) ?_
          have h159 : f27 q1 = some (.inr (4, [.ref ez, .ref eo, .ref bu])) := by rw [ef27, va_up_ne _ _ (hnew h6 w26)]; exact h6
          have n161 : q1 ≠ q25 := hnew h6 w26
          have h160 : f29 q1 = some (.inr (4, [.ref ez, .ref eo, .ref bu])) := k53 _ _ h159 (ninc n161 nin0)
          have h162 : f56 q1 = some (.inr (4, [.ref ez, .ref eo, .ref bu])) := by rw [ef56, va_up_ne _ _ (hnew h160 w55)]; exact h160
          have h163 : f27 ez = some (.inr (1, [.ref nw0, .ref na0, .ref nq0, .ref nr0, .int 1, .int 0, .int 0, .int 0, .int (-1), .int 0, .int 0])) := by rw [ef27, va_up_ne _ _ (hnew h7 w26)]; exact h7
          have n165 : ez ≠ q25 := hnew h7 w26
          have h164 : f29 ez = some (.inr (1, [.ref nw0, .ref na0, .ref nq0, .ref nr0, .int 1, .int 0, .int 0, .int 0, .int (-1), .int 0, .int 0])) := k53 _ _ h163 (ninc n165 nin0)
          have h166 : f56 ez = some (.inr (1, [.ref nw0, .ref na0, .ref nq0, .ref nr0, .int 1, .int 0, .int 0, .int 0, .int (-1), .int 0, .int 0])) := by rw [ef56, va_up_ne _ _ (hnew h164 w55)]; exact h164
          have h167 : f27 nw0 = some (.inl (cI G, 6, .inl (fun j => if j < 6 then (-1) else (fun _ => 0) j))) := by rw [ef27, va_up_ne _ _ (hnew h8 w26)]; exact h8
          have n169 : nw0 ≠ q25 := hnew h8 w26
          have h168 : f29 nw0 = some (.inl (cI G, 6, .inl (fun j => if j < 6 then (-1) else (fun _ => 0) j))) := k53 _ _ h167 (ninc n169 nin0)
          have h170 : f56 nw0 = some (.inl (cI G, 6, .inl (fun j => if j < 6 then (-1) else (fun _ => 0) j))) := by rw [ef56, va_up_ne _ _ (hnew h168 w55)]; exact h168
          have h171 : f27 na0 = some (.inl (cI G, 6, .inl (fun _ => 0))) := by rw [ef27, va_up_ne _ _ (hnew h9 w26)]; exact h9
          have n173 : na0 ≠ q25 := hnew h9 w26
          have h172 : f29 na0 = some (.inl (cI G, 6, .inl (fun _ => 0))) := k53 _ _ h171 (ninc n173 nin0)
          have h174 : f56 na0 = some (.inl (cI G, 6, .inl (fun _ => 0))) := by rw [ef56, va_up_ne _ _ (hnew h172 w55)]; exact h172
          have h175 : f27 nq0 = some (.inl (cI G, 6, .inl (fun j => if j < 6 then (-1) else (fun _ => 0) j))) := by rw [ef27, va_up_ne _ _ (hnew h10 w26)]; exact h10
          have n177 : nq0 ≠ q25 := hnew h10 w26
          have h176 : f29 nq0 = some (.inl (cI G, 6, .inl (fun j => if j < 6 then (-1) else (fun _ => 0) j))) := k53 _ _ h175 (ninc n177 nin0)
          have h178 : f56 nq0 = some (.inl (cI G, 6, .inl (fun j => if j < 6 then (-1) else (fun _ => 0) j))) := by rw [ef56, va_up_ne _ _ (hnew h176 w55)]; exact h176
          have h179 : f27 nr0 = some (.inr (3, [.null, .null, .int 0])) := by rw [ef27, va_up_ne _ _ (hnew h11 w26)]; exact h11
          have n181 : nr0 ≠ q25 := hnew h11 w26
          have h180 : f29 nr0 = some (.inr (3, [.null, .null, .int 0])) := k53 _ _ h179 (ninc n181 nin0)
          have h182 : f56 nr0 = some (.inr (3, [.null, .null, .int 0])) := by rw [ef56, va_up_ne _ _ (hnew h180 w55)]; exact h180
          have h183 : f27 eo = some (.inr (1, [.ref nw1, .ref na1, .ref nq1, .ref nr1, .int 2, .int 0, .int 0, .int 0, .int (-1), .int 0, .int 0])) := by rw [ef27, va_up_ne _ _ (hnew h12 w26)]; exact h12
          have n185 : eo ≠ q25 := hnew h12 w26
          have h184 : f29 eo = some (.inr (1, [.ref nw1, .ref na1, .ref nq1, .ref nr1, .int 2, .int 0, .int 0, .int 0, .int (-1), .int 0, .int 0])) := k53 _ _ h183 (ninc n185 nin0)
          have h186 : f56 eo = some (.inr (1, [.ref nw1, .ref na1, .ref nq1, .ref nr1, .int 2, .int 0, .int 0, .int 0, .int (-1), .int 0, .int 0])) := by rw [ef56, va_up_ne _ _ (hnew h184 w55)]; exact h184
          have h187 : f27 nw1 = some (.inl (cI G, 6, .inl (fun j => if j < 6 then (-1) else (fun _ => 0) j))) := by rw [ef27, va_up_ne _ _ (hnew h13 w26)]; exact h13
          have n189 : nw1 ≠ q25 := hnew h13 w26
          have h188 : f29 nw1 = some (.inl (cI G, 6, .inl (fun j => if j < 6 then (-1) else (fun _ => 0) j))) := k53 _ _ h187 (ninc n189 nin0)
          have h190 : f56 nw1 = some (.inl (cI G, 6, .inl (fun j => if j < 6 then (-1) else (fun _ => 0) j))) := by rw [ef56, va_up_ne _ _ (hnew h188 w55)]; exact h188
          have h191 : f27 na1 = some (.inl (cI G, 6, .inl (fun _ => 0))) := by rw [ef27, va_up_ne _ _ (hnew h14 w26)]; exact h14
          have n193 : na1 ≠ q25 := hnew h14 w26
          have h192 : f29 na1 = some (.inl (cI G, 6, .inl (fun _ => 0))) := k53 _ _ h191 (ninc n193 nin0)
          have h194 : f56 na1 = some (.inl (cI G, 6, .inl (fun _ => 0))) := by rw [ef56, va_up_ne _ _ (hnew h192 w55)]; exact h192
          have h195 : f27 nq1 = some (.inl (cI G, 6, .inl (fun j => if j < 6 then (-1) else (fun _ => 0) j))) := by rw [ef27, va_up_ne _ _ (hnew h15 w26)]; exact h15
          have n197 : nq1 ≠ q25 := hnew h15 w26
          have h196 : f29 nq1 = some (.inl (cI G, 6, .inl (fun j => if j < 6 then (-1) else (fun _ => 0) j))) := k53 _ _ h195 (ninc n197 nin0)
          have h198 : f56 nq1 = some (.inl (cI G, 6, .inl (fun j => if j < 6 then (-1) else (fun _ => 0) j))) := by rw [ef56, va_up_ne _ _ (hnew h196 w55)]; exact h196
          have h199 : f27 nr1 = some (.inr (3, [.null, .null, .int 0])) := by rw [ef27, va_up_ne _ _ (hnew h16 w26)]; exact h16
          have n201 : nr1 ≠ q25 := hnew h16 w26
          have h200 : f29 nr1 = some (.inr (3, [.null, .null, .int 0])) := k53 _ _ h199 (ninc n201 nin0)
          have h202 : f56 nr1 = some (.inr (3, [.null, .null, .int 0])) := by rw [ef56, va_up_ne _ _ (hnew h200 w55)]; exact h200
          have h203 : f27 bu = some (.inr (0, [.ref bs, .ref bp, .ref bh, .ref bf, .ref bl, .ref bg, .int 0, .int 0, .int 0])) := by rw [ef27, va_up_ne _ _ (hnew h17 w26)]; exact h17
          have n205 : bu ≠ q25 := hnew h17 w26
          have h204 : f29 bu = some (.inr (0, [.ref bs, .ref bp, .ref bh, .ref bf, .ref bl, .ref bg, .int 0, .int 0, .int 0])) := k53 _ _ h203 (ninc n205 nin0)
          have h206 : f56 bu = some (.inr (0, [.ref bs, .ref bp, .ref bh, .ref bf, .ref bl, .ref bg, .int 0, .int 0, .int 0])) := by rw [ef56, va_up_ne _ _ (hnew h204 w55)]; exact h204
          have h207 : f27 bs = some (.inl (cI G, 61, .inl (fun _ => 0))) := by rw [ef27, va_up_ne _ _ (hnew h18 w26)]; exact h18
          have n209 : bs ≠ q25 := hnew h18 w26
          have h208 : f29 bs = some (.inl (cI G, 61, .inl (fun _ => 0))) := k53 _ _ h207 (ninc n209 nin0)
          have h210 : f56 bs = some (.inl (cI G, 61, .inl (fun _ => 0))) := by rw [ef56, va_up_ne _ _ (hnew h208 w55)]; exact h208
          have h211 : f27 bp = some (.inl (cI G, 240, .inl (fun _ => 0))) := by rw [ef27, va_up_ne _ _ (hnew h19 w26)]; exact h19
          have n213 : bp ≠ q25 := hnew h19 w26
          have h212 : f29 bp = some (.inl (cI G, 240, .inl (fun _ => 0))) := k53 _ _ h211 (ninc n213 nin0)
          have h214 : f56 bp = some (.inl (cI G, 240, .inl (fun _ => 0))) := by rw [ef56, va_up_ne _ _ (hnew h212 w55)]; exact h212
          have h215 : f27 bh = some (.inl (cZ G, 240, .inl (fun _ => 0))) := by rw [ef27, va_up_ne _ _ (hnew h20 w26)]; exact h20
          have n217 : bh ≠ q25 := hnew h20 w26
          have h216 : f29 bh = some (.inl (cZ G, 240, .inl (fun _ => 0))) := k53 _ _ h215 (ninc n217 nin0)
          have h218 : f56 bh = some (.inl (cZ G, 240, .inl (fun _ => 0))) := by rw [ef56, va_up_ne _ _ (hnew h216 w55)]; exact h216
          have h219 : f27 bf = some (.inl (cI G, 3, .inl (upd (upd (upd (fun _ => 0) (0 : Int32).toNatClampNeg 0) (1 : Int32).toNatClampNeg 1) (2 : Int32).toNatClampNeg 2))) := by rw [ef27, va_up_ne _ _ (hnew h21 w26)]; exact h21
          have n221 : bf ≠ q25 := hnew h21 w26
          have h220 : f29 bf = some (.inl (cI G, 3, .inl (upd (upd (upd (fun _ => 0) (0 : Int32).toNatClampNeg 0) (1 : Int32).toNatClampNeg 1) (2 : Int32).toNatClampNeg 2))) := k53 _ _ h219 (ninc n221 nin0)
          have h222 : f56 bf = some (.inl (cI G, 3, .inl (upd (upd (upd (fun _ => 0) (0 : Int32).toNatClampNeg 0) (1 : Int32).toNatClampNeg 1) (2 : Int32).toNatClampNeg 2))) := by rw [ef56, va_up_ne _ _ (hnew h220 w55)]; exact h220
          have h223 : f27 bl = some (.inl (cI G, 3, .inl (fun j => if j < 3 then (-1) else (fun _ => 0) j))) := by rw [ef27, va_up_ne _ _ (hnew h22 w26)]; exact h22
          have n225 : bl ≠ q25 := hnew h22 w26
          have h224 : f29 bl = some (.inl (cI G, 3, .inl (fun j => if j < 3 then (-1) else (fun _ => 0) j))) := k53 _ _ h223 (ninc n225 nin0)
          have h226 : f56 bl = some (.inl (cI G, 3, .inl (fun j => if j < 3 then (-1) else (fun _ => 0) j))) := by rw [ef56, va_up_ne _ _ (hnew h224 w55)]; exact h224
          have h227 : f27 bg = some (.inl (cI G, 60, .inl (fun _ => 0))) := by rw [ef27, va_up_ne _ _ (hnew h23 w26)]; exact h23
          have n229 : bg ≠ q25 := hnew h23 w26
          have h228 : f29 bg = some (.inl (cI G, 60, .inl (fun _ => 0))) := k53 _ _ h227 (ninc n229 nin0)
          have h230 : f56 bg = some (.inl (cI G, 60, .inl (fun _ => 0))) := by rw [ef56, va_up_ne _ _ (hnew h228 w55)]; exact h228
          have n231 : bp ≠ q54 := hnew h212 w55
          have n232 : bs ≠ q54 := hnew h208 w55
          have n233 : nq1 ≠ q54 := hnew h196 w55
          have n234 : nq0 ≠ q54 := hnew h176 w55
          have n235 : na1 ≠ q54 := hnew h192 w55
          have n236 : na0 ≠ q54 := hnew h172 w55
          have n237 : nw1 ≠ q54 := hnew h188 w55
          have n238 : nw0 ≠ q54 := hnew h168 w55
          refine hp_SH (As := [.ref q1, .int (xs 1), .int (xs 2), .int (xs 3), .ref q54]) (rest := []) B0 hw hS (c_L_allow hl G f56 q1 ez eo bu nw0 na0 nq0 nr0 nw1 na1 nq1 nr1 bs bp bh bf bl bg q54 ⟨h162, h166, h170, h174, h178, h182, h186, h190, h194, h198, h202, h206, h210, h214, h218, h222, h226, h230, n_wq0, n_wq1, n_sp⟩ (ninc (Ne.symm n238) (ninc (Ne.symm n237) (ninc (Ne.symm n236) (ninc (Ne.symm n235) (ninc (Ne.symm n234) (ninc (Ne.symm n233) (ninc (Ne.symm n232) (ninc (Ne.symm n231) nin0)))))))) h57 (xs 1) (xs 2) (xs 3)) mH_L_allow qM_L_90 rfl rfl hl9.1 (Nat.le_of_ble_eq_true rfl) ⟨⟨Nat.le_of_ble_eq_true rfl, Nat.le_of_ble_eq_true rfl⟩, Nat.le_of_ble_eq_true rfl, Nat.le_of_ble_eq_true rfl⟩ dL_law_236 (fun E ce q9 f239 H locs hPX hw hS hce hcv hcl => ?_) (fun v f239 H locs hP hw hS => ?_)
          · exact hPX.elim
          · obtain ⟨ev9, h240, k241⟩ := hP
            subst ev9
            refine W.eq (g2 := F0 m 239 ls [.int (spc (sE (xs 1) ∧ sO (xs 2)) (sA (xs 3)))]) rfl ?_
            refine lv_istore (lv' := [(5, .int (spc (sE (xs 1) ∧ sO (xs 2)) (sA (xs 3)))), (4, .int 0), (3, .ref q54), (2, .ref q25), (1, .ref q1), (0, .ref b)]) hx hb dL_law_239 hl9 (by decide) rfl (fun ls hl9 => ?_)
            refine lv_aload_n hx hb dL_law_241 rfl (lv_at hl9 3 rfl) ?_
            refine lv_aload_n hx hb dL_law_242 rfl (lv_at hl9 5 rfl) ?_
            refine lv_iload hx hb dL_law_243 (lv_at hl9 1 rfl) ?_
            refine lv_iconst (v := 1) hx hb dL_law_245 (by decide) ?_
            refine lv_iadd hx hb dL_law_246 ?_
            refine hp_c (v := 1) (by decide) ?_
            refine va_sld hx hb hX hbl hbA hS (by unfold vp_in; decide) dL_law_247 ?_
            refine hp_c (v := xs 1) rfl ?_
            refine lv_aload_n hx hb dL_law_248 rfl (lv_at hl9 5 rfl) ?_
            refine lv_iload hx hb dL_law_249 (lv_at hl9 1 rfl) ?_
            refine lv_iconst (v := 2) hx hb dL_law_251 (by decide) ?_
            refine lv_iadd hx hb dL_law_252 ?_
            refine hp_c (v := 2) (by decide) ?_
            refine va_sld hx hb hX hbl hbA hS (by unfold vp_in; decide) dL_law_253 ?_
            refine hp_c (v := xs 2) rfl ?_
            refine lv_aload_n hx hb dL_law_254 rfl (lv_at hl9 5 rfl) ?_
            refine lv_iload hx hb dL_law_255 (lv_at hl9 1 rfl) ?_
            refine lv_iconst (v := 3) hx hb dL_law_257 (by decide) ?_
            refine lv_iadd hx hb dL_law_258 ?_
            refine hp_c (v := 3) (by decide) ?_
            refine va_sld hx hb hX hbl hbA hS (by unfold vp_in; decide) dL_law_259 ?_
            refine hp_c (v := xs 3) rfl ?_
            have h242 : f56 q25 = some (.inr (5, [.int 0, .ref dW, .ref dA, .ref dQ, .ref dM, .ref dS, .ref dL, .ref dR, .ref dT, .ref dZ, .ref dI, .ref dH, .ref dN, .ref dK, .ref dJ, .ref dU, .ref dO, .int 0, .int 0, .ref dF, .ref dP, .ref dE, .ref dX, .ref dY, .int 0, .int 0, .ref dG])) := by rw [ef56, va_up_ne _ _ (hnew h30 w55)]; exact h30
            have n244 : q25 ≠ q54 := hnew h30 w55
            have h243 : f239 q25 = some (.inr (5, [.int 0, .ref dW, .ref dA, .ref dQ, .ref dM, .ref dS, .ref dL, .ref dR, .ref dT, .ref dZ, .ref dI, .ref dH, .ref dN, .ref dK, .ref dJ, .ref dU, .ref dO, .int 0, .int 0, .ref dF, .ref dP, .ref dE, .ref dX, .ref dY, .int 0, .int 0, .ref dG])) := k241 _ _ h242 (ninc (Ne.symm n173) (ninc (Ne.symm n193) (ninc n244 nin0)))
            have h245 : f56 dA = some (.inl (cI G, 12, .inl (fun _ => 0))) := by rw [ef56, va_up_ne _ _ (hnew h32 w55)]; exact h32
            have n247 : dA ≠ q54 := hnew h32 w55
            have n248 : na1 ≠ dA := hnew h191 wdA
            have n249 : na0 ≠ dA := hnew h171 wdA
            have h246 : f239 dA = some (.inl (cI G, 12, .inl (fun _ => 0))) := k241 _ _ h245 (ninc (Ne.symm n249) (ninc (Ne.symm n248) (ninc n247 nin0)))
            refine hp_V (ci := 5) (As := [.int (xs 1), .int (xs 2), .int (xs 3)]) (rest := []) B0 hw hS (c_X5_allow0 hl G f239 q25 dW dA dQ dM dS dL dR dT dZ dI dH dN dK dJ dU dO dF dP dE dX dY dG 0 h243 h246  (xs 1) (xs 2) (xs 3)) mV_X5_allow qM_L_92 rfl h243 rfl rfl hl9.1 (Nat.le_of_ble_eq_true rfl) ⟨⟨Nat.le_of_ble_eq_true rfl, Nat.le_of_ble_eq_true rfl⟩, Nat.le_of_ble_eq_true rfl, Nat.le_of_ble_eq_true rfl⟩ dL_law_260 (fun E ce q9 f250 H locs hPX hw hS hce hcv hcl => ?_) (fun v f250 H locs hP hw hS => ?_)
            · exact hPX.elim
            · obtain ⟨⟨r251, ev9, h252⟩, ⟨c253, h254⟩, k255⟩ := hP
              subst ev9
              refine W.eq (g2 := F0 m 263 ls [.int r251]) rfl ?_
              refine lv_istore (lv' := [(6, .int r251), (5, .int (spc (sE (xs 1) ∧ sO (xs 2)) (sA (xs 3)))), (4, .int 0), (3, .ref q54), (2, .ref q25), (1, .ref q1), (0, .ref b)]) hx hb dL_law_263 hl9 (by decide) rfl (fun ls hl9 => ?_)
              refine lv_aload_n hx hb dL_law_265 rfl (lv_at hl9 4 rfl) ?_
              refine hp_V (ci := 5) (As := []) (rest := []) B0 hw hS (c_X5_thrown hl G f250 q25 (spc (sE (xs 1) ∧ sO (xs 2)) (sA (xs 3))) c253 h254) mV_X5_thrown qM_L_86 rfl h254 rfl rfl hl9.1 (Nat.le_of_ble_eq_true rfl) ⟨⟨Nat.le_of_ble_eq_true rfl, Nat.le_of_ble_eq_true rfl⟩, Nat.le_of_ble_eq_true rfl, Nat.le_of_ble_eq_true rfl⟩ dL_law_266 (fun E ce q9 f256 H locs hPX hw hS hce hcv hcl => ?_) (fun v f256 H locs hP hw hS => ?_)
              · exact hPX.elim
              · obtain ⟨ev9, ef9⟩ := hP
                rw [ef9] at hw
                subst ev9
                refine W.eq (g2 := F0 m 269 ls [.int (spc (sE (xs 1) ∧ sO (xs 2)) (sA (xs 3)))]) rfl ?_
                refine lv_iload hx hb dL_law_269 (lv_at hl9 1 rfl) ?_
                refine lv_icmp_eq (tgt := 276) hx hb dL_law_271 (by decide) (fun _ => ?_) (fun c9 => absurd rfl c9)
                refine lv_iload hx hb dL_law_276 (lv_at hl9 1 rfl) ?_
                refine lv_if_ne (tgt := 293) hx hb dL_law_278 (by decide) (fun c257 => ?_) (fun c257 => ?_)
                · refine lv_goto (tgt := 1305) hx hb dL_law_293 (by decide) ?_
                  refine lv_iinc (v := 4) (lv' := [(4, .int 4), (6, .int r251), (5, .int (spc (sE (xs 1) ∧ sO (xs 2)) (sA (xs 3)))), (3, .ref q54), (2, .ref q25), (1, .ref q1), (0, .ref b)]) hx hb dL_law_1305 hl9 (k := 2) rfl (by decide) (by decide) rfl (fun ls hl9 => ?_)
                  refine lv_goto (tgt := 23) hx hb dL_law_1308 (by decide) ?_
                  refine lv_iload hx hb dL_law_23 (lv_at hl9 0 rfl) ?_
                  refine lv_aload_n hx hb dL_law_25 rfl (lv_at hl9 6 rfl) ?_
                  refine va_slen hx hb hX hbl hbA hS dL_law_26 ?_
                  refine hp_c (v := 4) rfl ?_
                  refine lv_iconst (v := 4) hx hb dL_law_27 (by decide) ?_
                  refine lv_isub hx hb dL_law_28 ?_
                  refine hp_c (v := 0) (by decide) ?_
                  refine lv_icmp_gt (tgt := 1311) hx hb dL_law_29 (by decide) (fun _ => ?_) (fun c9 => absurd (by decide) c9)
                  refine lv_iconst (v := 1) hx hb dL_law_1311 (by decide) ?_
                  refine va_forget (fun q hq => hFs _ (hS.2.2 q hq)) ?_
                  refine W.widen (k := 600002) (n := 7302232) (Nat.le_of_ble_eq_true rfl) (Nat.le_of_ble_eq_true rfl) ?_
                  exact lw_ret hx hb hr hlocks dL_law_1312
                · refine lv_aload_n hx hb dL_law_281 rfl (lv_at hl9 3 rfl) ?_
                  refine lv_iconst (v := 0) hx hb dL_law_282 (by decide) ?_
                  have h258 : f239 q54 = some (.inl (cJ G, 1, .inr (.inl (vp_updL (fun _ => 0) (0 : Int32).toNatClampNeg ((0 : Int32).toInt64))))) := h240 c257
                  have h259 : f250 q54 = some (.inl (cJ G, 1, .inr (.inl (vp_updL (fun _ => 0) (0 : Int32).toNatClampNeg ((0 : Int32).toInt64))))) := k255 _ _ h258 (ninc (Ne.symm n244) (ninc (Ne.symm n247) nin0))
                  refine hp_lald B0 hw h259 (by unfold vp_in; decide) dL_law_283 ?_
                  refine lv_iload hx hb dL_law_284 (lv_at hl9 0 rfl) ?_
                  refine lv_i2l (v := (r251 : Int32).toInt64) hx hb dL_law_286 rfl ?_
                  refine W.lcmp hx hb dL_law_287 ?_
                  refine lv_if_eq (tgt := 293) hx hb dL_law_288 (by decide) (fun _ => ?_) (fun c9 => absurd (lg_eq0 (by have h9 := h252 c257; subst h9; rfl)) c9)
                  refine lv_goto (tgt := 1305) hx hb dL_law_293 (by decide) ?_
                  refine lv_iinc (v := 4) (lv' := [(4, .int 4), (6, .int r251), (5, .int (spc (sE (xs 1) ∧ sO (xs 2)) (sA (xs 3)))), (3, .ref q54), (2, .ref q25), (1, .ref q1), (0, .ref b)]) hx hb dL_law_1305 hl9 (k := 2) rfl (by decide) (by decide) rfl (fun ls hl9 => ?_)
                  refine lv_goto (tgt := 23) hx hb dL_law_1308 (by decide) ?_
                  refine lv_iload hx hb dL_law_23 (lv_at hl9 0 rfl) ?_
                  refine lv_aload_n hx hb dL_law_25 rfl (lv_at hl9 6 rfl) ?_
                  refine va_slen hx hb hX hbl hbA hS dL_law_26 ?_
                  refine hp_c (v := 4) rfl ?_
                  refine lv_iconst (v := 4) hx hb dL_law_27 (by decide) ?_
                  refine lv_isub hx hb dL_law_28 ?_
                  refine hp_c (v := 0) (by decide) ?_
                  refine lv_icmp_gt (tgt := 1311) hx hb dL_law_29 (by decide) (fun _ => ?_) (fun c9 => absurd (by decide) c9)
                  refine lv_iconst (v := 1) hx hb dL_law_1311 (by decide) ?_
                  refine va_forget (fun q hq => hFs _ (hS.2.2 q hq)) ?_
                  refine W.widen (k := 600002) (n := 7302232) (Nat.le_of_ble_eq_true rfl) (Nat.le_of_ble_eq_true rfl) ?_
                  exact lw_ret hx hb hr hlocks dL_law_1312
        · refine lv_tableIn (off := 257) (tgt := 296) hx hb dL_law_39 (by decide) (by decide) (by decide) (by decide) ?_
          refine lv_aload_n hx hb dL_law_296 rfl (lv_at hl9 3 rfl) ?_
          refine lv_aload_n hx hb dL_law_297 rfl (lv_at hl9 4 rfl) ?_
          refine lv_iload hx hb dL_law_298 (lv_at hl9 0 rfl) ?_
          refine lv_iconst (v := 1) hx hb dL_law_300 (by decide) ?_
          refine lv_iadd hx hb dL_law_301 ?_
          refine hp_c (v := 1) (by decide) ?_
          refine va_sld hx hb hX hbl hbA hS (by unfold vp_in; decide) dL_law_302 ?_
          refine hp_c (v := xs 1) rfl ?_
          refine lv_aload_n hx hb dL_law_303 rfl (lv_at hl9 4 rfl) ?_
          refine lv_iload hx hb dL_law_304 (lv_at hl9 0 rfl) ?_
          refine lv_iconst (v := 2) hx hb dL_law_306 (by decide) ?_
          refine lv_iadd hx hb dL_law_307 ?_
          refine hp_c (v := 2) (by decide) ?_
          refine va_sld hx hb hX hbl hbA hS (by unfold vp_in; decide) dL_law_308 ?_
          refine hp_c (v := xs 2) rfl ?_
          refine lv_aload_n hx hb dL_law_309 rfl (lv_at hl9 1 rfl) ?_
          have h260 : f27 q1 = some (.inr (4, [.ref ez, .ref eo, .ref bu])) := by rw [ef27, va_up_ne _ _ (hnew h6 w26)]; exact h6
          have n262 : q1 ≠ q25 := hnew h6 w26
          have h261 : f29 q1 = some (.inr (4, [.ref ez, .ref eo, .ref bu])) := k53 _ _ h260 (ninc n262 nin0)
          have h263 : f56 q1 = some (.inr (4, [.ref ez, .ref eo, .ref bu])) := by rw [ef56, va_up_ne _ _ (hnew h261 w55)]; exact h261
          have h264 : f27 ez = some (.inr (1, [.ref nw0, .ref na0, .ref nq0, .ref nr0, .int 1, .int 0, .int 0, .int 0, .int (-1), .int 0, .int 0])) := by rw [ef27, va_up_ne _ _ (hnew h7 w26)]; exact h7
          have n266 : ez ≠ q25 := hnew h7 w26
          have h265 : f29 ez = some (.inr (1, [.ref nw0, .ref na0, .ref nq0, .ref nr0, .int 1, .int 0, .int 0, .int 0, .int (-1), .int 0, .int 0])) := k53 _ _ h264 (ninc n266 nin0)
          have h267 : f56 ez = some (.inr (1, [.ref nw0, .ref na0, .ref nq0, .ref nr0, .int 1, .int 0, .int 0, .int 0, .int (-1), .int 0, .int 0])) := by rw [ef56, va_up_ne _ _ (hnew h265 w55)]; exact h265
          have h268 : f27 nw0 = some (.inl (cI G, 6, .inl (fun j => if j < 6 then (-1) else (fun _ => 0) j))) := by rw [ef27, va_up_ne _ _ (hnew h8 w26)]; exact h8
          have n270 : nw0 ≠ q25 := hnew h8 w26
          have h269 : f29 nw0 = some (.inl (cI G, 6, .inl (fun j => if j < 6 then (-1) else (fun _ => 0) j))) := k53 _ _ h268 (ninc n270 nin0)
          have h271 : f56 nw0 = some (.inl (cI G, 6, .inl (fun j => if j < 6 then (-1) else (fun _ => 0) j))) := by rw [ef56, va_up_ne _ _ (hnew h269 w55)]; exact h269
          have h272 : f27 na0 = some (.inl (cI G, 6, .inl (fun _ => 0))) := by rw [ef27, va_up_ne _ _ (hnew h9 w26)]; exact h9
          have n274 : na0 ≠ q25 := hnew h9 w26
          have h273 : f29 na0 = some (.inl (cI G, 6, .inl (fun _ => 0))) := k53 _ _ h272 (ninc n274 nin0)
          have h275 : f56 na0 = some (.inl (cI G, 6, .inl (fun _ => 0))) := by rw [ef56, va_up_ne _ _ (hnew h273 w55)]; exact h273
          have h276 : f27 nq0 = some (.inl (cI G, 6, .inl (fun j => if j < 6 then (-1) else (fun _ => 0) j))) := by rw [ef27, va_up_ne _ _ (hnew h10 w26)]; exact h10
          have n278 : nq0 ≠ q25 := hnew h10 w26
          have h277 : f29 nq0 = some (.inl (cI G, 6, .inl (fun j => if j < 6 then (-1) else (fun _ => 0) j))) := k53 _ _ h276 (ninc n278 nin0)
          have h279 : f56 nq0 = some (.inl (cI G, 6, .inl (fun j => if j < 6 then (-1) else (fun _ => 0) j))) := by rw [ef56, va_up_ne _ _ (hnew h277 w55)]; exact h277
          have h280 : f27 nr0 = some (.inr (3, [.null, .null, .int 0])) := by rw [ef27, va_up_ne _ _ (hnew h11 w26)]; exact h11
          have n282 : nr0 ≠ q25 := hnew h11 w26
          have h281 : f29 nr0 = some (.inr (3, [.null, .null, .int 0])) := k53 _ _ h280 (ninc n282 nin0)
          have h283 : f56 nr0 = some (.inr (3, [.null, .null, .int 0])) := by rw [ef56, va_up_ne _ _ (hnew h281 w55)]; exact h281
          have h284 : f27 eo = some (.inr (1, [.ref nw1, .ref na1, .ref nq1, .ref nr1, .int 2, .int 0, .int 0, .int 0, .int (-1), .int 0, .int 0])) := by rw [ef27, va_up_ne _ _ (hnew h12 w26)]; exact h12
          have n286 : eo ≠ q25 := hnew h12 w26
          have h285 : f29 eo = some (.inr (1, [.ref nw1, .ref na1, .ref nq1, .ref nr1, .int 2, .int 0, .int 0, .int 0, .int (-1), .int 0, .int 0])) := k53 _ _ h284 (ninc n286 nin0)
          have h287 : f56 eo = some (.inr (1, [.ref nw1, .ref na1, .ref nq1, .ref nr1, .int 2, .int 0, .int 0, .int 0, .int (-1), .int 0, .int 0])) := by rw [ef56, va_up_ne _ _ (hnew h285 w55)]; exact h285
          have h288 : f27 nw1 = some (.inl (cI G, 6, .inl (fun j => if j < 6 then (-1) else (fun _ => 0) j))) := by rw [ef27, va_up_ne _ _ (hnew h13 w26)]; exact h13
          have n290 : nw1 ≠ q25 := hnew h13 w26
          have h289 : f29 nw1 = some (.inl (cI G, 6, .inl (fun j => if j < 6 then (-1) else (fun _ => 0) j))) := k53 _ _ h288 (ninc n290 nin0)
          have h291 : f56 nw1 = some (.inl (cI G, 6, .inl (fun j => if j < 6 then (-1) else (fun _ => 0) j))) := by rw [ef56, va_up_ne _ _ (hnew h289 w55)]; exact h289
          have h292 : f27 na1 = some (.inl (cI G, 6, .inl (fun _ => 0))) := by rw [ef27, va_up_ne _ _ (hnew h14 w26)]; exact h14
          have n294 : na1 ≠ q25 := hnew h14 w26
          have h293 : f29 na1 = some (.inl (cI G, 6, .inl (fun _ => 0))) := k53 _ _ h292 (ninc n294 nin0)
          have h295 : f56 na1 = some (.inl (cI G, 6, .inl (fun _ => 0))) := by rw [ef56, va_up_ne _ _ (hnew h293 w55)]; exact h293
          have h296 : f27 nq1 = some (.inl (cI G, 6, .inl (fun j => if j < 6 then (-1) else (fun _ => 0) j))) := by rw [ef27, va_up_ne _ _ (hnew h15 w26)]; exact h15
          have n298 : nq1 ≠ q25 := hnew h15 w26
          have h297 : f29 nq1 = some (.inl (cI G, 6, .inl (fun j => if j < 6 then (-1) else (fun _ => 0) j))) := k53 _ _ h296 (ninc n298 nin0)
          have h299 : f56 nq1 = some (.inl (cI G, 6, .inl (fun j => if j < 6 then (-1) else (fun _ => 0) j))) := by rw [ef56, va_up_ne _ _ (hnew h297 w55)]; exact h297
          have h300 : f27 nr1 = some (.inr (3, [.null, .null, .int 0])) := by rw [ef27, va_up_ne _ _ (hnew h16 w26)]; exact h16
          have n302 : nr1 ≠ q25 := hnew h16 w26
          have h301 : f29 nr1 = some (.inr (3, [.null, .null, .int 0])) := k53 _ _ h300 (ninc n302 nin0)
          have h303 : f56 nr1 = some (.inr (3, [.null, .null, .int 0])) := by rw [ef56, va_up_ne _ _ (hnew h301 w55)]; exact h301
          have h304 : f27 bu = some (.inr (0, [.ref bs, .ref bp, .ref bh, .ref bf, .ref bl, .ref bg, .int 0, .int 0, .int 0])) := by rw [ef27, va_up_ne _ _ (hnew h17 w26)]; exact h17
          have n306 : bu ≠ q25 := hnew h17 w26
          have h305 : f29 bu = some (.inr (0, [.ref bs, .ref bp, .ref bh, .ref bf, .ref bl, .ref bg, .int 0, .int 0, .int 0])) := k53 _ _ h304 (ninc n306 nin0)
          have h307 : f56 bu = some (.inr (0, [.ref bs, .ref bp, .ref bh, .ref bf, .ref bl, .ref bg, .int 0, .int 0, .int 0])) := by rw [ef56, va_up_ne _ _ (hnew h305 w55)]; exact h305
          have h308 : f27 bs = some (.inl (cI G, 61, .inl (fun _ => 0))) := by rw [ef27, va_up_ne _ _ (hnew h18 w26)]; exact h18
          have n310 : bs ≠ q25 := hnew h18 w26
          have h309 : f29 bs = some (.inl (cI G, 61, .inl (fun _ => 0))) := k53 _ _ h308 (ninc n310 nin0)
          have h311 : f56 bs = some (.inl (cI G, 61, .inl (fun _ => 0))) := by rw [ef56, va_up_ne _ _ (hnew h309 w55)]; exact h309
          have h312 : f27 bp = some (.inl (cI G, 240, .inl (fun _ => 0))) := by rw [ef27, va_up_ne _ _ (hnew h19 w26)]; exact h19
          have n314 : bp ≠ q25 := hnew h19 w26
          have h313 : f29 bp = some (.inl (cI G, 240, .inl (fun _ => 0))) := k53 _ _ h312 (ninc n314 nin0)
          have h315 : f56 bp = some (.inl (cI G, 240, .inl (fun _ => 0))) := by rw [ef56, va_up_ne _ _ (hnew h313 w55)]; exact h313
          have h316 : f27 bh = some (.inl (cZ G, 240, .inl (fun _ => 0))) := by rw [ef27, va_up_ne _ _ (hnew h20 w26)]; exact h20
          have n318 : bh ≠ q25 := hnew h20 w26
          have h317 : f29 bh = some (.inl (cZ G, 240, .inl (fun _ => 0))) := k53 _ _ h316 (ninc n318 nin0)
          have h319 : f56 bh = some (.inl (cZ G, 240, .inl (fun _ => 0))) := by rw [ef56, va_up_ne _ _ (hnew h317 w55)]; exact h317
          have h320 : f27 bf = some (.inl (cI G, 3, .inl (upd (upd (upd (fun _ => 0) (0 : Int32).toNatClampNeg 0) (1 : Int32).toNatClampNeg 1) (2 : Int32).toNatClampNeg 2))) := by rw [ef27, va_up_ne _ _ (hnew h21 w26)]; exact h21
          have n322 : bf ≠ q25 := hnew h21 w26
          have h321 : f29 bf = some (.inl (cI G, 3, .inl (upd (upd (upd (fun _ => 0) (0 : Int32).toNatClampNeg 0) (1 : Int32).toNatClampNeg 1) (2 : Int32).toNatClampNeg 2))) := k53 _ _ h320 (ninc n322 nin0)
          have h323 : f56 bf = some (.inl (cI G, 3, .inl (upd (upd (upd (fun _ => 0) (0 : Int32).toNatClampNeg 0) (1 : Int32).toNatClampNeg 1) (2 : Int32).toNatClampNeg 2))) := by rw [ef56, va_up_ne _ _ (hnew h321 w55)]; exact h321
          have h324 : f27 bl = some (.inl (cI G, 3, .inl (fun j => if j < 3 then (-1) else (fun _ => 0) j))) := by rw [ef27, va_up_ne _ _ (hnew h22 w26)]; exact h22
          have n326 : bl ≠ q25 := hnew h22 w26
          have h325 : f29 bl = some (.inl (cI G, 3, .inl (fun j => if j < 3 then (-1) else (fun _ => 0) j))) := k53 _ _ h324 (ninc n326 nin0)
          have h327 : f56 bl = some (.inl (cI G, 3, .inl (fun j => if j < 3 then (-1) else (fun _ => 0) j))) := by rw [ef56, va_up_ne _ _ (hnew h325 w55)]; exact h325
          have h328 : f27 bg = some (.inl (cI G, 60, .inl (fun _ => 0))) := by rw [ef27, va_up_ne _ _ (hnew h23 w26)]; exact h23
          have n330 : bg ≠ q25 := hnew h23 w26
          have h329 : f29 bg = some (.inl (cI G, 60, .inl (fun _ => 0))) := k53 _ _ h328 (ninc n330 nin0)
          have h331 : f56 bg = some (.inl (cI G, 60, .inl (fun _ => 0))) := by rw [ef56, va_up_ne _ _ (hnew h329 w55)]; exact h329
          have n332 : bp ≠ q54 := hnew h313 w55
          have n333 : bs ≠ q54 := hnew h309 w55
          have n334 : nq1 ≠ q54 := hnew h297 w55
          have n335 : nq0 ≠ q54 := hnew h277 w55
          have n336 : na1 ≠ q54 := hnew h293 w55
          have n337 : na0 ≠ q54 := hnew h273 w55
          have n338 : nw1 ≠ q54 := hnew h289 w55
          have n339 : nw0 ≠ q54 := hnew h269 w55
          refine hp_SH (As := [.ref q1, .int (xs 1), .int (xs 2), .ref q54]) (rest := []) B0 hw hS (c_L_setMagic hl G f56 q1 ez eo bu nw0 na0 nq0 nr0 nw1 na1 nq1 nr1 bs bp bh bf bl bg q54 ⟨h263, h267, h271, h275, h279, h283, h287, h291, h295, h299, h303, h307, h311, h315, h319, h323, h327, h331, n_wq0, n_wq1, n_sp⟩ (ninc (Ne.symm n339) (ninc (Ne.symm n338) (ninc (Ne.symm n337) (ninc (Ne.symm n336) (ninc (Ne.symm n335) (ninc (Ne.symm n334) (ninc (Ne.symm n333) (ninc (Ne.symm n332) nin0)))))))) h57 (xs 1) (xs 2)) mH_L_setMagic qM_L_93 rfl rfl hl9.1 (Nat.le_of_ble_eq_true rfl) ⟨⟨Nat.le_of_ble_eq_true rfl, Nat.le_of_ble_eq_true rfl⟩, Nat.le_of_ble_eq_true rfl, Nat.le_of_ble_eq_true rfl⟩ dL_law_310 (fun E ce q9 f340 H locs hPX hw hS hce hcv hcl => ?_) (fun v f340 H locs hP hw hS => ?_)
          · exact hPX.elim
          · obtain ⟨ev9, h341, k342⟩ := hP
            subst ev9
            refine W.eq (g2 := F0 m 313 ls [.int (spc (sE (xs 1)) True)]) rfl ?_
            refine lv_istore (lv' := [(5, .int (spc (sE (xs 1)) True)), (4, .int 0), (3, .ref q54), (2, .ref q25), (1, .ref q1), (0, .ref b)]) hx hb dL_law_313 hl9 (by decide) rfl (fun ls hl9 => ?_)
            refine lv_aload_n hx hb dL_law_315 rfl (lv_at hl9 3 rfl) ?_
            refine lv_aload_n hx hb dL_law_316 rfl (lv_at hl9 5 rfl) ?_
            refine lv_iload hx hb dL_law_317 (lv_at hl9 1 rfl) ?_
            refine lv_iconst (v := 1) hx hb dL_law_319 (by decide) ?_
            refine lv_iadd hx hb dL_law_320 ?_
            refine hp_c (v := 1) (by decide) ?_
            refine va_sld hx hb hX hbl hbA hS (by unfold vp_in; decide) dL_law_321 ?_
            refine hp_c (v := xs 1) rfl ?_
            refine lv_aload_n hx hb dL_law_322 rfl (lv_at hl9 5 rfl) ?_
            refine lv_iload hx hb dL_law_323 (lv_at hl9 1 rfl) ?_
            refine lv_iconst (v := 2) hx hb dL_law_325 (by decide) ?_
            refine lv_iadd hx hb dL_law_326 ?_
            refine hp_c (v := 2) (by decide) ?_
            refine va_sld hx hb hX hbl hbA hS (by unfold vp_in; decide) dL_law_327 ?_
            refine hp_c (v := xs 2) rfl ?_
            have h343 : f56 q25 = some (.inr (5, [.int 0, .ref dW, .ref dA, .ref dQ, .ref dM, .ref dS, .ref dL, .ref dR, .ref dT, .ref dZ, .ref dI, .ref dH, .ref dN, .ref dK, .ref dJ, .ref dU, .ref dO, .int 0, .int 0, .ref dF, .ref dP, .ref dE, .ref dX, .ref dY, .int 0, .int 0, .ref dG])) := by rw [ef56, va_up_ne _ _ (hnew h30 w55)]; exact h30
            have n345 : q25 ≠ q54 := hnew h30 w55
            have h344 : f340 q25 = some (.inr (5, [.int 0, .ref dW, .ref dA, .ref dQ, .ref dM, .ref dS, .ref dL, .ref dR, .ref dT, .ref dZ, .ref dI, .ref dH, .ref dN, .ref dK, .ref dJ, .ref dU, .ref dO, .int 0, .int 0, .ref dF, .ref dP, .ref dE, .ref dX, .ref dY, .int 0, .int 0, .ref dG])) := k342 _ _ h343 (ninc (Ne.symm n266) (ninc (Ne.symm n286) (ninc n345 nin0)))
            have h346 : f56 dM = some (.inl (cI G, 2, .inl (mA2 1 2))) := by rw [ef56, va_up_ne _ _ (hnew h34 w55)]; exact h34
            have n348 : dM ≠ q54 := hnew h34 w55
            have n349 : eo ≠ dM := hnew h284 wdM
            have n350 : ez ≠ dM := hnew h264 wdM
            have h347 : f340 dM = some (.inl (cI G, 2, .inl (mA2 1 2))) := k342 _ _ h346 (ninc (Ne.symm n350) (ninc (Ne.symm n349) (ninc n348 nin0)))
            refine hp_V (ci := 5) (As := [.int (xs 1), .int (xs 2)]) (rest := []) B0 hw hS (c_X5_setMagic0 hl G f340 q25 dW dA dQ dM dS dL dR dT dZ dI dH dN dK dJ dU dO dF dP dE dX dY dG 0 h344 h347  (xs 1) (xs 2)) mV_X5_setMagic qM_L_96 rfl h344 rfl rfl hl9.1 (Nat.le_of_ble_eq_true rfl) ⟨⟨Nat.le_of_ble_eq_true rfl, Nat.le_of_ble_eq_true rfl⟩, Nat.le_of_ble_eq_true rfl, Nat.le_of_ble_eq_true rfl⟩ dL_law_328 (fun E ce q9 f351 H locs hPX hw hS hce hcv hcl => ?_) (fun v f351 H locs hP hw hS => ?_)
            · exact hPX.elim
            · obtain ⟨⟨r352, ev9, h353⟩, ⟨c354, h355⟩, k356⟩ := hP
              subst ev9
              refine W.eq (g2 := F0 m 331 ls [.int r352]) rfl ?_
              refine lv_istore (lv' := [(6, .int r352), (5, .int (spc (sE (xs 1)) True)), (4, .int 0), (3, .ref q54), (2, .ref q25), (1, .ref q1), (0, .ref b)]) hx hb dL_law_331 hl9 (by decide) rfl (fun ls hl9 => ?_)
              refine lv_aload_n hx hb dL_law_333 rfl (lv_at hl9 4 rfl) ?_
              refine hp_V (ci := 5) (As := []) (rest := []) B0 hw hS (c_X5_thrown hl G f351 q25 (spc (sE (xs 1)) True) c354 h355) mV_X5_thrown qM_L_86 rfl h355 rfl rfl hl9.1 (Nat.le_of_ble_eq_true rfl) ⟨⟨Nat.le_of_ble_eq_true rfl, Nat.le_of_ble_eq_true rfl⟩, Nat.le_of_ble_eq_true rfl, Nat.le_of_ble_eq_true rfl⟩ dL_law_334 (fun E ce q9 f357 H locs hPX hw hS hce hcv hcl => ?_) (fun v f357 H locs hP hw hS => ?_)
              · exact hPX.elim
              · obtain ⟨ev9, ef9⟩ := hP
                rw [ef9] at hw
                subst ev9
                refine W.eq (g2 := F0 m 337 ls [.int (spc (sE (xs 1)) True)]) rfl ?_
                refine lv_iload hx hb dL_law_337 (lv_at hl9 1 rfl) ?_
                refine lv_icmp_eq (tgt := 344) hx hb dL_law_339 (by decide) (fun _ => ?_) (fun c9 => absurd rfl c9)
                refine lv_iload hx hb dL_law_344 (lv_at hl9 1 rfl) ?_
                refine lv_if_ne (tgt := 361) hx hb dL_law_346 (by decide) (fun c358 => ?_) (fun c358 => ?_)
                · refine lv_goto (tgt := 1305) hx hb dL_law_361 (by decide) ?_
                  refine lv_iinc (v := 4) (lv' := [(4, .int 4), (6, .int r352), (5, .int (spc (sE (xs 1)) True)), (3, .ref q54), (2, .ref q25), (1, .ref q1), (0, .ref b)]) hx hb dL_law_1305 hl9 (k := 2) rfl (by decide) (by decide) rfl (fun ls hl9 => ?_)
                  refine lv_goto (tgt := 23) hx hb dL_law_1308 (by decide) ?_
                  refine lv_iload hx hb dL_law_23 (lv_at hl9 0 rfl) ?_
                  refine lv_aload_n hx hb dL_law_25 rfl (lv_at hl9 6 rfl) ?_
                  refine va_slen hx hb hX hbl hbA hS dL_law_26 ?_
                  refine hp_c (v := 4) rfl ?_
                  refine lv_iconst (v := 4) hx hb dL_law_27 (by decide) ?_
                  refine lv_isub hx hb dL_law_28 ?_
                  refine hp_c (v := 0) (by decide) ?_
                  refine lv_icmp_gt (tgt := 1311) hx hb dL_law_29 (by decide) (fun _ => ?_) (fun c9 => absurd (by decide) c9)
                  refine lv_iconst (v := 1) hx hb dL_law_1311 (by decide) ?_
                  refine va_forget (fun q hq => hFs _ (hS.2.2 q hq)) ?_
                  refine W.widen (k := 600002) (n := 7302232) (Nat.le_of_ble_eq_true rfl) (Nat.le_of_ble_eq_true rfl) ?_
                  exact lw_ret hx hb hr hlocks dL_law_1312
                · refine lv_aload_n hx hb dL_law_349 rfl (lv_at hl9 3 rfl) ?_
                  refine lv_iconst (v := 0) hx hb dL_law_350 (by decide) ?_
                  have h359 : f340 q54 = some (.inl (cJ G, 1, .inr (.inl (vp_updL (fun _ => 0) (0 : Int32).toNatClampNeg (((if (xs 1) = 0 then 1 else 2) : Int32).toInt64))))) := h341 c358
                  have h360 : f351 q54 = some (.inl (cJ G, 1, .inr (.inl (vp_updL (fun _ => 0) (0 : Int32).toNatClampNeg (((if (xs 1) = 0 then 1 else 2) : Int32).toInt64))))) := k356 _ _ h359 (ninc (Ne.symm n345) (ninc (Ne.symm n348) nin0))
                  refine hp_lald B0 hw h360 (by unfold vp_in; decide) dL_law_351 ?_
                  refine lv_iload hx hb dL_law_352 (lv_at hl9 0 rfl) ?_
                  refine lv_i2l (v := (r352 : Int32).toInt64) hx hb dL_law_354 rfl ?_
                  refine W.lcmp hx hb dL_law_355 ?_
                  refine lv_if_eq (tgt := 361) hx hb dL_law_356 (by decide) (fun _ => ?_) (fun c9 => absurd (lg_eq0 (by have h9 := h353 c358; subst h9; rfl)) c9)
                  refine lv_goto (tgt := 1305) hx hb dL_law_361 (by decide) ?_
                  refine lv_iinc (v := 4) (lv' := [(4, .int 4), (6, .int r352), (5, .int (spc (sE (xs 1)) True)), (3, .ref q54), (2, .ref q25), (1, .ref q1), (0, .ref b)]) hx hb dL_law_1305 hl9 (k := 2) rfl (by decide) (by decide) rfl (fun ls hl9 => ?_)
                  refine lv_goto (tgt := 23) hx hb dL_law_1308 (by decide) ?_
                  refine lv_iload hx hb dL_law_23 (lv_at hl9 0 rfl) ?_
                  refine lv_aload_n hx hb dL_law_25 rfl (lv_at hl9 6 rfl) ?_
                  refine va_slen hx hb hX hbl hbA hS dL_law_26 ?_
                  refine hp_c (v := 4) rfl ?_
                  refine lv_iconst (v := 4) hx hb dL_law_27 (by decide) ?_
                  refine lv_isub hx hb dL_law_28 ?_
                  refine hp_c (v := 0) (by decide) ?_
                  refine lv_icmp_gt (tgt := 1311) hx hb dL_law_29 (by decide) (fun _ => ?_) (fun c9 => absurd (by decide) c9)
                  refine lv_iconst (v := 1) hx hb dL_law_1311 (by decide) ?_
                  refine va_forget (fun q hq => hFs _ (hS.2.2 q hq)) ?_
                  refine W.widen (k := 600002) (n := 7302232) (Nat.le_of_ble_eq_true rfl) (Nat.le_of_ble_eq_true rfl) ?_
                  exact lw_ret hx hb hr hlocks dL_law_1312
        · refine lv_tableIn (off := 325) (tgt := 364) hx hb dL_law_39 (by decide) (by decide) (by decide) (by decide) ?_
          refine lv_aload_n hx hb dL_law_364 rfl (lv_at hl9 3 rfl) ?_
          refine lv_aload_n hx hb dL_law_365 rfl (lv_at hl9 4 rfl) ?_
          refine lv_iload hx hb dL_law_366 (lv_at hl9 0 rfl) ?_
          refine lv_iconst (v := 1) hx hb dL_law_368 (by decide) ?_
          refine lv_iadd hx hb dL_law_369 ?_
          refine hp_c (v := 1) (by decide) ?_
          refine va_sld hx hb hX hbl hbA hS (by unfold vp_in; decide) dL_law_370 ?_
          refine hp_c (v := xs 1) rfl ?_
          refine lv_aload_n hx hb dL_law_371 rfl (lv_at hl9 1 rfl) ?_
          have h361 : f27 q1 = some (.inr (4, [.ref ez, .ref eo, .ref bu])) := by rw [ef27, va_up_ne _ _ (hnew h6 w26)]; exact h6
          have n363 : q1 ≠ q25 := hnew h6 w26
          have h362 : f29 q1 = some (.inr (4, [.ref ez, .ref eo, .ref bu])) := k53 _ _ h361 (ninc n363 nin0)
          have h364 : f56 q1 = some (.inr (4, [.ref ez, .ref eo, .ref bu])) := by rw [ef56, va_up_ne _ _ (hnew h362 w55)]; exact h362
          have h365 : f27 ez = some (.inr (1, [.ref nw0, .ref na0, .ref nq0, .ref nr0, .int 1, .int 0, .int 0, .int 0, .int (-1), .int 0, .int 0])) := by rw [ef27, va_up_ne _ _ (hnew h7 w26)]; exact h7
          have n367 : ez ≠ q25 := hnew h7 w26
          have h366 : f29 ez = some (.inr (1, [.ref nw0, .ref na0, .ref nq0, .ref nr0, .int 1, .int 0, .int 0, .int 0, .int (-1), .int 0, .int 0])) := k53 _ _ h365 (ninc n367 nin0)
          have h368 : f56 ez = some (.inr (1, [.ref nw0, .ref na0, .ref nq0, .ref nr0, .int 1, .int 0, .int 0, .int 0, .int (-1), .int 0, .int 0])) := by rw [ef56, va_up_ne _ _ (hnew h366 w55)]; exact h366
          have h369 : f27 nw0 = some (.inl (cI G, 6, .inl (fun j => if j < 6 then (-1) else (fun _ => 0) j))) := by rw [ef27, va_up_ne _ _ (hnew h8 w26)]; exact h8
          have n371 : nw0 ≠ q25 := hnew h8 w26
          have h370 : f29 nw0 = some (.inl (cI G, 6, .inl (fun j => if j < 6 then (-1) else (fun _ => 0) j))) := k53 _ _ h369 (ninc n371 nin0)
          have h372 : f56 nw0 = some (.inl (cI G, 6, .inl (fun j => if j < 6 then (-1) else (fun _ => 0) j))) := by rw [ef56, va_up_ne _ _ (hnew h370 w55)]; exact h370
          have h373 : f27 na0 = some (.inl (cI G, 6, .inl (fun _ => 0))) := by rw [ef27, va_up_ne _ _ (hnew h9 w26)]; exact h9
          have n375 : na0 ≠ q25 := hnew h9 w26
          have h374 : f29 na0 = some (.inl (cI G, 6, .inl (fun _ => 0))) := k53 _ _ h373 (ninc n375 nin0)
          have h376 : f56 na0 = some (.inl (cI G, 6, .inl (fun _ => 0))) := by rw [ef56, va_up_ne _ _ (hnew h374 w55)]; exact h374
          have h377 : f27 nq0 = some (.inl (cI G, 6, .inl (fun j => if j < 6 then (-1) else (fun _ => 0) j))) := by rw [ef27, va_up_ne _ _ (hnew h10 w26)]; exact h10
          have n379 : nq0 ≠ q25 := hnew h10 w26
          have h378 : f29 nq0 = some (.inl (cI G, 6, .inl (fun j => if j < 6 then (-1) else (fun _ => 0) j))) := k53 _ _ h377 (ninc n379 nin0)
          have h380 : f56 nq0 = some (.inl (cI G, 6, .inl (fun j => if j < 6 then (-1) else (fun _ => 0) j))) := by rw [ef56, va_up_ne _ _ (hnew h378 w55)]; exact h378
          have h381 : f27 nr0 = some (.inr (3, [.null, .null, .int 0])) := by rw [ef27, va_up_ne _ _ (hnew h11 w26)]; exact h11
          have n383 : nr0 ≠ q25 := hnew h11 w26
          have h382 : f29 nr0 = some (.inr (3, [.null, .null, .int 0])) := k53 _ _ h381 (ninc n383 nin0)
          have h384 : f56 nr0 = some (.inr (3, [.null, .null, .int 0])) := by rw [ef56, va_up_ne _ _ (hnew h382 w55)]; exact h382
          have h385 : f27 eo = some (.inr (1, [.ref nw1, .ref na1, .ref nq1, .ref nr1, .int 2, .int 0, .int 0, .int 0, .int (-1), .int 0, .int 0])) := by rw [ef27, va_up_ne _ _ (hnew h12 w26)]; exact h12
          have n387 : eo ≠ q25 := hnew h12 w26
          have h386 : f29 eo = some (.inr (1, [.ref nw1, .ref na1, .ref nq1, .ref nr1, .int 2, .int 0, .int 0, .int 0, .int (-1), .int 0, .int 0])) := k53 _ _ h385 (ninc n387 nin0)
          have h388 : f56 eo = some (.inr (1, [.ref nw1, .ref na1, .ref nq1, .ref nr1, .int 2, .int 0, .int 0, .int 0, .int (-1), .int 0, .int 0])) := by rw [ef56, va_up_ne _ _ (hnew h386 w55)]; exact h386
          have h389 : f27 nw1 = some (.inl (cI G, 6, .inl (fun j => if j < 6 then (-1) else (fun _ => 0) j))) := by rw [ef27, va_up_ne _ _ (hnew h13 w26)]; exact h13
          have n391 : nw1 ≠ q25 := hnew h13 w26
          have h390 : f29 nw1 = some (.inl (cI G, 6, .inl (fun j => if j < 6 then (-1) else (fun _ => 0) j))) := k53 _ _ h389 (ninc n391 nin0)
          have h392 : f56 nw1 = some (.inl (cI G, 6, .inl (fun j => if j < 6 then (-1) else (fun _ => 0) j))) := by rw [ef56, va_up_ne _ _ (hnew h390 w55)]; exact h390
          have h393 : f27 na1 = some (.inl (cI G, 6, .inl (fun _ => 0))) := by rw [ef27, va_up_ne _ _ (hnew h14 w26)]; exact h14
          have n395 : na1 ≠ q25 := hnew h14 w26
          have h394 : f29 na1 = some (.inl (cI G, 6, .inl (fun _ => 0))) := k53 _ _ h393 (ninc n395 nin0)
          have h396 : f56 na1 = some (.inl (cI G, 6, .inl (fun _ => 0))) := by rw [ef56, va_up_ne _ _ (hnew h394 w55)]; exact h394
          have h397 : f27 nq1 = some (.inl (cI G, 6, .inl (fun j => if j < 6 then (-1) else (fun _ => 0) j))) := by rw [ef27, va_up_ne _ _ (hnew h15 w26)]; exact h15
          have n399 : nq1 ≠ q25 := hnew h15 w26
          have h398 : f29 nq1 = some (.inl (cI G, 6, .inl (fun j => if j < 6 then (-1) else (fun _ => 0) j))) := k53 _ _ h397 (ninc n399 nin0)
          have h400 : f56 nq1 = some (.inl (cI G, 6, .inl (fun j => if j < 6 then (-1) else (fun _ => 0) j))) := by rw [ef56, va_up_ne _ _ (hnew h398 w55)]; exact h398
          have h401 : f27 nr1 = some (.inr (3, [.null, .null, .int 0])) := by rw [ef27, va_up_ne _ _ (hnew h16 w26)]; exact h16
          have n403 : nr1 ≠ q25 := hnew h16 w26
          have h402 : f29 nr1 = some (.inr (3, [.null, .null, .int 0])) := k53 _ _ h401 (ninc n403 nin0)
          have h404 : f56 nr1 = some (.inr (3, [.null, .null, .int 0])) := by rw [ef56, va_up_ne _ _ (hnew h402 w55)]; exact h402
          have h405 : f27 bu = some (.inr (0, [.ref bs, .ref bp, .ref bh, .ref bf, .ref bl, .ref bg, .int 0, .int 0, .int 0])) := by rw [ef27, va_up_ne _ _ (hnew h17 w26)]; exact h17
          have n407 : bu ≠ q25 := hnew h17 w26
          have h406 : f29 bu = some (.inr (0, [.ref bs, .ref bp, .ref bh, .ref bf, .ref bl, .ref bg, .int 0, .int 0, .int 0])) := k53 _ _ h405 (ninc n407 nin0)
          have h408 : f56 bu = some (.inr (0, [.ref bs, .ref bp, .ref bh, .ref bf, .ref bl, .ref bg, .int 0, .int 0, .int 0])) := by rw [ef56, va_up_ne _ _ (hnew h406 w55)]; exact h406
          have h409 : f27 bs = some (.inl (cI G, 61, .inl (fun _ => 0))) := by rw [ef27, va_up_ne _ _ (hnew h18 w26)]; exact h18
          have n411 : bs ≠ q25 := hnew h18 w26
          have h410 : f29 bs = some (.inl (cI G, 61, .inl (fun _ => 0))) := k53 _ _ h409 (ninc n411 nin0)
          have h412 : f56 bs = some (.inl (cI G, 61, .inl (fun _ => 0))) := by rw [ef56, va_up_ne _ _ (hnew h410 w55)]; exact h410
          have h413 : f27 bp = some (.inl (cI G, 240, .inl (fun _ => 0))) := by rw [ef27, va_up_ne _ _ (hnew h19 w26)]; exact h19
          have n415 : bp ≠ q25 := hnew h19 w26
          have h414 : f29 bp = some (.inl (cI G, 240, .inl (fun _ => 0))) := k53 _ _ h413 (ninc n415 nin0)
          have h416 : f56 bp = some (.inl (cI G, 240, .inl (fun _ => 0))) := by rw [ef56, va_up_ne _ _ (hnew h414 w55)]; exact h414
          have h417 : f27 bh = some (.inl (cZ G, 240, .inl (fun _ => 0))) := by rw [ef27, va_up_ne _ _ (hnew h20 w26)]; exact h20
          have n419 : bh ≠ q25 := hnew h20 w26
          have h418 : f29 bh = some (.inl (cZ G, 240, .inl (fun _ => 0))) := k53 _ _ h417 (ninc n419 nin0)
          have h420 : f56 bh = some (.inl (cZ G, 240, .inl (fun _ => 0))) := by rw [ef56, va_up_ne _ _ (hnew h418 w55)]; exact h418
          have h421 : f27 bf = some (.inl (cI G, 3, .inl (upd (upd (upd (fun _ => 0) (0 : Int32).toNatClampNeg 0) (1 : Int32).toNatClampNeg 1) (2 : Int32).toNatClampNeg 2))) := by rw [ef27, va_up_ne _ _ (hnew h21 w26)]; exact h21
          have n423 : bf ≠ q25 := hnew h21 w26
          have h422 : f29 bf = some (.inl (cI G, 3, .inl (upd (upd (upd (fun _ => 0) (0 : Int32).toNatClampNeg 0) (1 : Int32).toNatClampNeg 1) (2 : Int32).toNatClampNeg 2))) := k53 _ _ h421 (ninc n423 nin0)
          have h424 : f56 bf = some (.inl (cI G, 3, .inl (upd (upd (upd (fun _ => 0) (0 : Int32).toNatClampNeg 0) (1 : Int32).toNatClampNeg 1) (2 : Int32).toNatClampNeg 2))) := by rw [ef56, va_up_ne _ _ (hnew h422 w55)]; exact h422
          have h425 : f27 bl = some (.inl (cI G, 3, .inl (fun j => if j < 3 then (-1) else (fun _ => 0) j))) := by rw [ef27, va_up_ne _ _ (hnew h22 w26)]; exact h22
          have n427 : bl ≠ q25 := hnew h22 w26
          have h426 : f29 bl = some (.inl (cI G, 3, .inl (fun j => if j < 3 then (-1) else (fun _ => 0) j))) := k53 _ _ h425 (ninc n427 nin0)
          have h428 : f56 bl = some (.inl (cI G, 3, .inl (fun j => if j < 3 then (-1) else (fun _ => 0) j))) := by rw [ef56, va_up_ne _ _ (hnew h426 w55)]; exact h426
          have h429 : f27 bg = some (.inl (cI G, 60, .inl (fun _ => 0))) := by rw [ef27, va_up_ne _ _ (hnew h23 w26)]; exact h23
          have n431 : bg ≠ q25 := hnew h23 w26
          have h430 : f29 bg = some (.inl (cI G, 60, .inl (fun _ => 0))) := k53 _ _ h429 (ninc n431 nin0)
          have h432 : f56 bg = some (.inl (cI G, 60, .inl (fun _ => 0))) := by rw [ef56, va_up_ne _ _ (hnew h430 w55)]; exact h430
          have n433 : bp ≠ q54 := hnew h414 w55
          have n434 : bs ≠ q54 := hnew h410 w55
          have n435 : nq1 ≠ q54 := hnew h398 w55
          have n436 : nq0 ≠ q54 := hnew h378 w55
          have n437 : na1 ≠ q54 := hnew h394 w55
          have n438 : na0 ≠ q54 := hnew h374 w55
          have n439 : nw1 ≠ q54 := hnew h390 w55
          have n440 : nw0 ≠ q54 := hnew h370 w55
          refine hp_SH (As := [.ref q1, .int (xs 1), .ref q54]) (rest := []) B0 hw hS (c_L_open hl G f56 q1 ez eo bu nw0 na0 nq0 nr0 nw1 na1 nq1 nr1 bs bp bh bf bl bg q54 ⟨h364, h368, h372, h376, h380, h384, h388, h392, h396, h400, h404, h408, h412, h416, h420, h424, h428, h432, n_wq0, n_wq1, n_sp⟩ (ninc (Ne.symm n440) (ninc (Ne.symm n439) (ninc (Ne.symm n438) (ninc (Ne.symm n437) (ninc (Ne.symm n436) (ninc (Ne.symm n435) (ninc (Ne.symm n434) (ninc (Ne.symm n433) nin0)))))))) h57 (xs 1)) mH_L_open qM_L_97 rfl rfl hl9.1 (Nat.le_of_ble_eq_true rfl) ⟨⟨Nat.le_of_ble_eq_true rfl, Nat.le_of_ble_eq_true rfl⟩, Nat.le_of_ble_eq_true rfl, Nat.le_of_ble_eq_true rfl⟩ dL_law_372 (fun E ce q9 f441 H locs hPX hw hS hce hcv hcl => ?_) (fun v f441 H locs hP hw hS => ?_)
          · exact hPX.elim
          · obtain ⟨ev9, h442, k443⟩ := hP
            subst ev9
            refine W.eq (g2 := F0 m 375 ls [.int (spc (sE (xs 1)) True)]) rfl ?_
            refine lv_istore (lv' := [(5, .int (spc (sE (xs 1)) True)), (4, .int 0), (3, .ref q54), (2, .ref q25), (1, .ref q1), (0, .ref b)]) hx hb dL_law_375 hl9 (by decide) rfl (fun ls hl9 => ?_)
            refine lv_aload_n hx hb dL_law_377 rfl (lv_at hl9 3 rfl) ?_
            refine lv_aload_n hx hb dL_law_378 rfl (lv_at hl9 5 rfl) ?_
            refine lv_iload hx hb dL_law_379 (lv_at hl9 1 rfl) ?_
            refine lv_iconst (v := 1) hx hb dL_law_381 (by decide) ?_
            refine lv_iadd hx hb dL_law_382 ?_
            refine hp_c (v := 1) (by decide) ?_
            refine va_sld hx hb hX hbl hbA hS (by unfold vp_in; decide) dL_law_383 ?_
            refine hp_c (v := xs 1) rfl ?_
            have h444 : f56 q25 = some (.inr (5, [.int 0, .ref dW, .ref dA, .ref dQ, .ref dM, .ref dS, .ref dL, .ref dR, .ref dT, .ref dZ, .ref dI, .ref dH, .ref dN, .ref dK, .ref dJ, .ref dU, .ref dO, .int 0, .int 0, .ref dF, .ref dP, .ref dE, .ref dX, .ref dY, .int 0, .int 0, .ref dG])) := by rw [ef56, va_up_ne _ _ (hnew h30 w55)]; exact h30
            have n446 : q25 ≠ q54 := hnew h30 w55
            have h445 : f441 q25 = some (.inr (5, [.int 0, .ref dW, .ref dA, .ref dQ, .ref dM, .ref dS, .ref dL, .ref dR, .ref dT, .ref dZ, .ref dI, .ref dH, .ref dN, .ref dK, .ref dJ, .ref dU, .ref dO, .int 0, .int 0, .ref dF, .ref dP, .ref dE, .ref dX, .ref dY, .int 0, .int 0, .ref dG])) := k443 _ _ h444 (ninc (Ne.symm n367) (ninc (Ne.symm n379) (ninc (Ne.symm n383) (ninc (Ne.symm n387) (ninc (Ne.symm n399) (ninc (Ne.symm n403) (ninc n446 nin0)))))))
            have h447 : f56 dW = some (.inl (cI G, 12, .inl mA12)) := by rw [ef56, va_up_ne _ _ (hnew h31 w55)]; exact h31
            have n449 : dW ≠ q54 := hnew h31 w55
            have n450 : nr1 ≠ dW := hnew h401 wdW
            have n451 : nq1 ≠ dW := hnew h397 wdW
            have n452 : eo ≠ dW := hnew h385 wdW
            have n453 : nr0 ≠ dW := hnew h381 wdW
            have n454 : nq0 ≠ dW := hnew h377 wdW
            have n455 : ez ≠ dW := hnew h365 wdW
            have h448 : f441 dW = some (.inl (cI G, 12, .inl mA12)) := k443 _ _ h447 (ninc (Ne.symm n455) (ninc (Ne.symm n454) (ninc (Ne.symm n453) (ninc (Ne.symm n452) (ninc (Ne.symm n451) (ninc (Ne.symm n450) (ninc n449 nin0)))))))
            have h456 : f56 dS = some (.inl (cI G, 2, .inl (fun _ => 0))) := by rw [ef56, va_up_ne _ _ (hnew h35 w55)]; exact h35
            have n458 : dS ≠ q54 := hnew h35 w55
            have n459 : nr1 ≠ dS := hnew h401 wdS
            have n460 : nq1 ≠ dS := hnew h397 wdS
            have n461 : eo ≠ dS := hnew h385 wdS
            have n462 : nr0 ≠ dS := hnew h381 wdS
            have n463 : nq0 ≠ dS := hnew h377 wdS
            have n464 : ez ≠ dS := hnew h365 wdS
            have h457 : f441 dS = some (.inl (cI G, 2, .inl (fun _ => 0))) := k443 _ _ h456 (ninc (Ne.symm n464) (ninc (Ne.symm n463) (ninc (Ne.symm n462) (ninc (Ne.symm n461) (ninc (Ne.symm n460) (ninc (Ne.symm n459) (ninc n458 nin0)))))))
            have h465 : f56 dR = some (.inl (cI G, 2, .inl (fun _ => 0))) := by rw [ef56, va_up_ne _ _ (hnew h37 w55)]; exact h37
            have n467 : dR ≠ q54 := hnew h37 w55
            have n468 : nr1 ≠ dR := hnew h401 wdR
            have n469 : nq1 ≠ dR := hnew h397 wdR
            have n470 : eo ≠ dR := hnew h385 wdR
            have n471 : nr0 ≠ dR := hnew h381 wdR
            have n472 : nq0 ≠ dR := hnew h377 wdR
            have n473 : ez ≠ dR := hnew h365 wdR
            have h466 : f441 dR = some (.inl (cI G, 2, .inl (fun _ => 0))) := k443 _ _ h465 (ninc (Ne.symm n473) (ninc (Ne.symm n472) (ninc (Ne.symm n471) (ninc (Ne.symm n470) (ninc (Ne.symm n469) (ninc (Ne.symm n468) (ninc n467 nin0)))))))
            have h474 : f56 dL = some (.inl (cI G, 2, .inl (mA2 (-1) (-1)))) := by rw [ef56, va_up_ne _ _ (hnew h36 w55)]; exact h36
            have n476 : dL ≠ q54 := hnew h36 w55
            have n477 : nr1 ≠ dL := hnew h401 wdL
            have n478 : nq1 ≠ dL := hnew h397 wdL
            have n479 : eo ≠ dL := hnew h385 wdL
            have n480 : nr0 ≠ dL := hnew h381 wdL
            have n481 : nq0 ≠ dL := hnew h377 wdL
            have n482 : ez ≠ dL := hnew h365 wdL
            have h475 : f441 dL = some (.inl (cI G, 2, .inl (mA2 (-1) (-1)))) := k443 _ _ h474 (ninc (Ne.symm n482) (ninc (Ne.symm n481) (ninc (Ne.symm n480) (ninc (Ne.symm n479) (ninc (Ne.symm n478) (ninc (Ne.symm n477) (ninc n476 nin0)))))))
            have h483 : f56 dT = some (.inl (cI G, 2, .inl (fun _ => 0))) := by rw [ef56, va_up_ne _ _ (hnew h38 w55)]; exact h38
            have n485 : dT ≠ q54 := hnew h38 w55
            have n486 : nr1 ≠ dT := hnew h401 wdT
            have n487 : nq1 ≠ dT := hnew h397 wdT
            have n488 : eo ≠ dT := hnew h385 wdT
            have n489 : nr0 ≠ dT := hnew h381 wdT
            have n490 : nq0 ≠ dT := hnew h377 wdT
            have n491 : ez ≠ dT := hnew h365 wdT
            have h484 : f441 dT = some (.inl (cI G, 2, .inl (fun _ => 0))) := k443 _ _ h483 (ninc (Ne.symm n491) (ninc (Ne.symm n490) (ninc (Ne.symm n489) (ninc (Ne.symm n488) (ninc (Ne.symm n487) (ninc (Ne.symm n486) (ninc n485 nin0)))))))
            have h492 : f56 dQ = some (.inl (cI G, 12, .inl mA12)) := by rw [ef56, va_up_ne _ _ (hnew h33 w55)]; exact h33
            have n494 : dQ ≠ q54 := hnew h33 w55
            have n495 : nr1 ≠ dQ := hnew h401 wdQ
            have n496 : nq1 ≠ dQ := hnew h397 wdQ
            have n497 : eo ≠ dQ := hnew h385 wdQ
            have n498 : nr0 ≠ dQ := hnew h381 wdQ
            have n499 : nq0 ≠ dQ := hnew h377 wdQ
            have n500 : ez ≠ dQ := hnew h365 wdQ
            have h493 : f441 dQ = some (.inl (cI G, 12, .inl mA12)) := k443 _ _ h492 (ninc (Ne.symm n500) (ninc (Ne.symm n499) (ninc (Ne.symm n498) (ninc (Ne.symm n497) (ninc (Ne.symm n496) (ninc (Ne.symm n495) (ninc n494 nin0)))))))
            have h501 : f56 dM = some (.inl (cI G, 2, .inl (mA2 1 2))) := by rw [ef56, va_up_ne _ _ (hnew h34 w55)]; exact h34
            have n503 : dM ≠ q54 := hnew h34 w55
            have n504 : nr1 ≠ dM := hnew h401 wdM
            have n505 : nq1 ≠ dM := hnew h397 wdM
            have n506 : eo ≠ dM := hnew h385 wdM
            have n507 : nr0 ≠ dM := hnew h381 wdM
            have n508 : nq0 ≠ dM := hnew h377 wdM
            have n509 : ez ≠ dM := hnew h365 wdM
            have h502 : f441 dM = some (.inl (cI G, 2, .inl (mA2 1 2))) := k443 _ _ h501 (ninc (Ne.symm n509) (ninc (Ne.symm n508) (ninc (Ne.symm n507) (ninc (Ne.symm n506) (ninc (Ne.symm n505) (ninc (Ne.symm n504) (ninc n503 nin0)))))))
            have h510 : f56 dH = some (.inl (cI G, 2, .inl (fun _ => 0))) := by rw [ef56, va_up_ne _ _ (hnew h41 w55)]; exact h41
            have n512 : dH ≠ q54 := hnew h41 w55
            have n513 : nr1 ≠ dH := hnew h401 wdH
            have n514 : nq1 ≠ dH := hnew h397 wdH
            have n515 : eo ≠ dH := hnew h385 wdH
            have n516 : nr0 ≠ dH := hnew h381 wdH
            have n517 : nq0 ≠ dH := hnew h377 wdH
            have n518 : ez ≠ dH := hnew h365 wdH
            have h511 : f441 dH = some (.inl (cI G, 2, .inl (fun _ => 0))) := k443 _ _ h510 (ninc (Ne.symm n518) (ninc (Ne.symm n517) (ninc (Ne.symm n516) (ninc (Ne.symm n515) (ninc (Ne.symm n514) (ninc (Ne.symm n513) (ninc n512 nin0)))))))
            have h519 : f56 dN = some (.inl (cI G, 2, .inl (fun _ => 0))) := by rw [ef56, va_up_ne _ _ (hnew h42 w55)]; exact h42
            have n521 : dN ≠ q54 := hnew h42 w55
            have n522 : nr1 ≠ dN := hnew h401 wdN
            have n523 : nq1 ≠ dN := hnew h397 wdN
            have n524 : eo ≠ dN := hnew h385 wdN
            have n525 : nr0 ≠ dN := hnew h381 wdN
            have n526 : nq0 ≠ dN := hnew h377 wdN
            have n527 : ez ≠ dN := hnew h365 wdN
            have h520 : f441 dN = some (.inl (cI G, 2, .inl (fun _ => 0))) := k443 _ _ h519 (ninc (Ne.symm n527) (ninc (Ne.symm n526) (ninc (Ne.symm n525) (ninc (Ne.symm n524) (ninc (Ne.symm n523) (ninc (Ne.symm n522) (ninc n521 nin0)))))))
            have h528 : f56 dK = some (.inl (cI G, 2048, .inl (fun _ => 0))) := by rw [ef56, va_up_ne _ _ (hnew h43 w55)]; exact h43
            have n530 : dK ≠ q54 := hnew h43 w55
            have n531 : nr1 ≠ dK := hnew h401 wdK
            have n532 : nq1 ≠ dK := hnew h397 wdK
            have n533 : eo ≠ dK := hnew h385 wdK
            have n534 : nr0 ≠ dK := hnew h381 wdK
            have n535 : nq0 ≠ dK := hnew h377 wdK
            have n536 : ez ≠ dK := hnew h365 wdK
            have h529 : f441 dK = some (.inl (cI G, 2048, .inl (fun _ => 0))) := k443 _ _ h528 (ninc (Ne.symm n536) (ninc (Ne.symm n535) (ninc (Ne.symm n534) (ninc (Ne.symm n533) (ninc (Ne.symm n532) (ninc (Ne.symm n531) (ninc n530 nin0)))))))
            have h537 : f56 dJ = some (.inl (cI G, 2048, .inl (fun _ => 0))) := by rw [ef56, va_up_ne _ _ (hnew h44 w55)]; exact h44
            have n539 : dJ ≠ q54 := hnew h44 w55
            have n540 : nr1 ≠ dJ := hnew h401 wdJ
            have n541 : nq1 ≠ dJ := hnew h397 wdJ
            have n542 : eo ≠ dJ := hnew h385 wdJ
            have n543 : nr0 ≠ dJ := hnew h381 wdJ
            have n544 : nq0 ≠ dJ := hnew h377 wdJ
            have n545 : ez ≠ dJ := hnew h365 wdJ
            have h538 : f441 dJ = some (.inl (cI G, 2048, .inl (fun _ => 0))) := k443 _ _ h537 (ninc (Ne.symm n545) (ninc (Ne.symm n544) (ninc (Ne.symm n543) (ninc (Ne.symm n542) (ninc (Ne.symm n541) (ninc (Ne.symm n540) (ninc n539 nin0)))))))
            have h546 : f56 dU = some (.inl (cI G, 2048, .inl (fun _ => 0))) := by rw [ef56, va_up_ne _ _ (hnew h45 w55)]; exact h45
            have n548 : dU ≠ q54 := hnew h45 w55
            have n549 : nr1 ≠ dU := hnew h401 wdU
            have n550 : nq1 ≠ dU := hnew h397 wdU
            have n551 : eo ≠ dU := hnew h385 wdU
            have n552 : nr0 ≠ dU := hnew h381 wdU
            have n553 : nq0 ≠ dU := hnew h377 wdU
            have n554 : ez ≠ dU := hnew h365 wdU
            have h547 : f441 dU = some (.inl (cI G, 2048, .inl (fun _ => 0))) := k443 _ _ h546 (ninc (Ne.symm n554) (ninc (Ne.symm n553) (ninc (Ne.symm n552) (ninc (Ne.symm n551) (ninc (Ne.symm n550) (ninc (Ne.symm n549) (ninc n548 nin0)))))))
            have h555 : f56 dO = some (.inl (cI G, 2048, .inl (fun _ => 0))) := by rw [ef56, va_up_ne _ _ (hnew h46 w55)]; exact h46
            have n557 : dO ≠ q54 := hnew h46 w55
            have n558 : nr1 ≠ dO := hnew h401 wdO
            have n559 : nq1 ≠ dO := hnew h397 wdO
            have n560 : eo ≠ dO := hnew h385 wdO
            have n561 : nr0 ≠ dO := hnew h381 wdO
            have n562 : nq0 ≠ dO := hnew h377 wdO
            have n563 : ez ≠ dO := hnew h365 wdO
            have h556 : f441 dO = some (.inl (cI G, 2048, .inl (fun _ => 0))) := k443 _ _ h555 (ninc (Ne.symm n563) (ninc (Ne.symm n562) (ninc (Ne.symm n561) (ninc (Ne.symm n560) (ninc (Ne.symm n559) (ninc (Ne.symm n558) (ninc n557 nin0)))))))
            refine hp_V (ci := 5) (As := [.int (xs 1)]) (rest := []) B0 hw hS (c_X5_open0 hl G f441 q25 dW dA dQ dM dS dL dR dT dZ dI dH dN dK dJ dU dO dF dP dE dX dY dG 0 h445 h448 h457 h466 h475 h484 h493 h502 h511 h520 h529 h538 h547 h556 nd_dH_dJ nd_dH_dK nd_dH_dL nd_dH_dM nd_dH_dN nd_dH_dO nd_dH_dQ nd_dH_dR nd_dH_dS nd_dH_dT nd_dH_dU nd_dH_dW nd_dJ_dK nd_dJ_dL nd_dJ_dM nd_dJ_dN nd_dJ_dO nd_dJ_dQ nd_dJ_dR nd_dJ_dS nd_dJ_dT nd_dJ_dU nd_dJ_dW nd_dK_dL nd_dK_dM nd_dK_dN nd_dK_dO nd_dK_dQ nd_dK_dR nd_dK_dS nd_dK_dT nd_dK_dU nd_dK_dW nd_dL_dM nd_dL_dN nd_dL_dO nd_dL_dQ nd_dL_dR nd_dL_dS nd_dL_dT nd_dL_dU nd_dL_dW nd_dM_dN nd_dM_dO nd_dM_dQ nd_dM_dR nd_dM_dS nd_dM_dT nd_dM_dU nd_dM_dW nd_dN_dO nd_dN_dQ nd_dN_dR nd_dN_dS nd_dN_dT nd_dN_dU nd_dN_dW nd_dO_dQ nd_dO_dR nd_dO_dS nd_dO_dT nd_dO_dU nd_dO_dW nd_dQ_dR nd_dQ_dS nd_dQ_dT nd_dQ_dU nd_dQ_dW nd_dR_dS nd_dR_dT nd_dR_dU nd_dR_dW nd_dS_dT nd_dS_dU nd_dS_dW nd_dT_dU nd_dT_dW nd_dU_dW (xs 1)) mV_X5_open qM_L_100 rfl h445 rfl rfl hl9.1 (Nat.le_of_ble_eq_true rfl) ⟨⟨Nat.le_of_ble_eq_true rfl, Nat.le_of_ble_eq_true rfl⟩, Nat.le_of_ble_eq_true rfl, Nat.le_of_ble_eq_true rfl⟩ dL_law_384 (fun E ce q9 f564 H locs hPX hw hS hce hcv hcl => ?_) (fun v f564 H locs hP hw hS => ?_)
            · exact hPX.elim
            · obtain ⟨⟨r565, ev9, h566⟩, ⟨c567, h568⟩, k569⟩ := hP
              subst ev9
              refine W.eq (g2 := F0 m 387 ls [.int r565]) rfl ?_
              refine lv_istore (lv' := [(6, .int r565), (5, .int (spc (sE (xs 1)) True)), (4, .int 0), (3, .ref q54), (2, .ref q25), (1, .ref q1), (0, .ref b)]) hx hb dL_law_387 hl9 (by decide) rfl (fun ls hl9 => ?_)
              refine lv_aload_n hx hb dL_law_389 rfl (lv_at hl9 4 rfl) ?_
              refine hp_V (ci := 5) (As := []) (rest := []) B0 hw hS (c_X5_thrown hl G f564 q25 (spc (sE (xs 1)) True) c567 h568) mV_X5_thrown qM_L_86 rfl h568 rfl rfl hl9.1 (Nat.le_of_ble_eq_true rfl) ⟨⟨Nat.le_of_ble_eq_true rfl, Nat.le_of_ble_eq_true rfl⟩, Nat.le_of_ble_eq_true rfl, Nat.le_of_ble_eq_true rfl⟩ dL_law_390 (fun E ce q9 f570 H locs hPX hw hS hce hcv hcl => ?_) (fun v f570 H locs hP hw hS => ?_)
              · exact hPX.elim
              · obtain ⟨ev9, ef9⟩ := hP
                rw [ef9] at hw
                subst ev9
                refine W.eq (g2 := F0 m 393 ls [.int (spc (sE (xs 1)) True)]) rfl ?_
                refine lv_iload hx hb dL_law_393 (lv_at hl9 1 rfl) ?_
                refine lv_icmp_eq (tgt := 400) hx hb dL_law_395 (by decide) (fun _ => ?_) (fun c9 => absurd rfl c9)
                refine lv_iload hx hb dL_law_400 (lv_at hl9 1 rfl) ?_
                refine lv_if_ne (tgt := 417) hx hb dL_law_402 (by decide) (fun c571 => ?_) (fun c571 => ?_)
                · refine lv_goto (tgt := 1305) hx hb dL_law_417 (by decide) ?_
                  refine lv_iinc (v := 4) (lv' := [(4, .int 4), (6, .int r565), (5, .int (spc (sE (xs 1)) True)), (3, .ref q54), (2, .ref q25), (1, .ref q1), (0, .ref b)]) hx hb dL_law_1305 hl9 (k := 2) rfl (by decide) (by decide) rfl (fun ls hl9 => ?_)
                  refine lv_goto (tgt := 23) hx hb dL_law_1308 (by decide) ?_
                  refine lv_iload hx hb dL_law_23 (lv_at hl9 0 rfl) ?_
                  refine lv_aload_n hx hb dL_law_25 rfl (lv_at hl9 6 rfl) ?_
                  refine va_slen hx hb hX hbl hbA hS dL_law_26 ?_
                  refine hp_c (v := 4) rfl ?_
                  refine lv_iconst (v := 4) hx hb dL_law_27 (by decide) ?_
                  refine lv_isub hx hb dL_law_28 ?_
                  refine hp_c (v := 0) (by decide) ?_
                  refine lv_icmp_gt (tgt := 1311) hx hb dL_law_29 (by decide) (fun _ => ?_) (fun c9 => absurd (by decide) c9)
                  refine lv_iconst (v := 1) hx hb dL_law_1311 (by decide) ?_
                  refine va_forget (fun q hq => hFs _ (hS.2.2 q hq)) ?_
                  refine W.widen (k := 600002) (n := 7302232) (Nat.le_of_ble_eq_true rfl) (Nat.le_of_ble_eq_true rfl) ?_
                  exact lw_ret hx hb hr hlocks dL_law_1312
                · refine lv_aload_n hx hb dL_law_405 rfl (lv_at hl9 3 rfl) ?_
                  refine lv_iconst (v := 0) hx hb dL_law_406 (by decide) ?_
                  have h572 : f441 q54 = some (.inl (cJ G, 1, .inr (.inl (vp_updL (fun _ => 0) (0 : Int32).toNatClampNeg ((0 : Int32).toInt64))))) := h442 c571
                  have h573 : f564 q54 = some (.inl (cJ G, 1, .inr (.inl (vp_updL (fun _ => 0) (0 : Int32).toNatClampNeg ((0 : Int32).toInt64))))) := k569 _ _ h572 (ninc (Ne.symm n446) (ninc (Ne.symm n494) (ninc (Ne.symm n458) (ninc (Ne.symm n476) (ninc (Ne.symm n467) (ninc (Ne.symm n485) (ninc (Ne.symm n530) (ninc (Ne.symm n539) (ninc (Ne.symm n548) (ninc (Ne.symm n557) (ninc (Ne.symm n521) nin0)))))))))))
                  refine hp_lald B0 hw h573 (by unfold vp_in; decide) dL_law_407 ?_
                  refine lv_iload hx hb dL_law_408 (lv_at hl9 0 rfl) ?_
                  refine lv_i2l (v := (r565 : Int32).toInt64) hx hb dL_law_410 rfl ?_
                  refine W.lcmp hx hb dL_law_411 ?_
                  refine lv_if_eq (tgt := 417) hx hb dL_law_412 (by decide) (fun _ => ?_) (fun c9 => absurd (lg_eq0 (by have h9 := h566 c571; subst h9; rfl)) c9)
                  refine lv_goto (tgt := 1305) hx hb dL_law_417 (by decide) ?_
                  refine lv_iinc (v := 4) (lv' := [(4, .int 4), (6, .int r565), (5, .int (spc (sE (xs 1)) True)), (3, .ref q54), (2, .ref q25), (1, .ref q1), (0, .ref b)]) hx hb dL_law_1305 hl9 (k := 2) rfl (by decide) (by decide) rfl (fun ls hl9 => ?_)
                  refine lv_goto (tgt := 23) hx hb dL_law_1308 (by decide) ?_
                  refine lv_iload hx hb dL_law_23 (lv_at hl9 0 rfl) ?_
                  refine lv_aload_n hx hb dL_law_25 rfl (lv_at hl9 6 rfl) ?_
                  refine va_slen hx hb hX hbl hbA hS dL_law_26 ?_
                  refine hp_c (v := 4) rfl ?_
                  refine lv_iconst (v := 4) hx hb dL_law_27 (by decide) ?_
                  refine lv_isub hx hb dL_law_28 ?_
                  refine hp_c (v := 0) (by decide) ?_
                  refine lv_icmp_gt (tgt := 1311) hx hb dL_law_29 (by decide) (fun _ => ?_) (fun c9 => absurd (by decide) c9)
                  refine lv_iconst (v := 1) hx hb dL_law_1311 (by decide) ?_
                  refine va_forget (fun q hq => hFs _ (hS.2.2 q hq)) ?_
                  refine W.widen (k := 600002) (n := 7302232) (Nat.le_of_ble_eq_true rfl) (Nat.le_of_ble_eq_true rfl) ?_
                  exact lw_ret hx hb hr hlocks dL_law_1312
        · refine lv_tableIn (off := 381) (tgt := 420) hx hb dL_law_39 (by decide) (by decide) (by decide) (by decide) ?_
          refine lv_aload_n hx hb dL_law_420 rfl (lv_at hl9 3 rfl) ?_
          refine lv_aload_n hx hb dL_law_421 rfl (lv_at hl9 4 rfl) ?_
          refine lv_iload hx hb dL_law_422 (lv_at hl9 0 rfl) ?_
          refine lv_iconst (v := 1) hx hb dL_law_424 (by decide) ?_
          refine lv_iadd hx hb dL_law_425 ?_
          refine hp_c (v := 1) (by decide) ?_
          refine va_sld hx hb hX hbl hbA hS (by unfold vp_in; decide) dL_law_426 ?_
          refine hp_c (v := xs 1) rfl ?_
          refine lv_aload_n hx hb dL_law_427 rfl (lv_at hl9 1 rfl) ?_
          have h574 : f27 q1 = some (.inr (4, [.ref ez, .ref eo, .ref bu])) := by rw [ef27, va_up_ne _ _ (hnew h6 w26)]; exact h6
          have n576 : q1 ≠ q25 := hnew h6 w26
          have h575 : f29 q1 = some (.inr (4, [.ref ez, .ref eo, .ref bu])) := k53 _ _ h574 (ninc n576 nin0)
          have h577 : f56 q1 = some (.inr (4, [.ref ez, .ref eo, .ref bu])) := by rw [ef56, va_up_ne _ _ (hnew h575 w55)]; exact h575
          have h578 : f27 ez = some (.inr (1, [.ref nw0, .ref na0, .ref nq0, .ref nr0, .int 1, .int 0, .int 0, .int 0, .int (-1), .int 0, .int 0])) := by rw [ef27, va_up_ne _ _ (hnew h7 w26)]; exact h7
          have n580 : ez ≠ q25 := hnew h7 w26
          have h579 : f29 ez = some (.inr (1, [.ref nw0, .ref na0, .ref nq0, .ref nr0, .int 1, .int 0, .int 0, .int 0, .int (-1), .int 0, .int 0])) := k53 _ _ h578 (ninc n580 nin0)
          have h581 : f56 ez = some (.inr (1, [.ref nw0, .ref na0, .ref nq0, .ref nr0, .int 1, .int 0, .int 0, .int 0, .int (-1), .int 0, .int 0])) := by rw [ef56, va_up_ne _ _ (hnew h579 w55)]; exact h579
          have h582 : f27 nw0 = some (.inl (cI G, 6, .inl (fun j => if j < 6 then (-1) else (fun _ => 0) j))) := by rw [ef27, va_up_ne _ _ (hnew h8 w26)]; exact h8
          have n584 : nw0 ≠ q25 := hnew h8 w26
          have h583 : f29 nw0 = some (.inl (cI G, 6, .inl (fun j => if j < 6 then (-1) else (fun _ => 0) j))) := k53 _ _ h582 (ninc n584 nin0)
          have h585 : f56 nw0 = some (.inl (cI G, 6, .inl (fun j => if j < 6 then (-1) else (fun _ => 0) j))) := by rw [ef56, va_up_ne _ _ (hnew h583 w55)]; exact h583
          have h586 : f27 na0 = some (.inl (cI G, 6, .inl (fun _ => 0))) := by rw [ef27, va_up_ne _ _ (hnew h9 w26)]; exact h9
          have n588 : na0 ≠ q25 := hnew h9 w26
          have h587 : f29 na0 = some (.inl (cI G, 6, .inl (fun _ => 0))) := k53 _ _ h586 (ninc n588 nin0)
          have h589 : f56 na0 = some (.inl (cI G, 6, .inl (fun _ => 0))) := by rw [ef56, va_up_ne _ _ (hnew h587 w55)]; exact h587
          have h590 : f27 nq0 = some (.inl (cI G, 6, .inl (fun j => if j < 6 then (-1) else (fun _ => 0) j))) := by rw [ef27, va_up_ne _ _ (hnew h10 w26)]; exact h10
          have n592 : nq0 ≠ q25 := hnew h10 w26
          have h591 : f29 nq0 = some (.inl (cI G, 6, .inl (fun j => if j < 6 then (-1) else (fun _ => 0) j))) := k53 _ _ h590 (ninc n592 nin0)
          have h593 : f56 nq0 = some (.inl (cI G, 6, .inl (fun j => if j < 6 then (-1) else (fun _ => 0) j))) := by rw [ef56, va_up_ne _ _ (hnew h591 w55)]; exact h591
          have h594 : f27 nr0 = some (.inr (3, [.null, .null, .int 0])) := by rw [ef27, va_up_ne _ _ (hnew h11 w26)]; exact h11
          have n596 : nr0 ≠ q25 := hnew h11 w26
          have h595 : f29 nr0 = some (.inr (3, [.null, .null, .int 0])) := k53 _ _ h594 (ninc n596 nin0)
          have h597 : f56 nr0 = some (.inr (3, [.null, .null, .int 0])) := by rw [ef56, va_up_ne _ _ (hnew h595 w55)]; exact h595
          have h598 : f27 eo = some (.inr (1, [.ref nw1, .ref na1, .ref nq1, .ref nr1, .int 2, .int 0, .int 0, .int 0, .int (-1), .int 0, .int 0])) := by rw [ef27, va_up_ne _ _ (hnew h12 w26)]; exact h12
          have n600 : eo ≠ q25 := hnew h12 w26
          have h599 : f29 eo = some (.inr (1, [.ref nw1, .ref na1, .ref nq1, .ref nr1, .int 2, .int 0, .int 0, .int 0, .int (-1), .int 0, .int 0])) := k53 _ _ h598 (ninc n600 nin0)
          have h601 : f56 eo = some (.inr (1, [.ref nw1, .ref na1, .ref nq1, .ref nr1, .int 2, .int 0, .int 0, .int 0, .int (-1), .int 0, .int 0])) := by rw [ef56, va_up_ne _ _ (hnew h599 w55)]; exact h599
          have h602 : f27 nw1 = some (.inl (cI G, 6, .inl (fun j => if j < 6 then (-1) else (fun _ => 0) j))) := by rw [ef27, va_up_ne _ _ (hnew h13 w26)]; exact h13
          have n604 : nw1 ≠ q25 := hnew h13 w26
          have h603 : f29 nw1 = some (.inl (cI G, 6, .inl (fun j => if j < 6 then (-1) else (fun _ => 0) j))) := k53 _ _ h602 (ninc n604 nin0)
          have h605 : f56 nw1 = some (.inl (cI G, 6, .inl (fun j => if j < 6 then (-1) else (fun _ => 0) j))) := by rw [ef56, va_up_ne _ _ (hnew h603 w55)]; exact h603
          have h606 : f27 na1 = some (.inl (cI G, 6, .inl (fun _ => 0))) := by rw [ef27, va_up_ne _ _ (hnew h14 w26)]; exact h14
          have n608 : na1 ≠ q25 := hnew h14 w26
          have h607 : f29 na1 = some (.inl (cI G, 6, .inl (fun _ => 0))) := k53 _ _ h606 (ninc n608 nin0)
          have h609 : f56 na1 = some (.inl (cI G, 6, .inl (fun _ => 0))) := by rw [ef56, va_up_ne _ _ (hnew h607 w55)]; exact h607
          have h610 : f27 nq1 = some (.inl (cI G, 6, .inl (fun j => if j < 6 then (-1) else (fun _ => 0) j))) := by rw [ef27, va_up_ne _ _ (hnew h15 w26)]; exact h15
          have n612 : nq1 ≠ q25 := hnew h15 w26
          have h611 : f29 nq1 = some (.inl (cI G, 6, .inl (fun j => if j < 6 then (-1) else (fun _ => 0) j))) := k53 _ _ h610 (ninc n612 nin0)
          have h613 : f56 nq1 = some (.inl (cI G, 6, .inl (fun j => if j < 6 then (-1) else (fun _ => 0) j))) := by rw [ef56, va_up_ne _ _ (hnew h611 w55)]; exact h611
          have h614 : f27 nr1 = some (.inr (3, [.null, .null, .int 0])) := by rw [ef27, va_up_ne _ _ (hnew h16 w26)]; exact h16
          have n616 : nr1 ≠ q25 := hnew h16 w26
          have h615 : f29 nr1 = some (.inr (3, [.null, .null, .int 0])) := k53 _ _ h614 (ninc n616 nin0)
          have h617 : f56 nr1 = some (.inr (3, [.null, .null, .int 0])) := by rw [ef56, va_up_ne _ _ (hnew h615 w55)]; exact h615
          have h618 : f27 bu = some (.inr (0, [.ref bs, .ref bp, .ref bh, .ref bf, .ref bl, .ref bg, .int 0, .int 0, .int 0])) := by rw [ef27, va_up_ne _ _ (hnew h17 w26)]; exact h17
          have n620 : bu ≠ q25 := hnew h17 w26
          have h619 : f29 bu = some (.inr (0, [.ref bs, .ref bp, .ref bh, .ref bf, .ref bl, .ref bg, .int 0, .int 0, .int 0])) := k53 _ _ h618 (ninc n620 nin0)
          have h621 : f56 bu = some (.inr (0, [.ref bs, .ref bp, .ref bh, .ref bf, .ref bl, .ref bg, .int 0, .int 0, .int 0])) := by rw [ef56, va_up_ne _ _ (hnew h619 w55)]; exact h619
          have h622 : f27 bs = some (.inl (cI G, 61, .inl (fun _ => 0))) := by rw [ef27, va_up_ne _ _ (hnew h18 w26)]; exact h18
          have n624 : bs ≠ q25 := hnew h18 w26
          have h623 : f29 bs = some (.inl (cI G, 61, .inl (fun _ => 0))) := k53 _ _ h622 (ninc n624 nin0)
          have h625 : f56 bs = some (.inl (cI G, 61, .inl (fun _ => 0))) := by rw [ef56, va_up_ne _ _ (hnew h623 w55)]; exact h623
          have h626 : f27 bp = some (.inl (cI G, 240, .inl (fun _ => 0))) := by rw [ef27, va_up_ne _ _ (hnew h19 w26)]; exact h19
          have n628 : bp ≠ q25 := hnew h19 w26
          have h627 : f29 bp = some (.inl (cI G, 240, .inl (fun _ => 0))) := k53 _ _ h626 (ninc n628 nin0)
          have h629 : f56 bp = some (.inl (cI G, 240, .inl (fun _ => 0))) := by rw [ef56, va_up_ne _ _ (hnew h627 w55)]; exact h627
          have h630 : f27 bh = some (.inl (cZ G, 240, .inl (fun _ => 0))) := by rw [ef27, va_up_ne _ _ (hnew h20 w26)]; exact h20
          have n632 : bh ≠ q25 := hnew h20 w26
          have h631 : f29 bh = some (.inl (cZ G, 240, .inl (fun _ => 0))) := k53 _ _ h630 (ninc n632 nin0)
          have h633 : f56 bh = some (.inl (cZ G, 240, .inl (fun _ => 0))) := by rw [ef56, va_up_ne _ _ (hnew h631 w55)]; exact h631
          have h634 : f27 bf = some (.inl (cI G, 3, .inl (upd (upd (upd (fun _ => 0) (0 : Int32).toNatClampNeg 0) (1 : Int32).toNatClampNeg 1) (2 : Int32).toNatClampNeg 2))) := by rw [ef27, va_up_ne _ _ (hnew h21 w26)]; exact h21
          have n636 : bf ≠ q25 := hnew h21 w26
          have h635 : f29 bf = some (.inl (cI G, 3, .inl (upd (upd (upd (fun _ => 0) (0 : Int32).toNatClampNeg 0) (1 : Int32).toNatClampNeg 1) (2 : Int32).toNatClampNeg 2))) := k53 _ _ h634 (ninc n636 nin0)
          have h637 : f56 bf = some (.inl (cI G, 3, .inl (upd (upd (upd (fun _ => 0) (0 : Int32).toNatClampNeg 0) (1 : Int32).toNatClampNeg 1) (2 : Int32).toNatClampNeg 2))) := by rw [ef56, va_up_ne _ _ (hnew h635 w55)]; exact h635
          have h638 : f27 bl = some (.inl (cI G, 3, .inl (fun j => if j < 3 then (-1) else (fun _ => 0) j))) := by rw [ef27, va_up_ne _ _ (hnew h22 w26)]; exact h22
          have n640 : bl ≠ q25 := hnew h22 w26
          have h639 : f29 bl = some (.inl (cI G, 3, .inl (fun j => if j < 3 then (-1) else (fun _ => 0) j))) := k53 _ _ h638 (ninc n640 nin0)
          have h641 : f56 bl = some (.inl (cI G, 3, .inl (fun j => if j < 3 then (-1) else (fun _ => 0) j))) := by rw [ef56, va_up_ne _ _ (hnew h639 w55)]; exact h639
          have h642 : f27 bg = some (.inl (cI G, 60, .inl (fun _ => 0))) := by rw [ef27, va_up_ne _ _ (hnew h23 w26)]; exact h23
          have n644 : bg ≠ q25 := hnew h23 w26
          have h643 : f29 bg = some (.inl (cI G, 60, .inl (fun _ => 0))) := k53 _ _ h642 (ninc n644 nin0)
          have h645 : f56 bg = some (.inl (cI G, 60, .inl (fun _ => 0))) := by rw [ef56, va_up_ne _ _ (hnew h643 w55)]; exact h643
          have n646 : bp ≠ q54 := hnew h627 w55
          have n647 : bs ≠ q54 := hnew h623 w55
          have n648 : nq1 ≠ q54 := hnew h611 w55
          have n649 : nq0 ≠ q54 := hnew h591 w55
          have n650 : na1 ≠ q54 := hnew h607 w55
          have n651 : na0 ≠ q54 := hnew h587 w55
          have n652 : nw1 ≠ q54 := hnew h603 w55
          have n653 : nw0 ≠ q54 := hnew h583 w55
          refine hp_SH (As := [.ref q1, .int (xs 1), .ref q54]) (rest := []) B0 hw hS (c_L_close hl G f56 q1 ez eo bu nw0 na0 nq0 nr0 nw1 na1 nq1 nr1 bs bp bh bf bl bg q54 ⟨h577, h581, h585, h589, h593, h597, h601, h605, h609, h613, h617, h621, h625, h629, h633, h637, h641, h645, n_wq0, n_wq1, n_sp⟩ (ninc (Ne.symm n653) (ninc (Ne.symm n652) (ninc (Ne.symm n651) (ninc (Ne.symm n650) (ninc (Ne.symm n649) (ninc (Ne.symm n648) (ninc (Ne.symm n647) (ninc (Ne.symm n646) nin0)))))))) h57 (xs 1)) mH_L_close qM_L_101 rfl rfl hl9.1 (Nat.le_of_ble_eq_true rfl) ⟨⟨Nat.le_of_ble_eq_true rfl, Nat.le_of_ble_eq_true rfl⟩, Nat.le_of_ble_eq_true rfl, Nat.le_of_ble_eq_true rfl⟩ dL_law_428 (fun E ce q9 f654 H locs hPX hw hS hce hcv hcl => ?_) (fun v f654 H locs hP hw hS => ?_)
          · exact hPX.elim
          · obtain ⟨ev9, h655, k656⟩ := hP
            subst ev9
            refine W.eq (g2 := F0 m 431 ls [.int (spc (sE (xs 1)) False)]) rfl ?_
            refine lv_istore (lv' := [(5, .int (spc (sE (xs 1)) False)), (4, .int 0), (3, .ref q54), (2, .ref q25), (1, .ref q1), (0, .ref b)]) hx hb dL_law_431 hl9 (by decide) rfl (fun ls hl9 => ?_)
            refine lv_aload_n hx hb dL_law_433 rfl (lv_at hl9 3 rfl) ?_
            refine lv_aload_n hx hb dL_law_434 rfl (lv_at hl9 5 rfl) ?_
            refine lv_iload hx hb dL_law_435 (lv_at hl9 1 rfl) ?_
            refine lv_iconst (v := 1) hx hb dL_law_437 (by decide) ?_
            refine lv_iadd hx hb dL_law_438 ?_
            refine hp_c (v := 1) (by decide) ?_
            refine va_sld hx hb hX hbl hbA hS (by unfold vp_in; decide) dL_law_439 ?_
            refine hp_c (v := xs 1) rfl ?_
            have h657 : f56 q25 = some (.inr (5, [.int 0, .ref dW, .ref dA, .ref dQ, .ref dM, .ref dS, .ref dL, .ref dR, .ref dT, .ref dZ, .ref dI, .ref dH, .ref dN, .ref dK, .ref dJ, .ref dU, .ref dO, .int 0, .int 0, .ref dF, .ref dP, .ref dE, .ref dX, .ref dY, .int 0, .int 0, .ref dG])) := by rw [ef56, va_up_ne _ _ (hnew h30 w55)]; exact h30
            have n659 : q25 ≠ q54 := hnew h30 w55
            have h658 : f654 q25 = some (.inr (5, [.int 0, .ref dW, .ref dA, .ref dQ, .ref dM, .ref dS, .ref dL, .ref dR, .ref dT, .ref dZ, .ref dI, .ref dH, .ref dN, .ref dK, .ref dJ, .ref dU, .ref dO, .int 0, .int 0, .ref dF, .ref dP, .ref dE, .ref dX, .ref dY, .int 0, .int 0, .ref dG])) := k656 _ _ h657 (ninc n659 nin0)
            have h660 : f56 dS = some (.inl (cI G, 2, .inl (fun _ => 0))) := by rw [ef56, va_up_ne _ _ (hnew h35 w55)]; exact h35
            have n662 : dS ≠ q54 := hnew h35 w55
            have h661 : f654 dS = some (.inl (cI G, 2, .inl (fun _ => 0))) := k656 _ _ h660 (ninc n662 nin0)
            refine hp_V (ci := 5) (As := [.int (xs 1)]) (rest := []) B0 hw hS (c_X5_close0 hl G f654 q25 dW dA dQ dM dS dL dR dT dZ dI dH dN dK dJ dU dO dF dP dE dX dY dG 0 h658 h661  (xs 1)) mV_X5_close qM_L_103 rfl h658 rfl rfl hl9.1 (Nat.le_of_ble_eq_true rfl) ⟨⟨Nat.le_of_ble_eq_true rfl, Nat.le_of_ble_eq_true rfl⟩, Nat.le_of_ble_eq_true rfl, Nat.le_of_ble_eq_true rfl⟩ dL_law_440 (fun E ce q9 f663 H locs hPX hw hS hce hcv hcl => ?_) (fun v f663 H locs hP hw hS => ?_)
            · exact hPX.elim
            · obtain ⟨⟨r664, ev9, h665⟩, ⟨c666, h667⟩, k668⟩ := hP
              subst ev9
              refine W.eq (g2 := F0 m 443 ls [.int r664]) rfl ?_
              refine lv_istore (lv' := [(6, .int r664), (5, .int (spc (sE (xs 1)) False)), (4, .int 0), (3, .ref q54), (2, .ref q25), (1, .ref q1), (0, .ref b)]) hx hb dL_law_443 hl9 (by decide) rfl (fun ls hl9 => ?_)
              refine lv_aload_n hx hb dL_law_445 rfl (lv_at hl9 4 rfl) ?_
              refine hp_V (ci := 5) (As := []) (rest := []) B0 hw hS (c_X5_thrown hl G f663 q25 (spc (sE (xs 1)) False) c666 h667) mV_X5_thrown qM_L_86 rfl h667 rfl rfl hl9.1 (Nat.le_of_ble_eq_true rfl) ⟨⟨Nat.le_of_ble_eq_true rfl, Nat.le_of_ble_eq_true rfl⟩, Nat.le_of_ble_eq_true rfl, Nat.le_of_ble_eq_true rfl⟩ dL_law_446 (fun E ce q9 f669 H locs hPX hw hS hce hcv hcl => ?_) (fun v f669 H locs hP hw hS => ?_)
              · exact hPX.elim
              · obtain ⟨ev9, ef9⟩ := hP
                rw [ef9] at hw
                subst ev9
                refine W.eq (g2 := F0 m 449 ls [.int (spc (sE (xs 1)) False)]) rfl ?_
                refine lv_iload hx hb dL_law_449 (lv_at hl9 1 rfl) ?_
                refine lv_icmp_eq (tgt := 456) hx hb dL_law_451 (by decide) (fun _ => ?_) (fun c9 => absurd rfl c9)
                refine lv_iload hx hb dL_law_456 (lv_at hl9 1 rfl) ?_
                refine lv_if_ne (tgt := 473) hx hb dL_law_458 (by decide) (fun _ => ?_) (fun c9 => absurd c9 spc_F)
                refine lv_goto (tgt := 1305) hx hb dL_law_473 (by decide) ?_
                refine lv_iinc (v := 4) (lv' := [(4, .int 4), (6, .int r664), (5, .int (spc (sE (xs 1)) False)), (3, .ref q54), (2, .ref q25), (1, .ref q1), (0, .ref b)]) hx hb dL_law_1305 hl9 (k := 2) rfl (by decide) (by decide) rfl (fun ls hl9 => ?_)
                refine lv_goto (tgt := 23) hx hb dL_law_1308 (by decide) ?_
                refine lv_iload hx hb dL_law_23 (lv_at hl9 0 rfl) ?_
                refine lv_aload_n hx hb dL_law_25 rfl (lv_at hl9 6 rfl) ?_
                refine va_slen hx hb hX hbl hbA hS dL_law_26 ?_
                refine hp_c (v := 4) rfl ?_
                refine lv_iconst (v := 4) hx hb dL_law_27 (by decide) ?_
                refine lv_isub hx hb dL_law_28 ?_
                refine hp_c (v := 0) (by decide) ?_
                refine lv_icmp_gt (tgt := 1311) hx hb dL_law_29 (by decide) (fun _ => ?_) (fun c9 => absurd (by decide) c9)
                refine lv_iconst (v := 1) hx hb dL_law_1311 (by decide) ?_
                refine va_forget (fun q hq => hFs _ (hS.2.2 q hq)) ?_
                refine W.widen (k := 600002) (n := 7302232) (Nat.le_of_ble_eq_true rfl) (Nat.le_of_ble_eq_true rfl) ?_
                exact lw_ret hx hb hr hlocks dL_law_1312
        · refine lv_tableIn (off := 437) (tgt := 476) hx hb dL_law_39 (by decide) (by decide) (by decide) (by decide) ?_
          refine lv_aload_n hx hb dL_law_476 rfl (lv_at hl9 3 rfl) ?_
          refine lv_aload_n hx hb dL_law_477 rfl (lv_at hl9 4 rfl) ?_
          refine lv_iload hx hb dL_law_478 (lv_at hl9 0 rfl) ?_
          refine lv_iconst (v := 1) hx hb dL_law_480 (by decide) ?_
          refine lv_iadd hx hb dL_law_481 ?_
          refine hp_c (v := 1) (by decide) ?_
          refine va_sld hx hb hX hbl hbA hS (by unfold vp_in; decide) dL_law_482 ?_
          refine hp_c (v := xs 1) rfl ?_
          refine lv_aload_n hx hb dL_law_483 rfl (lv_at hl9 1 rfl) ?_
          have h670 : f27 q1 = some (.inr (4, [.ref ez, .ref eo, .ref bu])) := by rw [ef27, va_up_ne _ _ (hnew h6 w26)]; exact h6
          have n672 : q1 ≠ q25 := hnew h6 w26
          have h671 : f29 q1 = some (.inr (4, [.ref ez, .ref eo, .ref bu])) := k53 _ _ h670 (ninc n672 nin0)
          have h673 : f56 q1 = some (.inr (4, [.ref ez, .ref eo, .ref bu])) := by rw [ef56, va_up_ne _ _ (hnew h671 w55)]; exact h671
          have h674 : f27 ez = some (.inr (1, [.ref nw0, .ref na0, .ref nq0, .ref nr0, .int 1, .int 0, .int 0, .int 0, .int (-1), .int 0, .int 0])) := by rw [ef27, va_up_ne _ _ (hnew h7 w26)]; exact h7
          have n676 : ez ≠ q25 := hnew h7 w26
          have h675 : f29 ez = some (.inr (1, [.ref nw0, .ref na0, .ref nq0, .ref nr0, .int 1, .int 0, .int 0, .int 0, .int (-1), .int 0, .int 0])) := k53 _ _ h674 (ninc n676 nin0)
          have h677 : f56 ez = some (.inr (1, [.ref nw0, .ref na0, .ref nq0, .ref nr0, .int 1, .int 0, .int 0, .int 0, .int (-1), .int 0, .int 0])) := by rw [ef56, va_up_ne _ _ (hnew h675 w55)]; exact h675
          have h678 : f27 nw0 = some (.inl (cI G, 6, .inl (fun j => if j < 6 then (-1) else (fun _ => 0) j))) := by rw [ef27, va_up_ne _ _ (hnew h8 w26)]; exact h8
          have n680 : nw0 ≠ q25 := hnew h8 w26
          have h679 : f29 nw0 = some (.inl (cI G, 6, .inl (fun j => if j < 6 then (-1) else (fun _ => 0) j))) := k53 _ _ h678 (ninc n680 nin0)
          have h681 : f56 nw0 = some (.inl (cI G, 6, .inl (fun j => if j < 6 then (-1) else (fun _ => 0) j))) := by rw [ef56, va_up_ne _ _ (hnew h679 w55)]; exact h679
          have h682 : f27 na0 = some (.inl (cI G, 6, .inl (fun _ => 0))) := by rw [ef27, va_up_ne _ _ (hnew h9 w26)]; exact h9
          have n684 : na0 ≠ q25 := hnew h9 w26
          have h683 : f29 na0 = some (.inl (cI G, 6, .inl (fun _ => 0))) := k53 _ _ h682 (ninc n684 nin0)
          have h685 : f56 na0 = some (.inl (cI G, 6, .inl (fun _ => 0))) := by rw [ef56, va_up_ne _ _ (hnew h683 w55)]; exact h683
          have h686 : f27 nq0 = some (.inl (cI G, 6, .inl (fun j => if j < 6 then (-1) else (fun _ => 0) j))) := by rw [ef27, va_up_ne _ _ (hnew h10 w26)]; exact h10
          have n688 : nq0 ≠ q25 := hnew h10 w26
          have h687 : f29 nq0 = some (.inl (cI G, 6, .inl (fun j => if j < 6 then (-1) else (fun _ => 0) j))) := k53 _ _ h686 (ninc n688 nin0)
          have h689 : f56 nq0 = some (.inl (cI G, 6, .inl (fun j => if j < 6 then (-1) else (fun _ => 0) j))) := by rw [ef56, va_up_ne _ _ (hnew h687 w55)]; exact h687
          have h690 : f27 nr0 = some (.inr (3, [.null, .null, .int 0])) := by rw [ef27, va_up_ne _ _ (hnew h11 w26)]; exact h11
          have n692 : nr0 ≠ q25 := hnew h11 w26
          have h691 : f29 nr0 = some (.inr (3, [.null, .null, .int 0])) := k53 _ _ h690 (ninc n692 nin0)
          have h693 : f56 nr0 = some (.inr (3, [.null, .null, .int 0])) := by rw [ef56, va_up_ne _ _ (hnew h691 w55)]; exact h691
          have h694 : f27 eo = some (.inr (1, [.ref nw1, .ref na1, .ref nq1, .ref nr1, .int 2, .int 0, .int 0, .int 0, .int (-1), .int 0, .int 0])) := by rw [ef27, va_up_ne _ _ (hnew h12 w26)]; exact h12
          have n696 : eo ≠ q25 := hnew h12 w26
          have h695 : f29 eo = some (.inr (1, [.ref nw1, .ref na1, .ref nq1, .ref nr1, .int 2, .int 0, .int 0, .int 0, .int (-1), .int 0, .int 0])) := k53 _ _ h694 (ninc n696 nin0)
          have h697 : f56 eo = some (.inr (1, [.ref nw1, .ref na1, .ref nq1, .ref nr1, .int 2, .int 0, .int 0, .int 0, .int (-1), .int 0, .int 0])) := by rw [ef56, va_up_ne _ _ (hnew h695 w55)]; exact h695
          have h698 : f27 nw1 = some (.inl (cI G, 6, .inl (fun j => if j < 6 then (-1) else (fun _ => 0) j))) := by rw [ef27, va_up_ne _ _ (hnew h13 w26)]; exact h13
          have n700 : nw1 ≠ q25 := hnew h13 w26
          have h699 : f29 nw1 = some (.inl (cI G, 6, .inl (fun j => if j < 6 then (-1) else (fun _ => 0) j))) := k53 _ _ h698 (ninc n700 nin0)
          have h701 : f56 nw1 = some (.inl (cI G, 6, .inl (fun j => if j < 6 then (-1) else (fun _ => 0) j))) := by rw [ef56, va_up_ne _ _ (hnew h699 w55)]; exact h699
          have h702 : f27 na1 = some (.inl (cI G, 6, .inl (fun _ => 0))) := by rw [ef27, va_up_ne _ _ (hnew h14 w26)]; exact h14
          have n704 : na1 ≠ q25 := hnew h14 w26
          have h703 : f29 na1 = some (.inl (cI G, 6, .inl (fun _ => 0))) := k53 _ _ h702 (ninc n704 nin0)
          have h705 : f56 na1 = some (.inl (cI G, 6, .inl (fun _ => 0))) := by rw [ef56, va_up_ne _ _ (hnew h703 w55)]; exact h703
          have h706 : f27 nq1 = some (.inl (cI G, 6, .inl (fun j => if j < 6 then (-1) else (fun _ => 0) j))) := by rw [ef27, va_up_ne _ _ (hnew h15 w26)]; exact h15
          have n708 : nq1 ≠ q25 := hnew h15 w26
          have h707 : f29 nq1 = some (.inl (cI G, 6, .inl (fun j => if j < 6 then (-1) else (fun _ => 0) j))) := k53 _ _ h706 (ninc n708 nin0)
          have h709 : f56 nq1 = some (.inl (cI G, 6, .inl (fun j => if j < 6 then (-1) else (fun _ => 0) j))) := by rw [ef56, va_up_ne _ _ (hnew h707 w55)]; exact h707
          have h710 : f27 nr1 = some (.inr (3, [.null, .null, .int 0])) := by rw [ef27, va_up_ne _ _ (hnew h16 w26)]; exact h16
          have n712 : nr1 ≠ q25 := hnew h16 w26
          have h711 : f29 nr1 = some (.inr (3, [.null, .null, .int 0])) := k53 _ _ h710 (ninc n712 nin0)
          have h713 : f56 nr1 = some (.inr (3, [.null, .null, .int 0])) := by rw [ef56, va_up_ne _ _ (hnew h711 w55)]; exact h711
          have h714 : f27 bu = some (.inr (0, [.ref bs, .ref bp, .ref bh, .ref bf, .ref bl, .ref bg, .int 0, .int 0, .int 0])) := by rw [ef27, va_up_ne _ _ (hnew h17 w26)]; exact h17
          have n716 : bu ≠ q25 := hnew h17 w26
          have h715 : f29 bu = some (.inr (0, [.ref bs, .ref bp, .ref bh, .ref bf, .ref bl, .ref bg, .int 0, .int 0, .int 0])) := k53 _ _ h714 (ninc n716 nin0)
          have h717 : f56 bu = some (.inr (0, [.ref bs, .ref bp, .ref bh, .ref bf, .ref bl, .ref bg, .int 0, .int 0, .int 0])) := by rw [ef56, va_up_ne _ _ (hnew h715 w55)]; exact h715
          have h718 : f27 bs = some (.inl (cI G, 61, .inl (fun _ => 0))) := by rw [ef27, va_up_ne _ _ (hnew h18 w26)]; exact h18
          have n720 : bs ≠ q25 := hnew h18 w26
          have h719 : f29 bs = some (.inl (cI G, 61, .inl (fun _ => 0))) := k53 _ _ h718 (ninc n720 nin0)
          have h721 : f56 bs = some (.inl (cI G, 61, .inl (fun _ => 0))) := by rw [ef56, va_up_ne _ _ (hnew h719 w55)]; exact h719
          have h722 : f27 bp = some (.inl (cI G, 240, .inl (fun _ => 0))) := by rw [ef27, va_up_ne _ _ (hnew h19 w26)]; exact h19
          have n724 : bp ≠ q25 := hnew h19 w26
          have h723 : f29 bp = some (.inl (cI G, 240, .inl (fun _ => 0))) := k53 _ _ h722 (ninc n724 nin0)
          have h725 : f56 bp = some (.inl (cI G, 240, .inl (fun _ => 0))) := by rw [ef56, va_up_ne _ _ (hnew h723 w55)]; exact h723
          have h726 : f27 bh = some (.inl (cZ G, 240, .inl (fun _ => 0))) := by rw [ef27, va_up_ne _ _ (hnew h20 w26)]; exact h20
          have n728 : bh ≠ q25 := hnew h20 w26
          have h727 : f29 bh = some (.inl (cZ G, 240, .inl (fun _ => 0))) := k53 _ _ h726 (ninc n728 nin0)
          have h729 : f56 bh = some (.inl (cZ G, 240, .inl (fun _ => 0))) := by rw [ef56, va_up_ne _ _ (hnew h727 w55)]; exact h727
          have h730 : f27 bf = some (.inl (cI G, 3, .inl (upd (upd (upd (fun _ => 0) (0 : Int32).toNatClampNeg 0) (1 : Int32).toNatClampNeg 1) (2 : Int32).toNatClampNeg 2))) := by rw [ef27, va_up_ne _ _ (hnew h21 w26)]; exact h21
          have n732 : bf ≠ q25 := hnew h21 w26
          have h731 : f29 bf = some (.inl (cI G, 3, .inl (upd (upd (upd (fun _ => 0) (0 : Int32).toNatClampNeg 0) (1 : Int32).toNatClampNeg 1) (2 : Int32).toNatClampNeg 2))) := k53 _ _ h730 (ninc n732 nin0)
          have h733 : f56 bf = some (.inl (cI G, 3, .inl (upd (upd (upd (fun _ => 0) (0 : Int32).toNatClampNeg 0) (1 : Int32).toNatClampNeg 1) (2 : Int32).toNatClampNeg 2))) := by rw [ef56, va_up_ne _ _ (hnew h731 w55)]; exact h731
          have h734 : f27 bl = some (.inl (cI G, 3, .inl (fun j => if j < 3 then (-1) else (fun _ => 0) j))) := by rw [ef27, va_up_ne _ _ (hnew h22 w26)]; exact h22
          have n736 : bl ≠ q25 := hnew h22 w26
          have h735 : f29 bl = some (.inl (cI G, 3, .inl (fun j => if j < 3 then (-1) else (fun _ => 0) j))) := k53 _ _ h734 (ninc n736 nin0)
          have h737 : f56 bl = some (.inl (cI G, 3, .inl (fun j => if j < 3 then (-1) else (fun _ => 0) j))) := by rw [ef56, va_up_ne _ _ (hnew h735 w55)]; exact h735
          have h738 : f27 bg = some (.inl (cI G, 60, .inl (fun _ => 0))) := by rw [ef27, va_up_ne _ _ (hnew h23 w26)]; exact h23
          have n740 : bg ≠ q25 := hnew h23 w26
          have h739 : f29 bg = some (.inl (cI G, 60, .inl (fun _ => 0))) := k53 _ _ h738 (ninc n740 nin0)
          have h741 : f56 bg = some (.inl (cI G, 60, .inl (fun _ => 0))) := by rw [ef56, va_up_ne _ _ (hnew h739 w55)]; exact h739
          have n742 : bp ≠ q54 := hnew h723 w55
          have n743 : bs ≠ q54 := hnew h719 w55
          have n744 : nq1 ≠ q54 := hnew h707 w55
          have n745 : nq0 ≠ q54 := hnew h687 w55
          have n746 : na1 ≠ q54 := hnew h703 w55
          have n747 : na0 ≠ q54 := hnew h683 w55
          have n748 : nw1 ≠ q54 := hnew h699 w55
          have n749 : nw0 ≠ q54 := hnew h679 w55
          refine hp_SH (As := [.ref q1, .int (xs 1), .ref q54]) (rest := []) B0 hw hS (c_L_deliver hl G f56 q1 ez eo bu nw0 na0 nq0 nr0 nw1 na1 nq1 nr1 bs bp bh bf bl bg q54 ⟨h673, h677, h681, h685, h689, h693, h697, h701, h705, h709, h713, h717, h721, h725, h729, h733, h737, h741, n_wq0, n_wq1, n_sp⟩ (ninc (Ne.symm n749) (ninc (Ne.symm n748) (ninc (Ne.symm n747) (ninc (Ne.symm n746) (ninc (Ne.symm n745) (ninc (Ne.symm n744) (ninc (Ne.symm n743) (ninc (Ne.symm n742) nin0)))))))) h57 (xs 1)) mH_L_deliver qM_L_104 rfl rfl hl9.1 (Nat.le_of_ble_eq_true rfl) ⟨⟨Nat.le_of_ble_eq_true rfl, Nat.le_of_ble_eq_true rfl⟩, Nat.le_of_ble_eq_true rfl, Nat.le_of_ble_eq_true rfl⟩ dL_law_484 (fun E ce q9 f750 H locs hPX hw hS hce hcv hcl => ?_) (fun v f750 H locs hP hw hS => ?_)
          · exact hPX.elim
          · obtain ⟨ev9, h751, k752⟩ := hP
            subst ev9
            refine W.eq (g2 := F0 m 487 ls [.int (spc (sE (xs 1)) False)]) rfl ?_
            refine lv_istore (lv' := [(5, .int (spc (sE (xs 1)) False)), (4, .int 0), (3, .ref q54), (2, .ref q25), (1, .ref q1), (0, .ref b)]) hx hb dL_law_487 hl9 (by decide) rfl (fun ls hl9 => ?_)
            refine lv_aload_n hx hb dL_law_489 rfl (lv_at hl9 3 rfl) ?_
            refine lv_aload_n hx hb dL_law_490 rfl (lv_at hl9 5 rfl) ?_
            refine lv_iload hx hb dL_law_491 (lv_at hl9 1 rfl) ?_
            refine lv_iconst (v := 1) hx hb dL_law_493 (by decide) ?_
            refine lv_iadd hx hb dL_law_494 ?_
            refine hp_c (v := 1) (by decide) ?_
            refine va_sld hx hb hX hbl hbA hS (by unfold vp_in; decide) dL_law_495 ?_
            refine hp_c (v := xs 1) rfl ?_
            have h753 : f56 q25 = some (.inr (5, [.int 0, .ref dW, .ref dA, .ref dQ, .ref dM, .ref dS, .ref dL, .ref dR, .ref dT, .ref dZ, .ref dI, .ref dH, .ref dN, .ref dK, .ref dJ, .ref dU, .ref dO, .int 0, .int 0, .ref dF, .ref dP, .ref dE, .ref dX, .ref dY, .int 0, .int 0, .ref dG])) := by rw [ef56, va_up_ne _ _ (hnew h30 w55)]; exact h30
            have n755 : q25 ≠ q54 := hnew h30 w55
            have h754 : f750 q25 = some (.inr (5, [.int 0, .ref dW, .ref dA, .ref dQ, .ref dM, .ref dS, .ref dL, .ref dR, .ref dT, .ref dZ, .ref dI, .ref dH, .ref dN, .ref dK, .ref dJ, .ref dU, .ref dO, .int 0, .int 0, .ref dF, .ref dP, .ref dE, .ref dX, .ref dY, .int 0, .int 0, .ref dG])) := k752 _ _ h753 (ninc n755 nin0)
            have h756 : f56 dN = some (.inl (cI G, 2, .inl (fun _ => 0))) := by rw [ef56, va_up_ne _ _ (hnew h42 w55)]; exact h42
            have n758 : dN ≠ q54 := hnew h42 w55
            have h757 : f750 dN = some (.inl (cI G, 2, .inl (fun _ => 0))) := k752 _ _ h756 (ninc n758 nin0)
            refine hp_V (ci := 5) (As := [.int (xs 1)]) (rest := []) B0 hw hS (c_X5_deliver0 hl G f750 q25 dW dA dQ dM dS dL dR dT dZ dI dH dN dK dJ dU dO dF dP dE dX dY dG 0 h754 h757  (xs 1)) mV_X5_deliver qM_L_106 rfl h754 rfl rfl hl9.1 (Nat.le_of_ble_eq_true rfl) ⟨⟨Nat.le_of_ble_eq_true rfl, Nat.le_of_ble_eq_true rfl⟩, Nat.le_of_ble_eq_true rfl, Nat.le_of_ble_eq_true rfl⟩ dL_law_496 (fun E ce q9 f759 H locs hPX hw hS hce hcv hcl => ?_) (fun v f759 H locs hP hw hS => ?_)
            · exact hPX.elim
            · obtain ⟨⟨r760, ev9, h761⟩, ⟨c762, h763⟩, k764⟩ := hP
              subst ev9
              refine W.eq (g2 := F0 m 499 ls [.int r760]) rfl ?_
              refine lv_istore (lv' := [(6, .int r760), (5, .int (spc (sE (xs 1)) False)), (4, .int 0), (3, .ref q54), (2, .ref q25), (1, .ref q1), (0, .ref b)]) hx hb dL_law_499 hl9 (by decide) rfl (fun ls hl9 => ?_)
              refine lv_aload_n hx hb dL_law_501 rfl (lv_at hl9 4 rfl) ?_
              refine hp_V (ci := 5) (As := []) (rest := []) B0 hw hS (c_X5_thrown hl G f759 q25 (spc (sE (xs 1)) False) c762 h763) mV_X5_thrown qM_L_86 rfl h763 rfl rfl hl9.1 (Nat.le_of_ble_eq_true rfl) ⟨⟨Nat.le_of_ble_eq_true rfl, Nat.le_of_ble_eq_true rfl⟩, Nat.le_of_ble_eq_true rfl, Nat.le_of_ble_eq_true rfl⟩ dL_law_502 (fun E ce q9 f765 H locs hPX hw hS hce hcv hcl => ?_) (fun v f765 H locs hP hw hS => ?_)
              · exact hPX.elim
              · obtain ⟨ev9, ef9⟩ := hP
                rw [ef9] at hw
                subst ev9
                refine W.eq (g2 := F0 m 505 ls [.int (spc (sE (xs 1)) False)]) rfl ?_
                refine lv_iload hx hb dL_law_505 (lv_at hl9 1 rfl) ?_
                refine lv_icmp_eq (tgt := 512) hx hb dL_law_507 (by decide) (fun _ => ?_) (fun c9 => absurd rfl c9)
                refine lv_iload hx hb dL_law_512 (lv_at hl9 1 rfl) ?_
                refine lv_if_ne (tgt := 529) hx hb dL_law_514 (by decide) (fun _ => ?_) (fun c9 => absurd c9 spc_F)
                refine lv_goto (tgt := 1305) hx hb dL_law_529 (by decide) ?_
                refine lv_iinc (v := 4) (lv' := [(4, .int 4), (6, .int r760), (5, .int (spc (sE (xs 1)) False)), (3, .ref q54), (2, .ref q25), (1, .ref q1), (0, .ref b)]) hx hb dL_law_1305 hl9 (k := 2) rfl (by decide) (by decide) rfl (fun ls hl9 => ?_)
                refine lv_goto (tgt := 23) hx hb dL_law_1308 (by decide) ?_
                refine lv_iload hx hb dL_law_23 (lv_at hl9 0 rfl) ?_
                refine lv_aload_n hx hb dL_law_25 rfl (lv_at hl9 6 rfl) ?_
                refine va_slen hx hb hX hbl hbA hS dL_law_26 ?_
                refine hp_c (v := 4) rfl ?_
                refine lv_iconst (v := 4) hx hb dL_law_27 (by decide) ?_
                refine lv_isub hx hb dL_law_28 ?_
                refine hp_c (v := 0) (by decide) ?_
                refine lv_icmp_gt (tgt := 1311) hx hb dL_law_29 (by decide) (fun _ => ?_) (fun c9 => absurd (by decide) c9)
                refine lv_iconst (v := 1) hx hb dL_law_1311 (by decide) ?_
                refine va_forget (fun q hq => hFs _ (hS.2.2 q hq)) ?_
                refine W.widen (k := 600002) (n := 7302232) (Nat.le_of_ble_eq_true rfl) (Nat.le_of_ble_eq_true rfl) ?_
                exact lw_ret hx hb hr hlocks dL_law_1312
        · refine lv_tableIn (off := 493) (tgt := 532) hx hb dL_law_39 (by decide) (by decide) (by decide) (by decide) ?_
          refine lv_aload_n hx hb dL_law_532 rfl (lv_at hl9 3 rfl) ?_
          refine lv_aload_n hx hb dL_law_533 rfl (lv_at hl9 4 rfl) ?_
          refine lv_iload hx hb dL_law_534 (lv_at hl9 0 rfl) ?_
          refine lv_iconst (v := 1) hx hb dL_law_536 (by decide) ?_
          refine lv_iadd hx hb dL_law_537 ?_
          refine hp_c (v := 1) (by decide) ?_
          refine va_sld hx hb hX hbl hbA hS (by unfold vp_in; decide) dL_law_538 ?_
          refine hp_c (v := xs 1) rfl ?_
          refine lv_aload_n hx hb dL_law_539 rfl (lv_at hl9 1 rfl) ?_
          have h766 : f27 q1 = some (.inr (4, [.ref ez, .ref eo, .ref bu])) := by rw [ef27, va_up_ne _ _ (hnew h6 w26)]; exact h6
          have n768 : q1 ≠ q25 := hnew h6 w26
          have h767 : f29 q1 = some (.inr (4, [.ref ez, .ref eo, .ref bu])) := k53 _ _ h766 (ninc n768 nin0)
          have h769 : f56 q1 = some (.inr (4, [.ref ez, .ref eo, .ref bu])) := by rw [ef56, va_up_ne _ _ (hnew h767 w55)]; exact h767
          have h770 : f27 ez = some (.inr (1, [.ref nw0, .ref na0, .ref nq0, .ref nr0, .int 1, .int 0, .int 0, .int 0, .int (-1), .int 0, .int 0])) := by rw [ef27, va_up_ne _ _ (hnew h7 w26)]; exact h7
          have n772 : ez ≠ q25 := hnew h7 w26
          have h771 : f29 ez = some (.inr (1, [.ref nw0, .ref na0, .ref nq0, .ref nr0, .int 1, .int 0, .int 0, .int 0, .int (-1), .int 0, .int 0])) := k53 _ _ h770 (ninc n772 nin0)
          have h773 : f56 ez = some (.inr (1, [.ref nw0, .ref na0, .ref nq0, .ref nr0, .int 1, .int 0, .int 0, .int 0, .int (-1), .int 0, .int 0])) := by rw [ef56, va_up_ne _ _ (hnew h771 w55)]; exact h771
          have h774 : f27 nw0 = some (.inl (cI G, 6, .inl (fun j => if j < 6 then (-1) else (fun _ => 0) j))) := by rw [ef27, va_up_ne _ _ (hnew h8 w26)]; exact h8
          have n776 : nw0 ≠ q25 := hnew h8 w26
          have h775 : f29 nw0 = some (.inl (cI G, 6, .inl (fun j => if j < 6 then (-1) else (fun _ => 0) j))) := k53 _ _ h774 (ninc n776 nin0)
          have h777 : f56 nw0 = some (.inl (cI G, 6, .inl (fun j => if j < 6 then (-1) else (fun _ => 0) j))) := by rw [ef56, va_up_ne _ _ (hnew h775 w55)]; exact h775
          have h778 : f27 na0 = some (.inl (cI G, 6, .inl (fun _ => 0))) := by rw [ef27, va_up_ne _ _ (hnew h9 w26)]; exact h9
          have n780 : na0 ≠ q25 := hnew h9 w26
          have h779 : f29 na0 = some (.inl (cI G, 6, .inl (fun _ => 0))) := k53 _ _ h778 (ninc n780 nin0)
          have h781 : f56 na0 = some (.inl (cI G, 6, .inl (fun _ => 0))) := by rw [ef56, va_up_ne _ _ (hnew h779 w55)]; exact h779
          have h782 : f27 nq0 = some (.inl (cI G, 6, .inl (fun j => if j < 6 then (-1) else (fun _ => 0) j))) := by rw [ef27, va_up_ne _ _ (hnew h10 w26)]; exact h10
          have n784 : nq0 ≠ q25 := hnew h10 w26
          have h783 : f29 nq0 = some (.inl (cI G, 6, .inl (fun j => if j < 6 then (-1) else (fun _ => 0) j))) := k53 _ _ h782 (ninc n784 nin0)
          have h785 : f56 nq0 = some (.inl (cI G, 6, .inl (fun j => if j < 6 then (-1) else (fun _ => 0) j))) := by rw [ef56, va_up_ne _ _ (hnew h783 w55)]; exact h783
          have h786 : f27 nr0 = some (.inr (3, [.null, .null, .int 0])) := by rw [ef27, va_up_ne _ _ (hnew h11 w26)]; exact h11
          have n788 : nr0 ≠ q25 := hnew h11 w26
          have h787 : f29 nr0 = some (.inr (3, [.null, .null, .int 0])) := k53 _ _ h786 (ninc n788 nin0)
          have h789 : f56 nr0 = some (.inr (3, [.null, .null, .int 0])) := by rw [ef56, va_up_ne _ _ (hnew h787 w55)]; exact h787
          have h790 : f27 eo = some (.inr (1, [.ref nw1, .ref na1, .ref nq1, .ref nr1, .int 2, .int 0, .int 0, .int 0, .int (-1), .int 0, .int 0])) := by rw [ef27, va_up_ne _ _ (hnew h12 w26)]; exact h12
          have n792 : eo ≠ q25 := hnew h12 w26
          have h791 : f29 eo = some (.inr (1, [.ref nw1, .ref na1, .ref nq1, .ref nr1, .int 2, .int 0, .int 0, .int 0, .int (-1), .int 0, .int 0])) := k53 _ _ h790 (ninc n792 nin0)
          have h793 : f56 eo = some (.inr (1, [.ref nw1, .ref na1, .ref nq1, .ref nr1, .int 2, .int 0, .int 0, .int 0, .int (-1), .int 0, .int 0])) := by rw [ef56, va_up_ne _ _ (hnew h791 w55)]; exact h791
          have h794 : f27 nw1 = some (.inl (cI G, 6, .inl (fun j => if j < 6 then (-1) else (fun _ => 0) j))) := by rw [ef27, va_up_ne _ _ (hnew h13 w26)]; exact h13
          have n796 : nw1 ≠ q25 := hnew h13 w26
          have h795 : f29 nw1 = some (.inl (cI G, 6, .inl (fun j => if j < 6 then (-1) else (fun _ => 0) j))) := k53 _ _ h794 (ninc n796 nin0)
          have h797 : f56 nw1 = some (.inl (cI G, 6, .inl (fun j => if j < 6 then (-1) else (fun _ => 0) j))) := by rw [ef56, va_up_ne _ _ (hnew h795 w55)]; exact h795
          have h798 : f27 na1 = some (.inl (cI G, 6, .inl (fun _ => 0))) := by rw [ef27, va_up_ne _ _ (hnew h14 w26)]; exact h14
          have n800 : na1 ≠ q25 := hnew h14 w26
          have h799 : f29 na1 = some (.inl (cI G, 6, .inl (fun _ => 0))) := k53 _ _ h798 (ninc n800 nin0)
          have h801 : f56 na1 = some (.inl (cI G, 6, .inl (fun _ => 0))) := by rw [ef56, va_up_ne _ _ (hnew h799 w55)]; exact h799
          have h802 : f27 nq1 = some (.inl (cI G, 6, .inl (fun j => if j < 6 then (-1) else (fun _ => 0) j))) := by rw [ef27, va_up_ne _ _ (hnew h15 w26)]; exact h15
          have n804 : nq1 ≠ q25 := hnew h15 w26
          have h803 : f29 nq1 = some (.inl (cI G, 6, .inl (fun j => if j < 6 then (-1) else (fun _ => 0) j))) := k53 _ _ h802 (ninc n804 nin0)
          have h805 : f56 nq1 = some (.inl (cI G, 6, .inl (fun j => if j < 6 then (-1) else (fun _ => 0) j))) := by rw [ef56, va_up_ne _ _ (hnew h803 w55)]; exact h803
          have h806 : f27 nr1 = some (.inr (3, [.null, .null, .int 0])) := by rw [ef27, va_up_ne _ _ (hnew h16 w26)]; exact h16
          have n808 : nr1 ≠ q25 := hnew h16 w26
          have h807 : f29 nr1 = some (.inr (3, [.null, .null, .int 0])) := k53 _ _ h806 (ninc n808 nin0)
          have h809 : f56 nr1 = some (.inr (3, [.null, .null, .int 0])) := by rw [ef56, va_up_ne _ _ (hnew h807 w55)]; exact h807
          have h810 : f27 bu = some (.inr (0, [.ref bs, .ref bp, .ref bh, .ref bf, .ref bl, .ref bg, .int 0, .int 0, .int 0])) := by rw [ef27, va_up_ne _ _ (hnew h17 w26)]; exact h17
          have n812 : bu ≠ q25 := hnew h17 w26
          have h811 : f29 bu = some (.inr (0, [.ref bs, .ref bp, .ref bh, .ref bf, .ref bl, .ref bg, .int 0, .int 0, .int 0])) := k53 _ _ h810 (ninc n812 nin0)
          have h813 : f56 bu = some (.inr (0, [.ref bs, .ref bp, .ref bh, .ref bf, .ref bl, .ref bg, .int 0, .int 0, .int 0])) := by rw [ef56, va_up_ne _ _ (hnew h811 w55)]; exact h811
          have h814 : f27 bs = some (.inl (cI G, 61, .inl (fun _ => 0))) := by rw [ef27, va_up_ne _ _ (hnew h18 w26)]; exact h18
          have n816 : bs ≠ q25 := hnew h18 w26
          have h815 : f29 bs = some (.inl (cI G, 61, .inl (fun _ => 0))) := k53 _ _ h814 (ninc n816 nin0)
          have h817 : f56 bs = some (.inl (cI G, 61, .inl (fun _ => 0))) := by rw [ef56, va_up_ne _ _ (hnew h815 w55)]; exact h815
          have h818 : f27 bp = some (.inl (cI G, 240, .inl (fun _ => 0))) := by rw [ef27, va_up_ne _ _ (hnew h19 w26)]; exact h19
          have n820 : bp ≠ q25 := hnew h19 w26
          have h819 : f29 bp = some (.inl (cI G, 240, .inl (fun _ => 0))) := k53 _ _ h818 (ninc n820 nin0)
          have h821 : f56 bp = some (.inl (cI G, 240, .inl (fun _ => 0))) := by rw [ef56, va_up_ne _ _ (hnew h819 w55)]; exact h819
          have h822 : f27 bh = some (.inl (cZ G, 240, .inl (fun _ => 0))) := by rw [ef27, va_up_ne _ _ (hnew h20 w26)]; exact h20
          have n824 : bh ≠ q25 := hnew h20 w26
          have h823 : f29 bh = some (.inl (cZ G, 240, .inl (fun _ => 0))) := k53 _ _ h822 (ninc n824 nin0)
          have h825 : f56 bh = some (.inl (cZ G, 240, .inl (fun _ => 0))) := by rw [ef56, va_up_ne _ _ (hnew h823 w55)]; exact h823
          have h826 : f27 bf = some (.inl (cI G, 3, .inl (upd (upd (upd (fun _ => 0) (0 : Int32).toNatClampNeg 0) (1 : Int32).toNatClampNeg 1) (2 : Int32).toNatClampNeg 2))) := by rw [ef27, va_up_ne _ _ (hnew h21 w26)]; exact h21
          have n828 : bf ≠ q25 := hnew h21 w26
          have h827 : f29 bf = some (.inl (cI G, 3, .inl (upd (upd (upd (fun _ => 0) (0 : Int32).toNatClampNeg 0) (1 : Int32).toNatClampNeg 1) (2 : Int32).toNatClampNeg 2))) := k53 _ _ h826 (ninc n828 nin0)
          have h829 : f56 bf = some (.inl (cI G, 3, .inl (upd (upd (upd (fun _ => 0) (0 : Int32).toNatClampNeg 0) (1 : Int32).toNatClampNeg 1) (2 : Int32).toNatClampNeg 2))) := by rw [ef56, va_up_ne _ _ (hnew h827 w55)]; exact h827
          have h830 : f27 bl = some (.inl (cI G, 3, .inl (fun j => if j < 3 then (-1) else (fun _ => 0) j))) := by rw [ef27, va_up_ne _ _ (hnew h22 w26)]; exact h22
          have n832 : bl ≠ q25 := hnew h22 w26
          have h831 : f29 bl = some (.inl (cI G, 3, .inl (fun j => if j < 3 then (-1) else (fun _ => 0) j))) := k53 _ _ h830 (ninc n832 nin0)
          have h833 : f56 bl = some (.inl (cI G, 3, .inl (fun j => if j < 3 then (-1) else (fun _ => 0) j))) := by rw [ef56, va_up_ne _ _ (hnew h831 w55)]; exact h831
          have h834 : f27 bg = some (.inl (cI G, 60, .inl (fun _ => 0))) := by rw [ef27, va_up_ne _ _ (hnew h23 w26)]; exact h23
          have n836 : bg ≠ q25 := hnew h23 w26
          have h835 : f29 bg = some (.inl (cI G, 60, .inl (fun _ => 0))) := k53 _ _ h834 (ninc n836 nin0)
          have h837 : f56 bg = some (.inl (cI G, 60, .inl (fun _ => 0))) := by rw [ef56, va_up_ne _ _ (hnew h835 w55)]; exact h835
          have n838 : bp ≠ q54 := hnew h819 w55
          have n839 : bs ≠ q54 := hnew h815 w55
          have n840 : nq1 ≠ q54 := hnew h803 w55
          have n841 : nq0 ≠ q54 := hnew h783 w55
          have n842 : na1 ≠ q54 := hnew h799 w55
          have n843 : na0 ≠ q54 := hnew h779 w55
          have n844 : nw1 ≠ q54 := hnew h795 w55
          have n845 : nw0 ≠ q54 := hnew h775 w55
          refine hp_SH (As := [.ref q1, .int (xs 1), .ref q54]) (rest := []) B0 hw hS (c_L_lose hl G f56 q1 ez eo bu nw0 na0 nq0 nr0 nw1 na1 nq1 nr1 bs bp bh bf bl bg q54 ⟨h769, h773, h777, h781, h785, h789, h793, h797, h801, h805, h809, h813, h817, h821, h825, h829, h833, h837, n_wq0, n_wq1, n_sp⟩ (ninc (Ne.symm n845) (ninc (Ne.symm n844) (ninc (Ne.symm n843) (ninc (Ne.symm n842) (ninc (Ne.symm n841) (ninc (Ne.symm n840) (ninc (Ne.symm n839) (ninc (Ne.symm n838) nin0)))))))) h57 (xs 1)) mH_L_lose qM_L_107 rfl rfl hl9.1 (Nat.le_of_ble_eq_true rfl) ⟨⟨Nat.le_of_ble_eq_true rfl, Nat.le_of_ble_eq_true rfl⟩, Nat.le_of_ble_eq_true rfl, Nat.le_of_ble_eq_true rfl⟩ dL_law_540 (fun E ce q9 f846 H locs hPX hw hS hce hcv hcl => ?_) (fun v f846 H locs hP hw hS => ?_)
          · exact hPX.elim
          · obtain ⟨ev9, h847, k848⟩ := hP
            subst ev9
            refine W.eq (g2 := F0 m 543 ls [.int (spc (sE (xs 1)) False)]) rfl ?_
            refine lv_istore (lv' := [(5, .int (spc (sE (xs 1)) False)), (4, .int 0), (3, .ref q54), (2, .ref q25), (1, .ref q1), (0, .ref b)]) hx hb dL_law_543 hl9 (by decide) rfl (fun ls hl9 => ?_)
            refine lv_aload_n hx hb dL_law_545 rfl (lv_at hl9 3 rfl) ?_
            refine lv_aload_n hx hb dL_law_546 rfl (lv_at hl9 5 rfl) ?_
            refine lv_iload hx hb dL_law_547 (lv_at hl9 1 rfl) ?_
            refine lv_iconst (v := 1) hx hb dL_law_549 (by decide) ?_
            refine lv_iadd hx hb dL_law_550 ?_
            refine hp_c (v := 1) (by decide) ?_
            refine va_sld hx hb hX hbl hbA hS (by unfold vp_in; decide) dL_law_551 ?_
            refine hp_c (v := xs 1) rfl ?_
            have h849 : f56 q25 = some (.inr (5, [.int 0, .ref dW, .ref dA, .ref dQ, .ref dM, .ref dS, .ref dL, .ref dR, .ref dT, .ref dZ, .ref dI, .ref dH, .ref dN, .ref dK, .ref dJ, .ref dU, .ref dO, .int 0, .int 0, .ref dF, .ref dP, .ref dE, .ref dX, .ref dY, .int 0, .int 0, .ref dG])) := by rw [ef56, va_up_ne _ _ (hnew h30 w55)]; exact h30
            have n851 : q25 ≠ q54 := hnew h30 w55
            have h850 : f846 q25 = some (.inr (5, [.int 0, .ref dW, .ref dA, .ref dQ, .ref dM, .ref dS, .ref dL, .ref dR, .ref dT, .ref dZ, .ref dI, .ref dH, .ref dN, .ref dK, .ref dJ, .ref dU, .ref dO, .int 0, .int 0, .ref dF, .ref dP, .ref dE, .ref dX, .ref dY, .int 0, .int 0, .ref dG])) := k848 _ _ h849 (ninc n851 nin0)
            have h852 : f56 dN = some (.inl (cI G, 2, .inl (fun _ => 0))) := by rw [ef56, va_up_ne _ _ (hnew h42 w55)]; exact h42
            have n854 : dN ≠ q54 := hnew h42 w55
            have h853 : f846 dN = some (.inl (cI G, 2, .inl (fun _ => 0))) := k848 _ _ h852 (ninc n854 nin0)
            refine hp_V (ci := 5) (As := [.int (xs 1)]) (rest := []) B0 hw hS (c_X5_lose0 hl G f846 q25 dW dA dQ dM dS dL dR dT dZ dI dH dN dK dJ dU dO dF dP dE dX dY dG 0 h850 h853  (xs 1)) mV_X5_lose qM_L_109 rfl h850 rfl rfl hl9.1 (Nat.le_of_ble_eq_true rfl) ⟨⟨Nat.le_of_ble_eq_true rfl, Nat.le_of_ble_eq_true rfl⟩, Nat.le_of_ble_eq_true rfl, Nat.le_of_ble_eq_true rfl⟩ dL_law_552 (fun E ce q9 f855 H locs hPX hw hS hce hcv hcl => ?_) (fun v f855 H locs hP hw hS => ?_)
            · exact hPX.elim
            · obtain ⟨⟨r856, ev9, h857⟩, ⟨c858, h859⟩, k860⟩ := hP
              subst ev9
              refine W.eq (g2 := F0 m 555 ls [.int r856]) rfl ?_
              refine lv_istore (lv' := [(6, .int r856), (5, .int (spc (sE (xs 1)) False)), (4, .int 0), (3, .ref q54), (2, .ref q25), (1, .ref q1), (0, .ref b)]) hx hb dL_law_555 hl9 (by decide) rfl (fun ls hl9 => ?_)
              refine lv_aload_n hx hb dL_law_557 rfl (lv_at hl9 4 rfl) ?_
              refine hp_V (ci := 5) (As := []) (rest := []) B0 hw hS (c_X5_thrown hl G f855 q25 (spc (sE (xs 1)) False) c858 h859) mV_X5_thrown qM_L_86 rfl h859 rfl rfl hl9.1 (Nat.le_of_ble_eq_true rfl) ⟨⟨Nat.le_of_ble_eq_true rfl, Nat.le_of_ble_eq_true rfl⟩, Nat.le_of_ble_eq_true rfl, Nat.le_of_ble_eq_true rfl⟩ dL_law_558 (fun E ce q9 f861 H locs hPX hw hS hce hcv hcl => ?_) (fun v f861 H locs hP hw hS => ?_)
              · exact hPX.elim
              · obtain ⟨ev9, ef9⟩ := hP
                rw [ef9] at hw
                subst ev9
                refine W.eq (g2 := F0 m 561 ls [.int (spc (sE (xs 1)) False)]) rfl ?_
                refine lv_iload hx hb dL_law_561 (lv_at hl9 1 rfl) ?_
                refine lv_icmp_eq (tgt := 568) hx hb dL_law_563 (by decide) (fun _ => ?_) (fun c9 => absurd rfl c9)
                refine lv_iload hx hb dL_law_568 (lv_at hl9 1 rfl) ?_
                refine lv_if_ne (tgt := 585) hx hb dL_law_570 (by decide) (fun _ => ?_) (fun c9 => absurd c9 spc_F)
                refine lv_goto (tgt := 1305) hx hb dL_law_585 (by decide) ?_
                refine lv_iinc (v := 4) (lv' := [(4, .int 4), (6, .int r856), (5, .int (spc (sE (xs 1)) False)), (3, .ref q54), (2, .ref q25), (1, .ref q1), (0, .ref b)]) hx hb dL_law_1305 hl9 (k := 2) rfl (by decide) (by decide) rfl (fun ls hl9 => ?_)
                refine lv_goto (tgt := 23) hx hb dL_law_1308 (by decide) ?_
                refine lv_iload hx hb dL_law_23 (lv_at hl9 0 rfl) ?_
                refine lv_aload_n hx hb dL_law_25 rfl (lv_at hl9 6 rfl) ?_
                refine va_slen hx hb hX hbl hbA hS dL_law_26 ?_
                refine hp_c (v := 4) rfl ?_
                refine lv_iconst (v := 4) hx hb dL_law_27 (by decide) ?_
                refine lv_isub hx hb dL_law_28 ?_
                refine hp_c (v := 0) (by decide) ?_
                refine lv_icmp_gt (tgt := 1311) hx hb dL_law_29 (by decide) (fun _ => ?_) (fun c9 => absurd (by decide) c9)
                refine lv_iconst (v := 1) hx hb dL_law_1311 (by decide) ?_
                refine va_forget (fun q hq => hFs _ (hS.2.2 q hq)) ?_
                refine W.widen (k := 600002) (n := 7302232) (Nat.le_of_ble_eq_true rfl) (Nat.le_of_ble_eq_true rfl) ?_
                exact lw_ret hx hb hr hlocks dL_law_1312
        · refine lv_tableIn (off := 549) (tgt := 588) hx hb dL_law_39 (by decide) (by decide) (by decide) (by decide) ?_
          refine lv_aload_n hx hb dL_law_588 rfl (lv_at hl9 3 rfl) ?_
          refine lv_aload_n hx hb dL_law_589 rfl (lv_at hl9 4 rfl) ?_
          refine lv_iload hx hb dL_law_590 (lv_at hl9 0 rfl) ?_
          refine lv_iconst (v := 1) hx hb dL_law_592 (by decide) ?_
          refine lv_iadd hx hb dL_law_593 ?_
          refine hp_c (v := 1) (by decide) ?_
          refine va_sld hx hb hX hbl hbA hS (by unfold vp_in; decide) dL_law_594 ?_
          refine hp_c (v := xs 1) rfl ?_
          refine lv_aload_n hx hb dL_law_595 rfl (lv_at hl9 1 rfl) ?_
          have h862 : f27 q1 = some (.inr (4, [.ref ez, .ref eo, .ref bu])) := by rw [ef27, va_up_ne _ _ (hnew h6 w26)]; exact h6
          have n864 : q1 ≠ q25 := hnew h6 w26
          have h863 : f29 q1 = some (.inr (4, [.ref ez, .ref eo, .ref bu])) := k53 _ _ h862 (ninc n864 nin0)
          have h865 : f56 q1 = some (.inr (4, [.ref ez, .ref eo, .ref bu])) := by rw [ef56, va_up_ne _ _ (hnew h863 w55)]; exact h863
          have h866 : f27 ez = some (.inr (1, [.ref nw0, .ref na0, .ref nq0, .ref nr0, .int 1, .int 0, .int 0, .int 0, .int (-1), .int 0, .int 0])) := by rw [ef27, va_up_ne _ _ (hnew h7 w26)]; exact h7
          have n868 : ez ≠ q25 := hnew h7 w26
          have h867 : f29 ez = some (.inr (1, [.ref nw0, .ref na0, .ref nq0, .ref nr0, .int 1, .int 0, .int 0, .int 0, .int (-1), .int 0, .int 0])) := k53 _ _ h866 (ninc n868 nin0)
          have h869 : f56 ez = some (.inr (1, [.ref nw0, .ref na0, .ref nq0, .ref nr0, .int 1, .int 0, .int 0, .int 0, .int (-1), .int 0, .int 0])) := by rw [ef56, va_up_ne _ _ (hnew h867 w55)]; exact h867
          have h870 : f27 nw0 = some (.inl (cI G, 6, .inl (fun j => if j < 6 then (-1) else (fun _ => 0) j))) := by rw [ef27, va_up_ne _ _ (hnew h8 w26)]; exact h8
          have n872 : nw0 ≠ q25 := hnew h8 w26
          have h871 : f29 nw0 = some (.inl (cI G, 6, .inl (fun j => if j < 6 then (-1) else (fun _ => 0) j))) := k53 _ _ h870 (ninc n872 nin0)
          have h873 : f56 nw0 = some (.inl (cI G, 6, .inl (fun j => if j < 6 then (-1) else (fun _ => 0) j))) := by rw [ef56, va_up_ne _ _ (hnew h871 w55)]; exact h871
          have h874 : f27 na0 = some (.inl (cI G, 6, .inl (fun _ => 0))) := by rw [ef27, va_up_ne _ _ (hnew h9 w26)]; exact h9
          have n876 : na0 ≠ q25 := hnew h9 w26
          have h875 : f29 na0 = some (.inl (cI G, 6, .inl (fun _ => 0))) := k53 _ _ h874 (ninc n876 nin0)
          have h877 : f56 na0 = some (.inl (cI G, 6, .inl (fun _ => 0))) := by rw [ef56, va_up_ne _ _ (hnew h875 w55)]; exact h875
          have h878 : f27 nq0 = some (.inl (cI G, 6, .inl (fun j => if j < 6 then (-1) else (fun _ => 0) j))) := by rw [ef27, va_up_ne _ _ (hnew h10 w26)]; exact h10
          have n880 : nq0 ≠ q25 := hnew h10 w26
          have h879 : f29 nq0 = some (.inl (cI G, 6, .inl (fun j => if j < 6 then (-1) else (fun _ => 0) j))) := k53 _ _ h878 (ninc n880 nin0)
          have h881 : f56 nq0 = some (.inl (cI G, 6, .inl (fun j => if j < 6 then (-1) else (fun _ => 0) j))) := by rw [ef56, va_up_ne _ _ (hnew h879 w55)]; exact h879
          have h882 : f27 nr0 = some (.inr (3, [.null, .null, .int 0])) := by rw [ef27, va_up_ne _ _ (hnew h11 w26)]; exact h11
          have n884 : nr0 ≠ q25 := hnew h11 w26
          have h883 : f29 nr0 = some (.inr (3, [.null, .null, .int 0])) := k53 _ _ h882 (ninc n884 nin0)
          have h885 : f56 nr0 = some (.inr (3, [.null, .null, .int 0])) := by rw [ef56, va_up_ne _ _ (hnew h883 w55)]; exact h883
          have h886 : f27 eo = some (.inr (1, [.ref nw1, .ref na1, .ref nq1, .ref nr1, .int 2, .int 0, .int 0, .int 0, .int (-1), .int 0, .int 0])) := by rw [ef27, va_up_ne _ _ (hnew h12 w26)]; exact h12
          have n888 : eo ≠ q25 := hnew h12 w26
          have h887 : f29 eo = some (.inr (1, [.ref nw1, .ref na1, .ref nq1, .ref nr1, .int 2, .int 0, .int 0, .int 0, .int (-1), .int 0, .int 0])) := k53 _ _ h886 (ninc n888 nin0)
          have h889 : f56 eo = some (.inr (1, [.ref nw1, .ref na1, .ref nq1, .ref nr1, .int 2, .int 0, .int 0, .int 0, .int (-1), .int 0, .int 0])) := by rw [ef56, va_up_ne _ _ (hnew h887 w55)]; exact h887
          have h890 : f27 nw1 = some (.inl (cI G, 6, .inl (fun j => if j < 6 then (-1) else (fun _ => 0) j))) := by rw [ef27, va_up_ne _ _ (hnew h13 w26)]; exact h13
          have n892 : nw1 ≠ q25 := hnew h13 w26
          have h891 : f29 nw1 = some (.inl (cI G, 6, .inl (fun j => if j < 6 then (-1) else (fun _ => 0) j))) := k53 _ _ h890 (ninc n892 nin0)
          have h893 : f56 nw1 = some (.inl (cI G, 6, .inl (fun j => if j < 6 then (-1) else (fun _ => 0) j))) := by rw [ef56, va_up_ne _ _ (hnew h891 w55)]; exact h891
          have h894 : f27 na1 = some (.inl (cI G, 6, .inl (fun _ => 0))) := by rw [ef27, va_up_ne _ _ (hnew h14 w26)]; exact h14
          have n896 : na1 ≠ q25 := hnew h14 w26
          have h895 : f29 na1 = some (.inl (cI G, 6, .inl (fun _ => 0))) := k53 _ _ h894 (ninc n896 nin0)
          have h897 : f56 na1 = some (.inl (cI G, 6, .inl (fun _ => 0))) := by rw [ef56, va_up_ne _ _ (hnew h895 w55)]; exact h895
          have h898 : f27 nq1 = some (.inl (cI G, 6, .inl (fun j => if j < 6 then (-1) else (fun _ => 0) j))) := by rw [ef27, va_up_ne _ _ (hnew h15 w26)]; exact h15
          have n900 : nq1 ≠ q25 := hnew h15 w26
          have h899 : f29 nq1 = some (.inl (cI G, 6, .inl (fun j => if j < 6 then (-1) else (fun _ => 0) j))) := k53 _ _ h898 (ninc n900 nin0)
          have h901 : f56 nq1 = some (.inl (cI G, 6, .inl (fun j => if j < 6 then (-1) else (fun _ => 0) j))) := by rw [ef56, va_up_ne _ _ (hnew h899 w55)]; exact h899
          have h902 : f27 nr1 = some (.inr (3, [.null, .null, .int 0])) := by rw [ef27, va_up_ne _ _ (hnew h16 w26)]; exact h16
          have n904 : nr1 ≠ q25 := hnew h16 w26
          have h903 : f29 nr1 = some (.inr (3, [.null, .null, .int 0])) := k53 _ _ h902 (ninc n904 nin0)
          have h905 : f56 nr1 = some (.inr (3, [.null, .null, .int 0])) := by rw [ef56, va_up_ne _ _ (hnew h903 w55)]; exact h903
          have h906 : f27 bu = some (.inr (0, [.ref bs, .ref bp, .ref bh, .ref bf, .ref bl, .ref bg, .int 0, .int 0, .int 0])) := by rw [ef27, va_up_ne _ _ (hnew h17 w26)]; exact h17
          have n908 : bu ≠ q25 := hnew h17 w26
          have h907 : f29 bu = some (.inr (0, [.ref bs, .ref bp, .ref bh, .ref bf, .ref bl, .ref bg, .int 0, .int 0, .int 0])) := k53 _ _ h906 (ninc n908 nin0)
          have h909 : f56 bu = some (.inr (0, [.ref bs, .ref bp, .ref bh, .ref bf, .ref bl, .ref bg, .int 0, .int 0, .int 0])) := by rw [ef56, va_up_ne _ _ (hnew h907 w55)]; exact h907
          have h910 : f27 bs = some (.inl (cI G, 61, .inl (fun _ => 0))) := by rw [ef27, va_up_ne _ _ (hnew h18 w26)]; exact h18
          have n912 : bs ≠ q25 := hnew h18 w26
          have h911 : f29 bs = some (.inl (cI G, 61, .inl (fun _ => 0))) := k53 _ _ h910 (ninc n912 nin0)
          have h913 : f56 bs = some (.inl (cI G, 61, .inl (fun _ => 0))) := by rw [ef56, va_up_ne _ _ (hnew h911 w55)]; exact h911
          have h914 : f27 bp = some (.inl (cI G, 240, .inl (fun _ => 0))) := by rw [ef27, va_up_ne _ _ (hnew h19 w26)]; exact h19
          have n916 : bp ≠ q25 := hnew h19 w26
          have h915 : f29 bp = some (.inl (cI G, 240, .inl (fun _ => 0))) := k53 _ _ h914 (ninc n916 nin0)
          have h917 : f56 bp = some (.inl (cI G, 240, .inl (fun _ => 0))) := by rw [ef56, va_up_ne _ _ (hnew h915 w55)]; exact h915
          have h918 : f27 bh = some (.inl (cZ G, 240, .inl (fun _ => 0))) := by rw [ef27, va_up_ne _ _ (hnew h20 w26)]; exact h20
          have n920 : bh ≠ q25 := hnew h20 w26
          have h919 : f29 bh = some (.inl (cZ G, 240, .inl (fun _ => 0))) := k53 _ _ h918 (ninc n920 nin0)
          have h921 : f56 bh = some (.inl (cZ G, 240, .inl (fun _ => 0))) := by rw [ef56, va_up_ne _ _ (hnew h919 w55)]; exact h919
          have h922 : f27 bf = some (.inl (cI G, 3, .inl (upd (upd (upd (fun _ => 0) (0 : Int32).toNatClampNeg 0) (1 : Int32).toNatClampNeg 1) (2 : Int32).toNatClampNeg 2))) := by rw [ef27, va_up_ne _ _ (hnew h21 w26)]; exact h21
          have n924 : bf ≠ q25 := hnew h21 w26
          have h923 : f29 bf = some (.inl (cI G, 3, .inl (upd (upd (upd (fun _ => 0) (0 : Int32).toNatClampNeg 0) (1 : Int32).toNatClampNeg 1) (2 : Int32).toNatClampNeg 2))) := k53 _ _ h922 (ninc n924 nin0)
          have h925 : f56 bf = some (.inl (cI G, 3, .inl (upd (upd (upd (fun _ => 0) (0 : Int32).toNatClampNeg 0) (1 : Int32).toNatClampNeg 1) (2 : Int32).toNatClampNeg 2))) := by rw [ef56, va_up_ne _ _ (hnew h923 w55)]; exact h923
          have h926 : f27 bl = some (.inl (cI G, 3, .inl (fun j => if j < 3 then (-1) else (fun _ => 0) j))) := by rw [ef27, va_up_ne _ _ (hnew h22 w26)]; exact h22
          have n928 : bl ≠ q25 := hnew h22 w26
          have h927 : f29 bl = some (.inl (cI G, 3, .inl (fun j => if j < 3 then (-1) else (fun _ => 0) j))) := k53 _ _ h926 (ninc n928 nin0)
          have h929 : f56 bl = some (.inl (cI G, 3, .inl (fun j => if j < 3 then (-1) else (fun _ => 0) j))) := by rw [ef56, va_up_ne _ _ (hnew h927 w55)]; exact h927
          have h930 : f27 bg = some (.inl (cI G, 60, .inl (fun _ => 0))) := by rw [ef27, va_up_ne _ _ (hnew h23 w26)]; exact h23
          have n932 : bg ≠ q25 := hnew h23 w26
          have h931 : f29 bg = some (.inl (cI G, 60, .inl (fun _ => 0))) := k53 _ _ h930 (ninc n932 nin0)
          have h933 : f56 bg = some (.inl (cI G, 60, .inl (fun _ => 0))) := by rw [ef56, va_up_ne _ _ (hnew h931 w55)]; exact h931
          have n934 : bp ≠ q54 := hnew h915 w55
          have n935 : bs ≠ q54 := hnew h911 w55
          have n936 : nq1 ≠ q54 := hnew h899 w55
          have n937 : nq0 ≠ q54 := hnew h879 w55
          have n938 : na1 ≠ q54 := hnew h895 w55
          have n939 : na0 ≠ q54 := hnew h875 w55
          have n940 : nw1 ≠ q54 := hnew h891 w55
          have n941 : nw0 ≠ q54 := hnew h871 w55
          refine hp_SH (As := [.ref q1, .int (xs 1), .ref q54]) (rest := []) B0 hw hS (c_L_loop hl G f56 q1 ez eo bu nw0 na0 nq0 nr0 nw1 na1 nq1 nr1 bs bp bh bf bl bg q54 ⟨h865, h869, h873, h877, h881, h885, h889, h893, h897, h901, h905, h909, h913, h917, h921, h925, h929, h933, n_wq0, n_wq1, n_sp⟩ (ninc (Ne.symm n941) (ninc (Ne.symm n940) (ninc (Ne.symm n939) (ninc (Ne.symm n938) (ninc (Ne.symm n937) (ninc (Ne.symm n936) (ninc (Ne.symm n935) (ninc (Ne.symm n934) nin0)))))))) h57 (xs 1)) mH_L_loop qM_L_110 rfl rfl hl9.1 (Nat.le_of_ble_eq_true rfl) ⟨⟨Nat.le_of_ble_eq_true rfl, Nat.le_of_ble_eq_true rfl⟩, Nat.le_of_ble_eq_true rfl, Nat.le_of_ble_eq_true rfl⟩ dL_law_596 (fun E ce q9 f942 H locs hPX hw hS hce hcv hcl => ?_) (fun v f942 H locs hP hw hS => ?_)
          · exact hPX.elim
          · obtain ⟨ev9, h943, k944⟩ := hP
            subst ev9
            refine W.eq (g2 := F0 m 599 ls [.int (spc (sE (xs 1)) False)]) rfl ?_
            refine lv_istore (lv' := [(5, .int (spc (sE (xs 1)) False)), (4, .int 0), (3, .ref q54), (2, .ref q25), (1, .ref q1), (0, .ref b)]) hx hb dL_law_599 hl9 (by decide) rfl (fun ls hl9 => ?_)
            refine lv_aload_n hx hb dL_law_601 rfl (lv_at hl9 3 rfl) ?_
            refine lv_aload_n hx hb dL_law_602 rfl (lv_at hl9 5 rfl) ?_
            refine lv_iload hx hb dL_law_603 (lv_at hl9 1 rfl) ?_
            refine lv_iconst (v := 1) hx hb dL_law_605 (by decide) ?_
            refine lv_iadd hx hb dL_law_606 ?_
            refine hp_c (v := 1) (by decide) ?_
            refine va_sld hx hb hX hbl hbA hS (by unfold vp_in; decide) dL_law_607 ?_
            refine hp_c (v := xs 1) rfl ?_
            have h945 : f56 q25 = some (.inr (5, [.int 0, .ref dW, .ref dA, .ref dQ, .ref dM, .ref dS, .ref dL, .ref dR, .ref dT, .ref dZ, .ref dI, .ref dH, .ref dN, .ref dK, .ref dJ, .ref dU, .ref dO, .int 0, .int 0, .ref dF, .ref dP, .ref dE, .ref dX, .ref dY, .int 0, .int 0, .ref dG])) := by rw [ef56, va_up_ne _ _ (hnew h30 w55)]; exact h30
            have n947 : q25 ≠ q54 := hnew h30 w55
            have h946 : f942 q25 = some (.inr (5, [.int 0, .ref dW, .ref dA, .ref dQ, .ref dM, .ref dS, .ref dL, .ref dR, .ref dT, .ref dZ, .ref dI, .ref dH, .ref dN, .ref dK, .ref dJ, .ref dU, .ref dO, .int 0, .int 0, .ref dF, .ref dP, .ref dE, .ref dX, .ref dY, .int 0, .int 0, .ref dG])) := k944 _ _ h945 (ninc n947 nin0)
            have h948 : f56 dN = some (.inl (cI G, 2, .inl (fun _ => 0))) := by rw [ef56, va_up_ne _ _ (hnew h42 w55)]; exact h42
            have n950 : dN ≠ q54 := hnew h42 w55
            have h949 : f942 dN = some (.inl (cI G, 2, .inl (fun _ => 0))) := k944 _ _ h948 (ninc n950 nin0)
            refine hp_V (ci := 5) (As := [.int (xs 1)]) (rest := []) B0 hw hS (c_X5_loop0 hl G f942 q25 dW dA dQ dM dS dL dR dT dZ dI dH dN dK dJ dU dO dF dP dE dX dY dG 0 h946 h949  (xs 1)) mV_X5_loop qM_L_112 rfl h946 rfl rfl hl9.1 (Nat.le_of_ble_eq_true rfl) ⟨⟨Nat.le_of_ble_eq_true rfl, Nat.le_of_ble_eq_true rfl⟩, Nat.le_of_ble_eq_true rfl, Nat.le_of_ble_eq_true rfl⟩ dL_law_608 (fun E ce q9 f951 H locs hPX hw hS hce hcv hcl => ?_) (fun v f951 H locs hP hw hS => ?_)
            · exact hPX.elim
            · obtain ⟨⟨r952, ev9, h953⟩, ⟨c954, h955⟩, k956⟩ := hP
              subst ev9
              refine W.eq (g2 := F0 m 611 ls [.int r952]) rfl ?_
              refine lv_istore (lv' := [(6, .int r952), (5, .int (spc (sE (xs 1)) False)), (4, .int 0), (3, .ref q54), (2, .ref q25), (1, .ref q1), (0, .ref b)]) hx hb dL_law_611 hl9 (by decide) rfl (fun ls hl9 => ?_)
              refine lv_aload_n hx hb dL_law_613 rfl (lv_at hl9 4 rfl) ?_
              refine hp_V (ci := 5) (As := []) (rest := []) B0 hw hS (c_X5_thrown hl G f951 q25 (spc (sE (xs 1)) False) c954 h955) mV_X5_thrown qM_L_86 rfl h955 rfl rfl hl9.1 (Nat.le_of_ble_eq_true rfl) ⟨⟨Nat.le_of_ble_eq_true rfl, Nat.le_of_ble_eq_true rfl⟩, Nat.le_of_ble_eq_true rfl, Nat.le_of_ble_eq_true rfl⟩ dL_law_614 (fun E ce q9 f957 H locs hPX hw hS hce hcv hcl => ?_) (fun v f957 H locs hP hw hS => ?_)
              · exact hPX.elim
              · obtain ⟨ev9, ef9⟩ := hP
                rw [ef9] at hw
                subst ev9
                refine W.eq (g2 := F0 m 617 ls [.int (spc (sE (xs 1)) False)]) rfl ?_
                refine lv_iload hx hb dL_law_617 (lv_at hl9 1 rfl) ?_
                refine lv_icmp_eq (tgt := 624) hx hb dL_law_619 (by decide) (fun _ => ?_) (fun c9 => absurd rfl c9)
                refine lv_iload hx hb dL_law_624 (lv_at hl9 1 rfl) ?_
                refine lv_if_ne (tgt := 641) hx hb dL_law_626 (by decide) (fun _ => ?_) (fun c9 => absurd c9 spc_F)
                refine lv_goto (tgt := 1305) hx hb dL_law_641 (by decide) ?_
                refine lv_iinc (v := 4) (lv' := [(4, .int 4), (6, .int r952), (5, .int (spc (sE (xs 1)) False)), (3, .ref q54), (2, .ref q25), (1, .ref q1), (0, .ref b)]) hx hb dL_law_1305 hl9 (k := 2) rfl (by decide) (by decide) rfl (fun ls hl9 => ?_)
                refine lv_goto (tgt := 23) hx hb dL_law_1308 (by decide) ?_
                refine lv_iload hx hb dL_law_23 (lv_at hl9 0 rfl) ?_
                refine lv_aload_n hx hb dL_law_25 rfl (lv_at hl9 6 rfl) ?_
                refine va_slen hx hb hX hbl hbA hS dL_law_26 ?_
                refine hp_c (v := 4) rfl ?_
                refine lv_iconst (v := 4) hx hb dL_law_27 (by decide) ?_
                refine lv_isub hx hb dL_law_28 ?_
                refine hp_c (v := 0) (by decide) ?_
                refine lv_icmp_gt (tgt := 1311) hx hb dL_law_29 (by decide) (fun _ => ?_) (fun c9 => absurd (by decide) c9)
                refine lv_iconst (v := 1) hx hb dL_law_1311 (by decide) ?_
                refine va_forget (fun q hq => hFs _ (hS.2.2 q hq)) ?_
                refine W.widen (k := 600002) (n := 7302232) (Nat.le_of_ble_eq_true rfl) (Nat.le_of_ble_eq_true rfl) ?_
                exact lw_ret hx hb hr hlocks dL_law_1312
        · refine lv_tableIn (off := 605) (tgt := 644) hx hb dL_law_39 (by decide) (by decide) (by decide) (by decide) ?_
          refine lv_aload_n hx hb dL_law_644 rfl (lv_at hl9 3 rfl) ?_
          refine lv_aload_n hx hb dL_law_645 rfl (lv_at hl9 4 rfl) ?_
          refine lv_iload hx hb dL_law_646 (lv_at hl9 0 rfl) ?_
          refine lv_iconst (v := 1) hx hb dL_law_648 (by decide) ?_
          refine lv_iadd hx hb dL_law_649 ?_
          refine hp_c (v := 1) (by decide) ?_
          refine va_sld hx hb hX hbl hbA hS (by unfold vp_in; decide) dL_law_650 ?_
          refine hp_c (v := xs 1) rfl ?_
          refine lv_aload_n hx hb dL_law_651 rfl (lv_at hl9 1 rfl) ?_
          have h958 : f27 q1 = some (.inr (4, [.ref ez, .ref eo, .ref bu])) := by rw [ef27, va_up_ne _ _ (hnew h6 w26)]; exact h6
          have n960 : q1 ≠ q25 := hnew h6 w26
          have h959 : f29 q1 = some (.inr (4, [.ref ez, .ref eo, .ref bu])) := k53 _ _ h958 (ninc n960 nin0)
          have h961 : f56 q1 = some (.inr (4, [.ref ez, .ref eo, .ref bu])) := by rw [ef56, va_up_ne _ _ (hnew h959 w55)]; exact h959
          have h962 : f27 ez = some (.inr (1, [.ref nw0, .ref na0, .ref nq0, .ref nr0, .int 1, .int 0, .int 0, .int 0, .int (-1), .int 0, .int 0])) := by rw [ef27, va_up_ne _ _ (hnew h7 w26)]; exact h7
          have n964 : ez ≠ q25 := hnew h7 w26
          have h963 : f29 ez = some (.inr (1, [.ref nw0, .ref na0, .ref nq0, .ref nr0, .int 1, .int 0, .int 0, .int 0, .int (-1), .int 0, .int 0])) := k53 _ _ h962 (ninc n964 nin0)
          have h965 : f56 ez = some (.inr (1, [.ref nw0, .ref na0, .ref nq0, .ref nr0, .int 1, .int 0, .int 0, .int 0, .int (-1), .int 0, .int 0])) := by rw [ef56, va_up_ne _ _ (hnew h963 w55)]; exact h963
          have h966 : f27 nw0 = some (.inl (cI G, 6, .inl (fun j => if j < 6 then (-1) else (fun _ => 0) j))) := by rw [ef27, va_up_ne _ _ (hnew h8 w26)]; exact h8
          have n968 : nw0 ≠ q25 := hnew h8 w26
          have h967 : f29 nw0 = some (.inl (cI G, 6, .inl (fun j => if j < 6 then (-1) else (fun _ => 0) j))) := k53 _ _ h966 (ninc n968 nin0)
          have h969 : f56 nw0 = some (.inl (cI G, 6, .inl (fun j => if j < 6 then (-1) else (fun _ => 0) j))) := by rw [ef56, va_up_ne _ _ (hnew h967 w55)]; exact h967
          have h970 : f27 na0 = some (.inl (cI G, 6, .inl (fun _ => 0))) := by rw [ef27, va_up_ne _ _ (hnew h9 w26)]; exact h9
          have n972 : na0 ≠ q25 := hnew h9 w26
          have h971 : f29 na0 = some (.inl (cI G, 6, .inl (fun _ => 0))) := k53 _ _ h970 (ninc n972 nin0)
          have h973 : f56 na0 = some (.inl (cI G, 6, .inl (fun _ => 0))) := by rw [ef56, va_up_ne _ _ (hnew h971 w55)]; exact h971
          have h974 : f27 nq0 = some (.inl (cI G, 6, .inl (fun j => if j < 6 then (-1) else (fun _ => 0) j))) := by rw [ef27, va_up_ne _ _ (hnew h10 w26)]; exact h10
          have n976 : nq0 ≠ q25 := hnew h10 w26
          have h975 : f29 nq0 = some (.inl (cI G, 6, .inl (fun j => if j < 6 then (-1) else (fun _ => 0) j))) := k53 _ _ h974 (ninc n976 nin0)
          have h977 : f56 nq0 = some (.inl (cI G, 6, .inl (fun j => if j < 6 then (-1) else (fun _ => 0) j))) := by rw [ef56, va_up_ne _ _ (hnew h975 w55)]; exact h975
          have h978 : f27 nr0 = some (.inr (3, [.null, .null, .int 0])) := by rw [ef27, va_up_ne _ _ (hnew h11 w26)]; exact h11
          have n980 : nr0 ≠ q25 := hnew h11 w26
          have h979 : f29 nr0 = some (.inr (3, [.null, .null, .int 0])) := k53 _ _ h978 (ninc n980 nin0)
          have h981 : f56 nr0 = some (.inr (3, [.null, .null, .int 0])) := by rw [ef56, va_up_ne _ _ (hnew h979 w55)]; exact h979
          have h982 : f27 eo = some (.inr (1, [.ref nw1, .ref na1, .ref nq1, .ref nr1, .int 2, .int 0, .int 0, .int 0, .int (-1), .int 0, .int 0])) := by rw [ef27, va_up_ne _ _ (hnew h12 w26)]; exact h12
          have n984 : eo ≠ q25 := hnew h12 w26
          have h983 : f29 eo = some (.inr (1, [.ref nw1, .ref na1, .ref nq1, .ref nr1, .int 2, .int 0, .int 0, .int 0, .int (-1), .int 0, .int 0])) := k53 _ _ h982 (ninc n984 nin0)
          have h985 : f56 eo = some (.inr (1, [.ref nw1, .ref na1, .ref nq1, .ref nr1, .int 2, .int 0, .int 0, .int 0, .int (-1), .int 0, .int 0])) := by rw [ef56, va_up_ne _ _ (hnew h983 w55)]; exact h983
          have h986 : f27 nw1 = some (.inl (cI G, 6, .inl (fun j => if j < 6 then (-1) else (fun _ => 0) j))) := by rw [ef27, va_up_ne _ _ (hnew h13 w26)]; exact h13
          have n988 : nw1 ≠ q25 := hnew h13 w26
          have h987 : f29 nw1 = some (.inl (cI G, 6, .inl (fun j => if j < 6 then (-1) else (fun _ => 0) j))) := k53 _ _ h986 (ninc n988 nin0)
          have h989 : f56 nw1 = some (.inl (cI G, 6, .inl (fun j => if j < 6 then (-1) else (fun _ => 0) j))) := by rw [ef56, va_up_ne _ _ (hnew h987 w55)]; exact h987
          have h990 : f27 na1 = some (.inl (cI G, 6, .inl (fun _ => 0))) := by rw [ef27, va_up_ne _ _ (hnew h14 w26)]; exact h14
          have n992 : na1 ≠ q25 := hnew h14 w26
          have h991 : f29 na1 = some (.inl (cI G, 6, .inl (fun _ => 0))) := k53 _ _ h990 (ninc n992 nin0)
          have h993 : f56 na1 = some (.inl (cI G, 6, .inl (fun _ => 0))) := by rw [ef56, va_up_ne _ _ (hnew h991 w55)]; exact h991
          have h994 : f27 nq1 = some (.inl (cI G, 6, .inl (fun j => if j < 6 then (-1) else (fun _ => 0) j))) := by rw [ef27, va_up_ne _ _ (hnew h15 w26)]; exact h15
          have n996 : nq1 ≠ q25 := hnew h15 w26
          have h995 : f29 nq1 = some (.inl (cI G, 6, .inl (fun j => if j < 6 then (-1) else (fun _ => 0) j))) := k53 _ _ h994 (ninc n996 nin0)
          have h997 : f56 nq1 = some (.inl (cI G, 6, .inl (fun j => if j < 6 then (-1) else (fun _ => 0) j))) := by rw [ef56, va_up_ne _ _ (hnew h995 w55)]; exact h995
          have h998 : f27 nr1 = some (.inr (3, [.null, .null, .int 0])) := by rw [ef27, va_up_ne _ _ (hnew h16 w26)]; exact h16
          have n1000 : nr1 ≠ q25 := hnew h16 w26
          have h999 : f29 nr1 = some (.inr (3, [.null, .null, .int 0])) := k53 _ _ h998 (ninc n1000 nin0)
          have h1001 : f56 nr1 = some (.inr (3, [.null, .null, .int 0])) := by rw [ef56, va_up_ne _ _ (hnew h999 w55)]; exact h999
          have h1002 : f27 bu = some (.inr (0, [.ref bs, .ref bp, .ref bh, .ref bf, .ref bl, .ref bg, .int 0, .int 0, .int 0])) := by rw [ef27, va_up_ne _ _ (hnew h17 w26)]; exact h17
          have n1004 : bu ≠ q25 := hnew h17 w26
          have h1003 : f29 bu = some (.inr (0, [.ref bs, .ref bp, .ref bh, .ref bf, .ref bl, .ref bg, .int 0, .int 0, .int 0])) := k53 _ _ h1002 (ninc n1004 nin0)
          have h1005 : f56 bu = some (.inr (0, [.ref bs, .ref bp, .ref bh, .ref bf, .ref bl, .ref bg, .int 0, .int 0, .int 0])) := by rw [ef56, va_up_ne _ _ (hnew h1003 w55)]; exact h1003
          have h1006 : f27 bs = some (.inl (cI G, 61, .inl (fun _ => 0))) := by rw [ef27, va_up_ne _ _ (hnew h18 w26)]; exact h18
          have n1008 : bs ≠ q25 := hnew h18 w26
          have h1007 : f29 bs = some (.inl (cI G, 61, .inl (fun _ => 0))) := k53 _ _ h1006 (ninc n1008 nin0)
          have h1009 : f56 bs = some (.inl (cI G, 61, .inl (fun _ => 0))) := by rw [ef56, va_up_ne _ _ (hnew h1007 w55)]; exact h1007
          have h1010 : f27 bp = some (.inl (cI G, 240, .inl (fun _ => 0))) := by rw [ef27, va_up_ne _ _ (hnew h19 w26)]; exact h19
          have n1012 : bp ≠ q25 := hnew h19 w26
          have h1011 : f29 bp = some (.inl (cI G, 240, .inl (fun _ => 0))) := k53 _ _ h1010 (ninc n1012 nin0)
          have h1013 : f56 bp = some (.inl (cI G, 240, .inl (fun _ => 0))) := by rw [ef56, va_up_ne _ _ (hnew h1011 w55)]; exact h1011
          have h1014 : f27 bh = some (.inl (cZ G, 240, .inl (fun _ => 0))) := by rw [ef27, va_up_ne _ _ (hnew h20 w26)]; exact h20
          have n1016 : bh ≠ q25 := hnew h20 w26
          have h1015 : f29 bh = some (.inl (cZ G, 240, .inl (fun _ => 0))) := k53 _ _ h1014 (ninc n1016 nin0)
          have h1017 : f56 bh = some (.inl (cZ G, 240, .inl (fun _ => 0))) := by rw [ef56, va_up_ne _ _ (hnew h1015 w55)]; exact h1015
          have h1018 : f27 bf = some (.inl (cI G, 3, .inl (upd (upd (upd (fun _ => 0) (0 : Int32).toNatClampNeg 0) (1 : Int32).toNatClampNeg 1) (2 : Int32).toNatClampNeg 2))) := by rw [ef27, va_up_ne _ _ (hnew h21 w26)]; exact h21
          have n1020 : bf ≠ q25 := hnew h21 w26
          have h1019 : f29 bf = some (.inl (cI G, 3, .inl (upd (upd (upd (fun _ => 0) (0 : Int32).toNatClampNeg 0) (1 : Int32).toNatClampNeg 1) (2 : Int32).toNatClampNeg 2))) := k53 _ _ h1018 (ninc n1020 nin0)
          have h1021 : f56 bf = some (.inl (cI G, 3, .inl (upd (upd (upd (fun _ => 0) (0 : Int32).toNatClampNeg 0) (1 : Int32).toNatClampNeg 1) (2 : Int32).toNatClampNeg 2))) := by rw [ef56, va_up_ne _ _ (hnew h1019 w55)]; exact h1019
          have h1022 : f27 bl = some (.inl (cI G, 3, .inl (fun j => if j < 3 then (-1) else (fun _ => 0) j))) := by rw [ef27, va_up_ne _ _ (hnew h22 w26)]; exact h22
          have n1024 : bl ≠ q25 := hnew h22 w26
          have h1023 : f29 bl = some (.inl (cI G, 3, .inl (fun j => if j < 3 then (-1) else (fun _ => 0) j))) := k53 _ _ h1022 (ninc n1024 nin0)
          have h1025 : f56 bl = some (.inl (cI G, 3, .inl (fun j => if j < 3 then (-1) else (fun _ => 0) j))) := by rw [ef56, va_up_ne _ _ (hnew h1023 w55)]; exact h1023
          have h1026 : f27 bg = some (.inl (cI G, 60, .inl (fun _ => 0))) := by rw [ef27, va_up_ne _ _ (hnew h23 w26)]; exact h23
          have n1028 : bg ≠ q25 := hnew h23 w26
          have h1027 : f29 bg = some (.inl (cI G, 60, .inl (fun _ => 0))) := k53 _ _ h1026 (ninc n1028 nin0)
          have h1029 : f56 bg = some (.inl (cI G, 60, .inl (fun _ => 0))) := by rw [ef56, va_up_ne _ _ (hnew h1027 w55)]; exact h1027
          have n1030 : bp ≠ q54 := hnew h1011 w55
          have n1031 : bs ≠ q54 := hnew h1007 w55
          have n1032 : nq1 ≠ q54 := hnew h995 w55
          have n1033 : nq0 ≠ q54 := hnew h975 w55
          have n1034 : na1 ≠ q54 := hnew h991 w55
          have n1035 : na0 ≠ q54 := hnew h971 w55
          have n1036 : nw1 ≠ q54 := hnew h987 w55
          have n1037 : nw0 ≠ q54 := hnew h967 w55
          refine hp_SH (As := [.ref q1, .int (xs 1), .ref q54]) (rest := []) B0 hw hS (c_L_pass hl G f56 q1 ez eo bu nw0 na0 nq0 nr0 nw1 na1 nq1 nr1 bs bp bh bf bl bg q54 ⟨h961, h965, h969, h973, h977, h981, h985, h989, h993, h997, h1001, h1005, h1009, h1013, h1017, h1021, h1025, h1029, n_wq0, n_wq1, n_sp⟩ (ninc (Ne.symm n1037) (ninc (Ne.symm n1036) (ninc (Ne.symm n1035) (ninc (Ne.symm n1034) (ninc (Ne.symm n1033) (ninc (Ne.symm n1032) (ninc (Ne.symm n1031) (ninc (Ne.symm n1030) nin0)))))))) h57 (xs 1)) mH_L_pass qM_L_113 rfl rfl hl9.1 (Nat.le_of_ble_eq_true rfl) ⟨⟨Nat.le_of_ble_eq_true rfl, Nat.le_of_ble_eq_true rfl⟩, Nat.le_of_ble_eq_true rfl, Nat.le_of_ble_eq_true rfl⟩ dL_law_652 (fun E ce q9 f1038 H locs hPX hw hS hce hcv hcl => ?_) (fun v f1038 H locs hP hw hS => ?_)
          · exact hPX.elim
          · obtain ⟨ev9, h1039, k1040⟩ := hP
            subst ev9
            refine W.eq (g2 := F0 m 655 ls [.int (spc (sT (xs 1)) True)]) rfl ?_
            refine lv_istore (lv' := [(5, .int (spc (sT (xs 1)) True)), (4, .int 0), (3, .ref q54), (2, .ref q25), (1, .ref q1), (0, .ref b)]) hx hb dL_law_655 hl9 (by decide) rfl (fun ls hl9 => ?_)
            refine lv_aload_n hx hb dL_law_657 rfl (lv_at hl9 3 rfl) ?_
            refine lv_aload_n hx hb dL_law_658 rfl (lv_at hl9 5 rfl) ?_
            refine lv_iload hx hb dL_law_659 (lv_at hl9 1 rfl) ?_
            refine lv_iconst (v := 1) hx hb dL_law_661 (by decide) ?_
            refine lv_iadd hx hb dL_law_662 ?_
            refine hp_c (v := 1) (by decide) ?_
            refine va_sld hx hb hX hbl hbA hS (by unfold vp_in; decide) dL_law_663 ?_
            refine hp_c (v := xs 1) rfl ?_
            have h1041 : f56 q25 = some (.inr (5, [.int 0, .ref dW, .ref dA, .ref dQ, .ref dM, .ref dS, .ref dL, .ref dR, .ref dT, .ref dZ, .ref dI, .ref dH, .ref dN, .ref dK, .ref dJ, .ref dU, .ref dO, .int 0, .int 0, .ref dF, .ref dP, .ref dE, .ref dX, .ref dY, .int 0, .int 0, .ref dG])) := by rw [ef56, va_up_ne _ _ (hnew h30 w55)]; exact h30
            have n1043 : q25 ≠ q54 := hnew h30 w55
            have h1042 : f1038 q25 = some (.inr (5, [.int 0, .ref dW, .ref dA, .ref dQ, .ref dM, .ref dS, .ref dL, .ref dR, .ref dT, .ref dZ, .ref dI, .ref dH, .ref dN, .ref dK, .ref dJ, .ref dU, .ref dO, .int 0, .int 0, .ref dF, .ref dP, .ref dE, .ref dX, .ref dY, .int 0, .int 0, .ref dG])) := k1040 _ _ h1041 (ninc n1043 nin0)
            have h1044 : f56 dS = some (.inl (cI G, 2, .inl (fun _ => 0))) := by rw [ef56, va_up_ne _ _ (hnew h35 w55)]; exact h35
            have n1046 : dS ≠ q54 := hnew h35 w55
            have h1045 : f1038 dS = some (.inl (cI G, 2, .inl (fun _ => 0))) := k1040 _ _ h1044 (ninc n1046 nin0)
            refine hp_V (ci := 5) (As := [.int (xs 1)]) (rest := []) B0 hw hS (c_X5_pass0 hl G f1038 q25 dW dA dQ dM dS dL dR dT dZ dI dH dN dK dJ dU dO dF dP dE dX dY dG 0 h1042 h1045  (xs 1)) mV_X5_pass qM_L_115 rfl h1042 rfl rfl hl9.1 (Nat.le_of_ble_eq_true rfl) ⟨⟨Nat.le_of_ble_eq_true rfl, Nat.le_of_ble_eq_true rfl⟩, Nat.le_of_ble_eq_true rfl, Nat.le_of_ble_eq_true rfl⟩ dL_law_664 (fun E ce q9 f1047 H locs hPX hw hS hce hcv hcl => ?_) (fun v f1047 H locs hP hw hS => ?_)
            · exact hPX.elim
            · obtain ⟨⟨r1048, ev9, h1049⟩, ⟨c1050, h1051⟩, k1052⟩ := hP
              subst ev9
              refine W.eq (g2 := F0 m 667 ls [.int r1048]) rfl ?_
              refine lv_istore (lv' := [(6, .int r1048), (5, .int (spc (sT (xs 1)) True)), (4, .int 0), (3, .ref q54), (2, .ref q25), (1, .ref q1), (0, .ref b)]) hx hb dL_law_667 hl9 (by decide) rfl (fun ls hl9 => ?_)
              refine lv_aload_n hx hb dL_law_669 rfl (lv_at hl9 4 rfl) ?_
              refine hp_V (ci := 5) (As := []) (rest := []) B0 hw hS (c_X5_thrown hl G f1047 q25 (spc (sT (xs 1)) True) c1050 h1051) mV_X5_thrown qM_L_86 rfl h1051 rfl rfl hl9.1 (Nat.le_of_ble_eq_true rfl) ⟨⟨Nat.le_of_ble_eq_true rfl, Nat.le_of_ble_eq_true rfl⟩, Nat.le_of_ble_eq_true rfl, Nat.le_of_ble_eq_true rfl⟩ dL_law_670 (fun E ce q9 f1053 H locs hPX hw hS hce hcv hcl => ?_) (fun v f1053 H locs hP hw hS => ?_)
              · exact hPX.elim
              · obtain ⟨ev9, ef9⟩ := hP
                rw [ef9] at hw
                subst ev9
                refine W.eq (g2 := F0 m 673 ls [.int (spc (sT (xs 1)) True)]) rfl ?_
                refine lv_iload hx hb dL_law_673 (lv_at hl9 1 rfl) ?_
                refine lv_icmp_eq (tgt := 680) hx hb dL_law_675 (by decide) (fun _ => ?_) (fun c9 => absurd rfl c9)
                refine lv_iload hx hb dL_law_680 (lv_at hl9 1 rfl) ?_
                refine lv_if_ne (tgt := 697) hx hb dL_law_682 (by decide) (fun c1054 => ?_) (fun c1054 => ?_)
                · refine lv_goto (tgt := 1305) hx hb dL_law_697 (by decide) ?_
                  refine lv_iinc (v := 4) (lv' := [(4, .int 4), (6, .int r1048), (5, .int (spc (sT (xs 1)) True)), (3, .ref q54), (2, .ref q25), (1, .ref q1), (0, .ref b)]) hx hb dL_law_1305 hl9 (k := 2) rfl (by decide) (by decide) rfl (fun ls hl9 => ?_)
                  refine lv_goto (tgt := 23) hx hb dL_law_1308 (by decide) ?_
                  refine lv_iload hx hb dL_law_23 (lv_at hl9 0 rfl) ?_
                  refine lv_aload_n hx hb dL_law_25 rfl (lv_at hl9 6 rfl) ?_
                  refine va_slen hx hb hX hbl hbA hS dL_law_26 ?_
                  refine hp_c (v := 4) rfl ?_
                  refine lv_iconst (v := 4) hx hb dL_law_27 (by decide) ?_
                  refine lv_isub hx hb dL_law_28 ?_
                  refine hp_c (v := 0) (by decide) ?_
                  refine lv_icmp_gt (tgt := 1311) hx hb dL_law_29 (by decide) (fun _ => ?_) (fun c9 => absurd (by decide) c9)
                  refine lv_iconst (v := 1) hx hb dL_law_1311 (by decide) ?_
                  refine va_forget (fun q hq => hFs _ (hS.2.2 q hq)) ?_
                  refine W.widen (k := 600002) (n := 7302232) (Nat.le_of_ble_eq_true rfl) (Nat.le_of_ble_eq_true rfl) ?_
                  exact lw_ret hx hb hr hlocks dL_law_1312
                · refine lv_aload_n hx hb dL_law_685 rfl (lv_at hl9 3 rfl) ?_
                  refine lv_iconst (v := 0) hx hb dL_law_686 (by decide) ?_
                  have h1055 : f1038 q54 = some (.inl (cJ G, 1, .inr (.inl (vp_updL (fun _ => 0) (0 : Int32).toNatClampNeg ((0 : Int32).toInt64))))) := h1039 c1054
                  have h1056 : f1047 q54 = some (.inl (cJ G, 1, .inr (.inl (vp_updL (fun _ => 0) (0 : Int32).toNatClampNeg ((0 : Int32).toInt64))))) := k1052 _ _ h1055 (ninc (Ne.symm n1043) nin0)
                  refine hp_lald B0 hw h1056 (by unfold vp_in; decide) dL_law_687 ?_
                  refine lv_iload hx hb dL_law_688 (lv_at hl9 0 rfl) ?_
                  refine lv_i2l (v := (r1048 : Int32).toInt64) hx hb dL_law_690 rfl ?_
                  refine W.lcmp hx hb dL_law_691 ?_
                  refine lv_if_eq (tgt := 697) hx hb dL_law_692 (by decide) (fun _ => ?_) (fun c9 => absurd (lg_eq0 (by have h9 := h1049 c1054; subst h9; rfl)) c9)
                  refine lv_goto (tgt := 1305) hx hb dL_law_697 (by decide) ?_
                  refine lv_iinc (v := 4) (lv' := [(4, .int 4), (6, .int r1048), (5, .int (spc (sT (xs 1)) True)), (3, .ref q54), (2, .ref q25), (1, .ref q1), (0, .ref b)]) hx hb dL_law_1305 hl9 (k := 2) rfl (by decide) (by decide) rfl (fun ls hl9 => ?_)
                  refine lv_goto (tgt := 23) hx hb dL_law_1308 (by decide) ?_
                  refine lv_iload hx hb dL_law_23 (lv_at hl9 0 rfl) ?_
                  refine lv_aload_n hx hb dL_law_25 rfl (lv_at hl9 6 rfl) ?_
                  refine va_slen hx hb hX hbl hbA hS dL_law_26 ?_
                  refine hp_c (v := 4) rfl ?_
                  refine lv_iconst (v := 4) hx hb dL_law_27 (by decide) ?_
                  refine lv_isub hx hb dL_law_28 ?_
                  refine hp_c (v := 0) (by decide) ?_
                  refine lv_icmp_gt (tgt := 1311) hx hb dL_law_29 (by decide) (fun _ => ?_) (fun c9 => absurd (by decide) c9)
                  refine lv_iconst (v := 1) hx hb dL_law_1311 (by decide) ?_
                  refine va_forget (fun q hq => hFs _ (hS.2.2 q hq)) ?_
                  refine W.widen (k := 600002) (n := 7302232) (Nat.le_of_ble_eq_true rfl) (Nat.le_of_ble_eq_true rfl) ?_
                  exact lw_ret hx hb hr hlocks dL_law_1312
        · refine lv_tableIn (off := 661) (tgt := 700) hx hb dL_law_39 (by decide) (by decide) (by decide) (by decide) ?_
          refine lv_aload_n hx hb dL_law_700 rfl (lv_at hl9 3 rfl) ?_
          refine lv_aload_n hx hb dL_law_701 rfl (lv_at hl9 4 rfl) ?_
          refine lv_iload hx hb dL_law_702 (lv_at hl9 0 rfl) ?_
          refine lv_iconst (v := 1) hx hb dL_law_704 (by decide) ?_
          refine lv_iadd hx hb dL_law_705 ?_
          refine hp_c (v := 1) (by decide) ?_
          refine va_sld hx hb hX hbl hbA hS (by unfold vp_in; decide) dL_law_706 ?_
          refine hp_c (v := xs 1) rfl ?_
          refine lv_aload_n hx hb dL_law_707 rfl (lv_at hl9 1 rfl) ?_
          have h1057 : f27 q1 = some (.inr (4, [.ref ez, .ref eo, .ref bu])) := by rw [ef27, va_up_ne _ _ (hnew h6 w26)]; exact h6
          have n1059 : q1 ≠ q25 := hnew h6 w26
          have h1058 : f29 q1 = some (.inr (4, [.ref ez, .ref eo, .ref bu])) := k53 _ _ h1057 (ninc n1059 nin0)
          have h1060 : f56 q1 = some (.inr (4, [.ref ez, .ref eo, .ref bu])) := by rw [ef56, va_up_ne _ _ (hnew h1058 w55)]; exact h1058
          have h1061 : f27 ez = some (.inr (1, [.ref nw0, .ref na0, .ref nq0, .ref nr0, .int 1, .int 0, .int 0, .int 0, .int (-1), .int 0, .int 0])) := by rw [ef27, va_up_ne _ _ (hnew h7 w26)]; exact h7
          have n1063 : ez ≠ q25 := hnew h7 w26
          have h1062 : f29 ez = some (.inr (1, [.ref nw0, .ref na0, .ref nq0, .ref nr0, .int 1, .int 0, .int 0, .int 0, .int (-1), .int 0, .int 0])) := k53 _ _ h1061 (ninc n1063 nin0)
          have h1064 : f56 ez = some (.inr (1, [.ref nw0, .ref na0, .ref nq0, .ref nr0, .int 1, .int 0, .int 0, .int 0, .int (-1), .int 0, .int 0])) := by rw [ef56, va_up_ne _ _ (hnew h1062 w55)]; exact h1062
          have h1065 : f27 nw0 = some (.inl (cI G, 6, .inl (fun j => if j < 6 then (-1) else (fun _ => 0) j))) := by rw [ef27, va_up_ne _ _ (hnew h8 w26)]; exact h8
          have n1067 : nw0 ≠ q25 := hnew h8 w26
          have h1066 : f29 nw0 = some (.inl (cI G, 6, .inl (fun j => if j < 6 then (-1) else (fun _ => 0) j))) := k53 _ _ h1065 (ninc n1067 nin0)
          have h1068 : f56 nw0 = some (.inl (cI G, 6, .inl (fun j => if j < 6 then (-1) else (fun _ => 0) j))) := by rw [ef56, va_up_ne _ _ (hnew h1066 w55)]; exact h1066
          have h1069 : f27 na0 = some (.inl (cI G, 6, .inl (fun _ => 0))) := by rw [ef27, va_up_ne _ _ (hnew h9 w26)]; exact h9
          have n1071 : na0 ≠ q25 := hnew h9 w26
          have h1070 : f29 na0 = some (.inl (cI G, 6, .inl (fun _ => 0))) := k53 _ _ h1069 (ninc n1071 nin0)
          have h1072 : f56 na0 = some (.inl (cI G, 6, .inl (fun _ => 0))) := by rw [ef56, va_up_ne _ _ (hnew h1070 w55)]; exact h1070
          have h1073 : f27 nq0 = some (.inl (cI G, 6, .inl (fun j => if j < 6 then (-1) else (fun _ => 0) j))) := by rw [ef27, va_up_ne _ _ (hnew h10 w26)]; exact h10
          have n1075 : nq0 ≠ q25 := hnew h10 w26
          have h1074 : f29 nq0 = some (.inl (cI G, 6, .inl (fun j => if j < 6 then (-1) else (fun _ => 0) j))) := k53 _ _ h1073 (ninc n1075 nin0)
          have h1076 : f56 nq0 = some (.inl (cI G, 6, .inl (fun j => if j < 6 then (-1) else (fun _ => 0) j))) := by rw [ef56, va_up_ne _ _ (hnew h1074 w55)]; exact h1074
          have h1077 : f27 nr0 = some (.inr (3, [.null, .null, .int 0])) := by rw [ef27, va_up_ne _ _ (hnew h11 w26)]; exact h11
          have n1079 : nr0 ≠ q25 := hnew h11 w26
          have h1078 : f29 nr0 = some (.inr (3, [.null, .null, .int 0])) := k53 _ _ h1077 (ninc n1079 nin0)
          have h1080 : f56 nr0 = some (.inr (3, [.null, .null, .int 0])) := by rw [ef56, va_up_ne _ _ (hnew h1078 w55)]; exact h1078
          have h1081 : f27 eo = some (.inr (1, [.ref nw1, .ref na1, .ref nq1, .ref nr1, .int 2, .int 0, .int 0, .int 0, .int (-1), .int 0, .int 0])) := by rw [ef27, va_up_ne _ _ (hnew h12 w26)]; exact h12
          have n1083 : eo ≠ q25 := hnew h12 w26
          have h1082 : f29 eo = some (.inr (1, [.ref nw1, .ref na1, .ref nq1, .ref nr1, .int 2, .int 0, .int 0, .int 0, .int (-1), .int 0, .int 0])) := k53 _ _ h1081 (ninc n1083 nin0)
          have h1084 : f56 eo = some (.inr (1, [.ref nw1, .ref na1, .ref nq1, .ref nr1, .int 2, .int 0, .int 0, .int 0, .int (-1), .int 0, .int 0])) := by rw [ef56, va_up_ne _ _ (hnew h1082 w55)]; exact h1082
          have h1085 : f27 nw1 = some (.inl (cI G, 6, .inl (fun j => if j < 6 then (-1) else (fun _ => 0) j))) := by rw [ef27, va_up_ne _ _ (hnew h13 w26)]; exact h13
          have n1087 : nw1 ≠ q25 := hnew h13 w26
          have h1086 : f29 nw1 = some (.inl (cI G, 6, .inl (fun j => if j < 6 then (-1) else (fun _ => 0) j))) := k53 _ _ h1085 (ninc n1087 nin0)
          have h1088 : f56 nw1 = some (.inl (cI G, 6, .inl (fun j => if j < 6 then (-1) else (fun _ => 0) j))) := by rw [ef56, va_up_ne _ _ (hnew h1086 w55)]; exact h1086
          have h1089 : f27 na1 = some (.inl (cI G, 6, .inl (fun _ => 0))) := by rw [ef27, va_up_ne _ _ (hnew h14 w26)]; exact h14
          have n1091 : na1 ≠ q25 := hnew h14 w26
          have h1090 : f29 na1 = some (.inl (cI G, 6, .inl (fun _ => 0))) := k53 _ _ h1089 (ninc n1091 nin0)
          have h1092 : f56 na1 = some (.inl (cI G, 6, .inl (fun _ => 0))) := by rw [ef56, va_up_ne _ _ (hnew h1090 w55)]; exact h1090
          have h1093 : f27 nq1 = some (.inl (cI G, 6, .inl (fun j => if j < 6 then (-1) else (fun _ => 0) j))) := by rw [ef27, va_up_ne _ _ (hnew h15 w26)]; exact h15
          have n1095 : nq1 ≠ q25 := hnew h15 w26
          have h1094 : f29 nq1 = some (.inl (cI G, 6, .inl (fun j => if j < 6 then (-1) else (fun _ => 0) j))) := k53 _ _ h1093 (ninc n1095 nin0)
          have h1096 : f56 nq1 = some (.inl (cI G, 6, .inl (fun j => if j < 6 then (-1) else (fun _ => 0) j))) := by rw [ef56, va_up_ne _ _ (hnew h1094 w55)]; exact h1094
          have h1097 : f27 nr1 = some (.inr (3, [.null, .null, .int 0])) := by rw [ef27, va_up_ne _ _ (hnew h16 w26)]; exact h16
          have n1099 : nr1 ≠ q25 := hnew h16 w26
          have h1098 : f29 nr1 = some (.inr (3, [.null, .null, .int 0])) := k53 _ _ h1097 (ninc n1099 nin0)
          have h1100 : f56 nr1 = some (.inr (3, [.null, .null, .int 0])) := by rw [ef56, va_up_ne _ _ (hnew h1098 w55)]; exact h1098
          have h1101 : f27 bu = some (.inr (0, [.ref bs, .ref bp, .ref bh, .ref bf, .ref bl, .ref bg, .int 0, .int 0, .int 0])) := by rw [ef27, va_up_ne _ _ (hnew h17 w26)]; exact h17
          have n1103 : bu ≠ q25 := hnew h17 w26
          have h1102 : f29 bu = some (.inr (0, [.ref bs, .ref bp, .ref bh, .ref bf, .ref bl, .ref bg, .int 0, .int 0, .int 0])) := k53 _ _ h1101 (ninc n1103 nin0)
          have h1104 : f56 bu = some (.inr (0, [.ref bs, .ref bp, .ref bh, .ref bf, .ref bl, .ref bg, .int 0, .int 0, .int 0])) := by rw [ef56, va_up_ne _ _ (hnew h1102 w55)]; exact h1102
          have h1105 : f27 bs = some (.inl (cI G, 61, .inl (fun _ => 0))) := by rw [ef27, va_up_ne _ _ (hnew h18 w26)]; exact h18
          have n1107 : bs ≠ q25 := hnew h18 w26
          have h1106 : f29 bs = some (.inl (cI G, 61, .inl (fun _ => 0))) := k53 _ _ h1105 (ninc n1107 nin0)
          have h1108 : f56 bs = some (.inl (cI G, 61, .inl (fun _ => 0))) := by rw [ef56, va_up_ne _ _ (hnew h1106 w55)]; exact h1106
          have h1109 : f27 bp = some (.inl (cI G, 240, .inl (fun _ => 0))) := by rw [ef27, va_up_ne _ _ (hnew h19 w26)]; exact h19
          have n1111 : bp ≠ q25 := hnew h19 w26
          have h1110 : f29 bp = some (.inl (cI G, 240, .inl (fun _ => 0))) := k53 _ _ h1109 (ninc n1111 nin0)
          have h1112 : f56 bp = some (.inl (cI G, 240, .inl (fun _ => 0))) := by rw [ef56, va_up_ne _ _ (hnew h1110 w55)]; exact h1110
          have h1113 : f27 bh = some (.inl (cZ G, 240, .inl (fun _ => 0))) := by rw [ef27, va_up_ne _ _ (hnew h20 w26)]; exact h20
          have n1115 : bh ≠ q25 := hnew h20 w26
          have h1114 : f29 bh = some (.inl (cZ G, 240, .inl (fun _ => 0))) := k53 _ _ h1113 (ninc n1115 nin0)
          have h1116 : f56 bh = some (.inl (cZ G, 240, .inl (fun _ => 0))) := by rw [ef56, va_up_ne _ _ (hnew h1114 w55)]; exact h1114
          have h1117 : f27 bf = some (.inl (cI G, 3, .inl (upd (upd (upd (fun _ => 0) (0 : Int32).toNatClampNeg 0) (1 : Int32).toNatClampNeg 1) (2 : Int32).toNatClampNeg 2))) := by rw [ef27, va_up_ne _ _ (hnew h21 w26)]; exact h21
          have n1119 : bf ≠ q25 := hnew h21 w26
          have h1118 : f29 bf = some (.inl (cI G, 3, .inl (upd (upd (upd (fun _ => 0) (0 : Int32).toNatClampNeg 0) (1 : Int32).toNatClampNeg 1) (2 : Int32).toNatClampNeg 2))) := k53 _ _ h1117 (ninc n1119 nin0)
          have h1120 : f56 bf = some (.inl (cI G, 3, .inl (upd (upd (upd (fun _ => 0) (0 : Int32).toNatClampNeg 0) (1 : Int32).toNatClampNeg 1) (2 : Int32).toNatClampNeg 2))) := by rw [ef56, va_up_ne _ _ (hnew h1118 w55)]; exact h1118
          have h1121 : f27 bl = some (.inl (cI G, 3, .inl (fun j => if j < 3 then (-1) else (fun _ => 0) j))) := by rw [ef27, va_up_ne _ _ (hnew h22 w26)]; exact h22
          have n1123 : bl ≠ q25 := hnew h22 w26
          have h1122 : f29 bl = some (.inl (cI G, 3, .inl (fun j => if j < 3 then (-1) else (fun _ => 0) j))) := k53 _ _ h1121 (ninc n1123 nin0)
          have h1124 : f56 bl = some (.inl (cI G, 3, .inl (fun j => if j < 3 then (-1) else (fun _ => 0) j))) := by rw [ef56, va_up_ne _ _ (hnew h1122 w55)]; exact h1122
          have h1125 : f27 bg = some (.inl (cI G, 60, .inl (fun _ => 0))) := by rw [ef27, va_up_ne _ _ (hnew h23 w26)]; exact h23
          have n1127 : bg ≠ q25 := hnew h23 w26
          have h1126 : f29 bg = some (.inl (cI G, 60, .inl (fun _ => 0))) := k53 _ _ h1125 (ninc n1127 nin0)
          have h1128 : f56 bg = some (.inl (cI G, 60, .inl (fun _ => 0))) := by rw [ef56, va_up_ne _ _ (hnew h1126 w55)]; exact h1126
          have n1129 : bp ≠ q54 := hnew h1110 w55
          have n1130 : bs ≠ q54 := hnew h1106 w55
          have n1131 : nq1 ≠ q54 := hnew h1094 w55
          have n1132 : nq0 ≠ q54 := hnew h1074 w55
          have n1133 : na1 ≠ q54 := hnew h1090 w55
          have n1134 : na0 ≠ q54 := hnew h1070 w55
          have n1135 : nw1 ≠ q54 := hnew h1086 w55
          have n1136 : nw0 ≠ q54 := hnew h1066 w55
          refine hp_SH (As := [.ref q1, .int (xs 1), .ref q54]) (rest := []) B0 hw hS (c_L_stateOf hl G f56 q1 ez eo bu nw0 na0 nq0 nr0 nw1 na1 nq1 nr1 bs bp bh bf bl bg q54 ⟨h1060, h1064, h1068, h1072, h1076, h1080, h1084, h1088, h1092, h1096, h1100, h1104, h1108, h1112, h1116, h1120, h1124, h1128, n_wq0, n_wq1, n_sp⟩ (ninc (Ne.symm n1136) (ninc (Ne.symm n1135) (ninc (Ne.symm n1134) (ninc (Ne.symm n1133) (ninc (Ne.symm n1132) (ninc (Ne.symm n1131) (ninc (Ne.symm n1130) (ninc (Ne.symm n1129) nin0)))))))) h57 (xs 1)) mH_L_stateOf qM_L_116 rfl rfl hl9.1 (Nat.le_of_ble_eq_true rfl) ⟨⟨Nat.le_of_ble_eq_true rfl, Nat.le_of_ble_eq_true rfl⟩, Nat.le_of_ble_eq_true rfl, Nat.le_of_ble_eq_true rfl⟩ dL_law_708 (fun E ce q9 f1137 H locs hPX hw hS hce hcv hcl => ?_) (fun v f1137 H locs hP hw hS => ?_)
          · exact hPX.elim
          · obtain ⟨ev9, h1138, k1139⟩ := hP
            subst ev9
            refine W.eq (g2 := F0 m 711 ls [.int (spc (sE (xs 1)) True)]) rfl ?_
            refine lv_istore (lv' := [(5, .int (spc (sE (xs 1)) True)), (4, .int 0), (3, .ref q54), (2, .ref q25), (1, .ref q1), (0, .ref b)]) hx hb dL_law_711 hl9 (by decide) rfl (fun ls hl9 => ?_)
            refine lv_aload_n hx hb dL_law_713 rfl (lv_at hl9 3 rfl) ?_
            refine lv_aload_n hx hb dL_law_714 rfl (lv_at hl9 5 rfl) ?_
            refine lv_iload hx hb dL_law_715 (lv_at hl9 1 rfl) ?_
            refine lv_iconst (v := 1) hx hb dL_law_717 (by decide) ?_
            refine lv_iadd hx hb dL_law_718 ?_
            refine hp_c (v := 1) (by decide) ?_
            refine va_sld hx hb hX hbl hbA hS (by unfold vp_in; decide) dL_law_719 ?_
            refine hp_c (v := xs 1) rfl ?_
            have h1140 : f56 q25 = some (.inr (5, [.int 0, .ref dW, .ref dA, .ref dQ, .ref dM, .ref dS, .ref dL, .ref dR, .ref dT, .ref dZ, .ref dI, .ref dH, .ref dN, .ref dK, .ref dJ, .ref dU, .ref dO, .int 0, .int 0, .ref dF, .ref dP, .ref dE, .ref dX, .ref dY, .int 0, .int 0, .ref dG])) := by rw [ef56, va_up_ne _ _ (hnew h30 w55)]; exact h30
            have n1142 : q25 ≠ q54 := hnew h30 w55
            have h1141 : f1137 q25 = some (.inr (5, [.int 0, .ref dW, .ref dA, .ref dQ, .ref dM, .ref dS, .ref dL, .ref dR, .ref dT, .ref dZ, .ref dI, .ref dH, .ref dN, .ref dK, .ref dJ, .ref dU, .ref dO, .int 0, .int 0, .ref dF, .ref dP, .ref dE, .ref dX, .ref dY, .int 0, .int 0, .ref dG])) := k1139 _ _ h1140 (ninc n1142 nin0)
            have h1143 : f56 dS = some (.inl (cI G, 2, .inl (fun _ => 0))) := by rw [ef56, va_up_ne _ _ (hnew h35 w55)]; exact h35
            have n1145 : dS ≠ q54 := hnew h35 w55
            have h1144 : f1137 dS = some (.inl (cI G, 2, .inl (fun _ => 0))) := k1139 _ _ h1143 (ninc n1145 nin0)
            refine hp_V (ci := 5) (As := [.int (xs 1)]) (rest := []) B0 hw hS (c_X5_stateOf0 hl G f1137 q25 dW dA dQ dM dS dL dR dT dZ dI dH dN dK dJ dU dO dF dP dE dX dY dG 0 h1141 h1144  (xs 1)) mV_X5_stateOf qM_L_118 rfl h1141 rfl rfl hl9.1 (Nat.le_of_ble_eq_true rfl) ⟨⟨Nat.le_of_ble_eq_true rfl, Nat.le_of_ble_eq_true rfl⟩, Nat.le_of_ble_eq_true rfl, Nat.le_of_ble_eq_true rfl⟩ dL_law_720 (fun E ce q9 f1146 H locs hPX hw hS hce hcv hcl => ?_) (fun v f1146 H locs hP hw hS => ?_)
            · exact hPX.elim
            · obtain ⟨⟨r1147, ev9, h1148⟩, ⟨c1149, h1150⟩, k1151⟩ := hP
              subst ev9
              refine W.eq (g2 := F0 m 723 ls [.int r1147]) rfl ?_
              refine lv_istore (lv' := [(6, .int r1147), (5, .int (spc (sE (xs 1)) True)), (4, .int 0), (3, .ref q54), (2, .ref q25), (1, .ref q1), (0, .ref b)]) hx hb dL_law_723 hl9 (by decide) rfl (fun ls hl9 => ?_)
              refine lv_aload_n hx hb dL_law_725 rfl (lv_at hl9 4 rfl) ?_
              refine hp_V (ci := 5) (As := []) (rest := []) B0 hw hS (c_X5_thrown hl G f1146 q25 (spc (sE (xs 1)) True) c1149 h1150) mV_X5_thrown qM_L_86 rfl h1150 rfl rfl hl9.1 (Nat.le_of_ble_eq_true rfl) ⟨⟨Nat.le_of_ble_eq_true rfl, Nat.le_of_ble_eq_true rfl⟩, Nat.le_of_ble_eq_true rfl, Nat.le_of_ble_eq_true rfl⟩ dL_law_726 (fun E ce q9 f1152 H locs hPX hw hS hce hcv hcl => ?_) (fun v f1152 H locs hP hw hS => ?_)
              · exact hPX.elim
              · obtain ⟨ev9, ef9⟩ := hP
                rw [ef9] at hw
                subst ev9
                refine W.eq (g2 := F0 m 729 ls [.int (spc (sE (xs 1)) True)]) rfl ?_
                refine lv_iload hx hb dL_law_729 (lv_at hl9 1 rfl) ?_
                refine lv_icmp_eq (tgt := 736) hx hb dL_law_731 (by decide) (fun _ => ?_) (fun c9 => absurd rfl c9)
                refine lv_iload hx hb dL_law_736 (lv_at hl9 1 rfl) ?_
                refine lv_if_ne (tgt := 753) hx hb dL_law_738 (by decide) (fun c1153 => ?_) (fun c1153 => ?_)
                · refine lv_goto (tgt := 1305) hx hb dL_law_753 (by decide) ?_
                  refine lv_iinc (v := 4) (lv' := [(4, .int 4), (6, .int r1147), (5, .int (spc (sE (xs 1)) True)), (3, .ref q54), (2, .ref q25), (1, .ref q1), (0, .ref b)]) hx hb dL_law_1305 hl9 (k := 2) rfl (by decide) (by decide) rfl (fun ls hl9 => ?_)
                  refine lv_goto (tgt := 23) hx hb dL_law_1308 (by decide) ?_
                  refine lv_iload hx hb dL_law_23 (lv_at hl9 0 rfl) ?_
                  refine lv_aload_n hx hb dL_law_25 rfl (lv_at hl9 6 rfl) ?_
                  refine va_slen hx hb hX hbl hbA hS dL_law_26 ?_
                  refine hp_c (v := 4) rfl ?_
                  refine lv_iconst (v := 4) hx hb dL_law_27 (by decide) ?_
                  refine lv_isub hx hb dL_law_28 ?_
                  refine hp_c (v := 0) (by decide) ?_
                  refine lv_icmp_gt (tgt := 1311) hx hb dL_law_29 (by decide) (fun _ => ?_) (fun c9 => absurd (by decide) c9)
                  refine lv_iconst (v := 1) hx hb dL_law_1311 (by decide) ?_
                  refine va_forget (fun q hq => hFs _ (hS.2.2 q hq)) ?_
                  refine W.widen (k := 600002) (n := 7302232) (Nat.le_of_ble_eq_true rfl) (Nat.le_of_ble_eq_true rfl) ?_
                  exact lw_ret hx hb hr hlocks dL_law_1312
                · refine lv_aload_n hx hb dL_law_741 rfl (lv_at hl9 3 rfl) ?_
                  refine lv_iconst (v := 0) hx hb dL_law_742 (by decide) ?_
                  have h1154 : f1137 q54 = some (.inl (cJ G, 1, .inr (.inl (vp_updL (fun _ => 0) (0 : Int32).toNatClampNeg ((0 : Int32).toInt64))))) := h1138 c1153
                  have h1155 : f1146 q54 = some (.inl (cJ G, 1, .inr (.inl (vp_updL (fun _ => 0) (0 : Int32).toNatClampNeg ((0 : Int32).toInt64))))) := k1151 _ _ h1154 (ninc (Ne.symm n1142) nin0)
                  refine hp_lald B0 hw h1155 (by unfold vp_in; decide) dL_law_743 ?_
                  refine lv_iload hx hb dL_law_744 (lv_at hl9 0 rfl) ?_
                  refine lv_i2l (v := (r1147 : Int32).toInt64) hx hb dL_law_746 rfl ?_
                  refine W.lcmp hx hb dL_law_747 ?_
                  refine lv_if_eq (tgt := 753) hx hb dL_law_748 (by decide) (fun _ => ?_) (fun c9 => absurd (lg_eq0 (by have h9 := h1148 c1153; subst h9; rfl)) c9)
                  refine lv_goto (tgt := 1305) hx hb dL_law_753 (by decide) ?_
                  refine lv_iinc (v := 4) (lv' := [(4, .int 4), (6, .int r1147), (5, .int (spc (sE (xs 1)) True)), (3, .ref q54), (2, .ref q25), (1, .ref q1), (0, .ref b)]) hx hb dL_law_1305 hl9 (k := 2) rfl (by decide) (by decide) rfl (fun ls hl9 => ?_)
                  refine lv_goto (tgt := 23) hx hb dL_law_1308 (by decide) ?_
                  refine lv_iload hx hb dL_law_23 (lv_at hl9 0 rfl) ?_
                  refine lv_aload_n hx hb dL_law_25 rfl (lv_at hl9 6 rfl) ?_
                  refine va_slen hx hb hX hbl hbA hS dL_law_26 ?_
                  refine hp_c (v := 4) rfl ?_
                  refine lv_iconst (v := 4) hx hb dL_law_27 (by decide) ?_
                  refine lv_isub hx hb dL_law_28 ?_
                  refine hp_c (v := 0) (by decide) ?_
                  refine lv_icmp_gt (tgt := 1311) hx hb dL_law_29 (by decide) (fun _ => ?_) (fun c9 => absurd (by decide) c9)
                  refine lv_iconst (v := 1) hx hb dL_law_1311 (by decide) ?_
                  refine va_forget (fun q hq => hFs _ (hS.2.2 q hq)) ?_
                  refine W.widen (k := 600002) (n := 7302232) (Nat.le_of_ble_eq_true rfl) (Nat.le_of_ble_eq_true rfl) ?_
                  exact lw_ret hx hb hr hlocks dL_law_1312
        · refine lv_tableIn (off := 717) (tgt := 756) hx hb dL_law_39 (by decide) (by decide) (by decide) (by decide) ?_
          refine lv_aload_n hx hb dL_law_756 rfl (lv_at hl9 3 rfl) ?_
          refine lv_aload_n hx hb dL_law_757 rfl (lv_at hl9 4 rfl) ?_
          refine lv_iload hx hb dL_law_758 (lv_at hl9 0 rfl) ?_
          refine lv_iconst (v := 1) hx hb dL_law_760 (by decide) ?_
          refine lv_iadd hx hb dL_law_761 ?_
          refine hp_c (v := 1) (by decide) ?_
          refine va_sld hx hb hX hbl hbA hS (by unfold vp_in; decide) dL_law_762 ?_
          refine hp_c (v := xs 1) rfl ?_
          refine lv_aload_n hx hb dL_law_763 rfl (lv_at hl9 4 rfl) ?_
          refine lv_iload hx hb dL_law_764 (lv_at hl9 0 rfl) ?_
          refine lv_iconst (v := 2) hx hb dL_law_766 (by decide) ?_
          refine lv_iadd hx hb dL_law_767 ?_
          refine hp_c (v := 2) (by decide) ?_
          refine va_sld hx hb hX hbl hbA hS (by unfold vp_in; decide) dL_law_768 ?_
          refine hp_c (v := xs 2) rfl ?_
          refine lv_aload_n hx hb dL_law_769 rfl (lv_at hl9 1 rfl) ?_
          have h1156 : f27 q1 = some (.inr (4, [.ref ez, .ref eo, .ref bu])) := by rw [ef27, va_up_ne _ _ (hnew h6 w26)]; exact h6
          have n1158 : q1 ≠ q25 := hnew h6 w26
          have h1157 : f29 q1 = some (.inr (4, [.ref ez, .ref eo, .ref bu])) := k53 _ _ h1156 (ninc n1158 nin0)
          have h1159 : f56 q1 = some (.inr (4, [.ref ez, .ref eo, .ref bu])) := by rw [ef56, va_up_ne _ _ (hnew h1157 w55)]; exact h1157
          have h1160 : f27 ez = some (.inr (1, [.ref nw0, .ref na0, .ref nq0, .ref nr0, .int 1, .int 0, .int 0, .int 0, .int (-1), .int 0, .int 0])) := by rw [ef27, va_up_ne _ _ (hnew h7 w26)]; exact h7
          have n1162 : ez ≠ q25 := hnew h7 w26
          have h1161 : f29 ez = some (.inr (1, [.ref nw0, .ref na0, .ref nq0, .ref nr0, .int 1, .int 0, .int 0, .int 0, .int (-1), .int 0, .int 0])) := k53 _ _ h1160 (ninc n1162 nin0)
          have h1163 : f56 ez = some (.inr (1, [.ref nw0, .ref na0, .ref nq0, .ref nr0, .int 1, .int 0, .int 0, .int 0, .int (-1), .int 0, .int 0])) := by rw [ef56, va_up_ne _ _ (hnew h1161 w55)]; exact h1161
          have h1164 : f27 nw0 = some (.inl (cI G, 6, .inl (fun j => if j < 6 then (-1) else (fun _ => 0) j))) := by rw [ef27, va_up_ne _ _ (hnew h8 w26)]; exact h8
          have n1166 : nw0 ≠ q25 := hnew h8 w26
          have h1165 : f29 nw0 = some (.inl (cI G, 6, .inl (fun j => if j < 6 then (-1) else (fun _ => 0) j))) := k53 _ _ h1164 (ninc n1166 nin0)
          have h1167 : f56 nw0 = some (.inl (cI G, 6, .inl (fun j => if j < 6 then (-1) else (fun _ => 0) j))) := by rw [ef56, va_up_ne _ _ (hnew h1165 w55)]; exact h1165
          have h1168 : f27 na0 = some (.inl (cI G, 6, .inl (fun _ => 0))) := by rw [ef27, va_up_ne _ _ (hnew h9 w26)]; exact h9
          have n1170 : na0 ≠ q25 := hnew h9 w26
          have h1169 : f29 na0 = some (.inl (cI G, 6, .inl (fun _ => 0))) := k53 _ _ h1168 (ninc n1170 nin0)
          have h1171 : f56 na0 = some (.inl (cI G, 6, .inl (fun _ => 0))) := by rw [ef56, va_up_ne _ _ (hnew h1169 w55)]; exact h1169
          have h1172 : f27 nq0 = some (.inl (cI G, 6, .inl (fun j => if j < 6 then (-1) else (fun _ => 0) j))) := by rw [ef27, va_up_ne _ _ (hnew h10 w26)]; exact h10
          have n1174 : nq0 ≠ q25 := hnew h10 w26
          have h1173 : f29 nq0 = some (.inl (cI G, 6, .inl (fun j => if j < 6 then (-1) else (fun _ => 0) j))) := k53 _ _ h1172 (ninc n1174 nin0)
          have h1175 : f56 nq0 = some (.inl (cI G, 6, .inl (fun j => if j < 6 then (-1) else (fun _ => 0) j))) := by rw [ef56, va_up_ne _ _ (hnew h1173 w55)]; exact h1173
          have h1176 : f27 nr0 = some (.inr (3, [.null, .null, .int 0])) := by rw [ef27, va_up_ne _ _ (hnew h11 w26)]; exact h11
          have n1178 : nr0 ≠ q25 := hnew h11 w26
          have h1177 : f29 nr0 = some (.inr (3, [.null, .null, .int 0])) := k53 _ _ h1176 (ninc n1178 nin0)
          have h1179 : f56 nr0 = some (.inr (3, [.null, .null, .int 0])) := by rw [ef56, va_up_ne _ _ (hnew h1177 w55)]; exact h1177
          have h1180 : f27 eo = some (.inr (1, [.ref nw1, .ref na1, .ref nq1, .ref nr1, .int 2, .int 0, .int 0, .int 0, .int (-1), .int 0, .int 0])) := by rw [ef27, va_up_ne _ _ (hnew h12 w26)]; exact h12
          have n1182 : eo ≠ q25 := hnew h12 w26
          have h1181 : f29 eo = some (.inr (1, [.ref nw1, .ref na1, .ref nq1, .ref nr1, .int 2, .int 0, .int 0, .int 0, .int (-1), .int 0, .int 0])) := k53 _ _ h1180 (ninc n1182 nin0)
          have h1183 : f56 eo = some (.inr (1, [.ref nw1, .ref na1, .ref nq1, .ref nr1, .int 2, .int 0, .int 0, .int 0, .int (-1), .int 0, .int 0])) := by rw [ef56, va_up_ne _ _ (hnew h1181 w55)]; exact h1181
          have h1184 : f27 nw1 = some (.inl (cI G, 6, .inl (fun j => if j < 6 then (-1) else (fun _ => 0) j))) := by rw [ef27, va_up_ne _ _ (hnew h13 w26)]; exact h13
          have n1186 : nw1 ≠ q25 := hnew h13 w26
          have h1185 : f29 nw1 = some (.inl (cI G, 6, .inl (fun j => if j < 6 then (-1) else (fun _ => 0) j))) := k53 _ _ h1184 (ninc n1186 nin0)
          have h1187 : f56 nw1 = some (.inl (cI G, 6, .inl (fun j => if j < 6 then (-1) else (fun _ => 0) j))) := by rw [ef56, va_up_ne _ _ (hnew h1185 w55)]; exact h1185
          have h1188 : f27 na1 = some (.inl (cI G, 6, .inl (fun _ => 0))) := by rw [ef27, va_up_ne _ _ (hnew h14 w26)]; exact h14
          have n1190 : na1 ≠ q25 := hnew h14 w26
          have h1189 : f29 na1 = some (.inl (cI G, 6, .inl (fun _ => 0))) := k53 _ _ h1188 (ninc n1190 nin0)
          have h1191 : f56 na1 = some (.inl (cI G, 6, .inl (fun _ => 0))) := by rw [ef56, va_up_ne _ _ (hnew h1189 w55)]; exact h1189
          have h1192 : f27 nq1 = some (.inl (cI G, 6, .inl (fun j => if j < 6 then (-1) else (fun _ => 0) j))) := by rw [ef27, va_up_ne _ _ (hnew h15 w26)]; exact h15
          have n1194 : nq1 ≠ q25 := hnew h15 w26
          have h1193 : f29 nq1 = some (.inl (cI G, 6, .inl (fun j => if j < 6 then (-1) else (fun _ => 0) j))) := k53 _ _ h1192 (ninc n1194 nin0)
          have h1195 : f56 nq1 = some (.inl (cI G, 6, .inl (fun j => if j < 6 then (-1) else (fun _ => 0) j))) := by rw [ef56, va_up_ne _ _ (hnew h1193 w55)]; exact h1193
          have h1196 : f27 nr1 = some (.inr (3, [.null, .null, .int 0])) := by rw [ef27, va_up_ne _ _ (hnew h16 w26)]; exact h16
          have n1198 : nr1 ≠ q25 := hnew h16 w26
          have h1197 : f29 nr1 = some (.inr (3, [.null, .null, .int 0])) := k53 _ _ h1196 (ninc n1198 nin0)
          have h1199 : f56 nr1 = some (.inr (3, [.null, .null, .int 0])) := by rw [ef56, va_up_ne _ _ (hnew h1197 w55)]; exact h1197
          have h1200 : f27 bu = some (.inr (0, [.ref bs, .ref bp, .ref bh, .ref bf, .ref bl, .ref bg, .int 0, .int 0, .int 0])) := by rw [ef27, va_up_ne _ _ (hnew h17 w26)]; exact h17
          have n1202 : bu ≠ q25 := hnew h17 w26
          have h1201 : f29 bu = some (.inr (0, [.ref bs, .ref bp, .ref bh, .ref bf, .ref bl, .ref bg, .int 0, .int 0, .int 0])) := k53 _ _ h1200 (ninc n1202 nin0)
          have h1203 : f56 bu = some (.inr (0, [.ref bs, .ref bp, .ref bh, .ref bf, .ref bl, .ref bg, .int 0, .int 0, .int 0])) := by rw [ef56, va_up_ne _ _ (hnew h1201 w55)]; exact h1201
          have h1204 : f27 bs = some (.inl (cI G, 61, .inl (fun _ => 0))) := by rw [ef27, va_up_ne _ _ (hnew h18 w26)]; exact h18
          have n1206 : bs ≠ q25 := hnew h18 w26
          have h1205 : f29 bs = some (.inl (cI G, 61, .inl (fun _ => 0))) := k53 _ _ h1204 (ninc n1206 nin0)
          have h1207 : f56 bs = some (.inl (cI G, 61, .inl (fun _ => 0))) := by rw [ef56, va_up_ne _ _ (hnew h1205 w55)]; exact h1205
          have h1208 : f27 bp = some (.inl (cI G, 240, .inl (fun _ => 0))) := by rw [ef27, va_up_ne _ _ (hnew h19 w26)]; exact h19
          have n1210 : bp ≠ q25 := hnew h19 w26
          have h1209 : f29 bp = some (.inl (cI G, 240, .inl (fun _ => 0))) := k53 _ _ h1208 (ninc n1210 nin0)
          have h1211 : f56 bp = some (.inl (cI G, 240, .inl (fun _ => 0))) := by rw [ef56, va_up_ne _ _ (hnew h1209 w55)]; exact h1209
          have h1212 : f27 bh = some (.inl (cZ G, 240, .inl (fun _ => 0))) := by rw [ef27, va_up_ne _ _ (hnew h20 w26)]; exact h20
          have n1214 : bh ≠ q25 := hnew h20 w26
          have h1213 : f29 bh = some (.inl (cZ G, 240, .inl (fun _ => 0))) := k53 _ _ h1212 (ninc n1214 nin0)
          have h1215 : f56 bh = some (.inl (cZ G, 240, .inl (fun _ => 0))) := by rw [ef56, va_up_ne _ _ (hnew h1213 w55)]; exact h1213
          have h1216 : f27 bf = some (.inl (cI G, 3, .inl (upd (upd (upd (fun _ => 0) (0 : Int32).toNatClampNeg 0) (1 : Int32).toNatClampNeg 1) (2 : Int32).toNatClampNeg 2))) := by rw [ef27, va_up_ne _ _ (hnew h21 w26)]; exact h21
          have n1218 : bf ≠ q25 := hnew h21 w26
          have h1217 : f29 bf = some (.inl (cI G, 3, .inl (upd (upd (upd (fun _ => 0) (0 : Int32).toNatClampNeg 0) (1 : Int32).toNatClampNeg 1) (2 : Int32).toNatClampNeg 2))) := k53 _ _ h1216 (ninc n1218 nin0)
          have h1219 : f56 bf = some (.inl (cI G, 3, .inl (upd (upd (upd (fun _ => 0) (0 : Int32).toNatClampNeg 0) (1 : Int32).toNatClampNeg 1) (2 : Int32).toNatClampNeg 2))) := by rw [ef56, va_up_ne _ _ (hnew h1217 w55)]; exact h1217
          have h1220 : f27 bl = some (.inl (cI G, 3, .inl (fun j => if j < 3 then (-1) else (fun _ => 0) j))) := by rw [ef27, va_up_ne _ _ (hnew h22 w26)]; exact h22
          have n1222 : bl ≠ q25 := hnew h22 w26
          have h1221 : f29 bl = some (.inl (cI G, 3, .inl (fun j => if j < 3 then (-1) else (fun _ => 0) j))) := k53 _ _ h1220 (ninc n1222 nin0)
          have h1223 : f56 bl = some (.inl (cI G, 3, .inl (fun j => if j < 3 then (-1) else (fun _ => 0) j))) := by rw [ef56, va_up_ne _ _ (hnew h1221 w55)]; exact h1221
          have h1224 : f27 bg = some (.inl (cI G, 60, .inl (fun _ => 0))) := by rw [ef27, va_up_ne _ _ (hnew h23 w26)]; exact h23
          have n1226 : bg ≠ q25 := hnew h23 w26
          have h1225 : f29 bg = some (.inl (cI G, 60, .inl (fun _ => 0))) := k53 _ _ h1224 (ninc n1226 nin0)
          have h1227 : f56 bg = some (.inl (cI G, 60, .inl (fun _ => 0))) := by rw [ef56, va_up_ne _ _ (hnew h1225 w55)]; exact h1225
          have n1228 : bp ≠ q54 := hnew h1209 w55
          have n1229 : bs ≠ q54 := hnew h1205 w55
          have n1230 : nq1 ≠ q54 := hnew h1193 w55
          have n1231 : nq0 ≠ q54 := hnew h1173 w55
          have n1232 : na1 ≠ q54 := hnew h1189 w55
          have n1233 : na0 ≠ q54 := hnew h1169 w55
          have n1234 : nw1 ≠ q54 := hnew h1185 w55
          have n1235 : nw0 ≠ q54 := hnew h1165 w55
          refine hp_SH (As := [.ref q1, .int (xs 1), .int (xs 2), .ref q54]) (rest := []) B0 hw hS (c_L_asked hl G f56 q1 ez eo bu nw0 na0 nq0 nr0 nw1 na1 nq1 nr1 bs bp bh bf bl bg q54 ⟨h1159, h1163, h1167, h1171, h1175, h1179, h1183, h1187, h1191, h1195, h1199, h1203, h1207, h1211, h1215, h1219, h1223, h1227, n_wq0, n_wq1, n_sp⟩ (ninc (Ne.symm n1235) (ninc (Ne.symm n1234) (ninc (Ne.symm n1233) (ninc (Ne.symm n1232) (ninc (Ne.symm n1231) (ninc (Ne.symm n1230) (ninc (Ne.symm n1229) (ninc (Ne.symm n1228) nin0)))))))) h57 (xs 1) (xs 2)) mH_L_asked qM_L_119 rfl rfl hl9.1 (Nat.le_of_ble_eq_true rfl) ⟨⟨Nat.le_of_ble_eq_true rfl, Nat.le_of_ble_eq_true rfl⟩, Nat.le_of_ble_eq_true rfl, Nat.le_of_ble_eq_true rfl⟩ dL_law_770 (fun E ce q9 f1236 H locs hPX hw hS hce hcv hcl => ?_) (fun v f1236 H locs hP hw hS => ?_)
          · exact hPX.elim
          · obtain ⟨ev9, h1237, k1238⟩ := hP
            subst ev9
            refine W.eq (g2 := F0 m 773 ls [.int (spc (sE (xs 1) ∧ sO (xs 2)) True)]) rfl ?_
            refine lv_istore (lv' := [(5, .int (spc (sE (xs 1) ∧ sO (xs 2)) True)), (4, .int 0), (3, .ref q54), (2, .ref q25), (1, .ref q1), (0, .ref b)]) hx hb dL_law_773 hl9 (by decide) rfl (fun ls hl9 => ?_)
            refine lv_aload_n hx hb dL_law_775 rfl (lv_at hl9 3 rfl) ?_
            refine lv_aload_n hx hb dL_law_776 rfl (lv_at hl9 5 rfl) ?_
            refine lv_iload hx hb dL_law_777 (lv_at hl9 1 rfl) ?_
            refine lv_iconst (v := 1) hx hb dL_law_779 (by decide) ?_
            refine lv_iadd hx hb dL_law_780 ?_
            refine hp_c (v := 1) (by decide) ?_
            refine va_sld hx hb hX hbl hbA hS (by unfold vp_in; decide) dL_law_781 ?_
            refine hp_c (v := xs 1) rfl ?_
            refine lv_aload_n hx hb dL_law_782 rfl (lv_at hl9 5 rfl) ?_
            refine lv_iload hx hb dL_law_783 (lv_at hl9 1 rfl) ?_
            refine lv_iconst (v := 2) hx hb dL_law_785 (by decide) ?_
            refine lv_iadd hx hb dL_law_786 ?_
            refine hp_c (v := 2) (by decide) ?_
            refine va_sld hx hb hX hbl hbA hS (by unfold vp_in; decide) dL_law_787 ?_
            refine hp_c (v := xs 2) rfl ?_
            have h1239 : f56 q25 = some (.inr (5, [.int 0, .ref dW, .ref dA, .ref dQ, .ref dM, .ref dS, .ref dL, .ref dR, .ref dT, .ref dZ, .ref dI, .ref dH, .ref dN, .ref dK, .ref dJ, .ref dU, .ref dO, .int 0, .int 0, .ref dF, .ref dP, .ref dE, .ref dX, .ref dY, .int 0, .int 0, .ref dG])) := by rw [ef56, va_up_ne _ _ (hnew h30 w55)]; exact h30
            have n1241 : q25 ≠ q54 := hnew h30 w55
            have h1240 : f1236 q25 = some (.inr (5, [.int 0, .ref dW, .ref dA, .ref dQ, .ref dM, .ref dS, .ref dL, .ref dR, .ref dT, .ref dZ, .ref dI, .ref dH, .ref dN, .ref dK, .ref dJ, .ref dU, .ref dO, .int 0, .int 0, .ref dF, .ref dP, .ref dE, .ref dX, .ref dY, .int 0, .int 0, .ref dG])) := k1238 _ _ h1239 (ninc n1241 nin0)
            have h1242 : f56 dQ = some (.inl (cI G, 12, .inl mA12)) := by rw [ef56, va_up_ne _ _ (hnew h33 w55)]; exact h33
            have n1244 : dQ ≠ q54 := hnew h33 w55
            have h1243 : f1236 dQ = some (.inl (cI G, 12, .inl mA12)) := k1238 _ _ h1242 (ninc n1244 nin0)
            refine hp_V (ci := 5) (As := [.int (xs 1), .int (xs 2)]) (rest := []) B0 hw hS (c_X5_asked0 hl G f1236 q25 dW dA dQ dM dS dL dR dT dZ dI dH dN dK dJ dU dO dF dP dE dX dY dG 0 h1240 h1243  (xs 1) (xs 2)) mV_X5_asked qM_L_121 rfl h1240 rfl rfl hl9.1 (Nat.le_of_ble_eq_true rfl) ⟨⟨Nat.le_of_ble_eq_true rfl, Nat.le_of_ble_eq_true rfl⟩, Nat.le_of_ble_eq_true rfl, Nat.le_of_ble_eq_true rfl⟩ dL_law_788 (fun E ce q9 f1245 H locs hPX hw hS hce hcv hcl => ?_) (fun v f1245 H locs hP hw hS => ?_)
            · exact hPX.elim
            · obtain ⟨⟨r1246, ev9, h1247⟩, ⟨c1248, h1249⟩, k1250⟩ := hP
              subst ev9
              refine W.eq (g2 := F0 m 791 ls [.int r1246]) rfl ?_
              refine lv_istore (lv' := [(6, .int r1246), (5, .int (spc (sE (xs 1) ∧ sO (xs 2)) True)), (4, .int 0), (3, .ref q54), (2, .ref q25), (1, .ref q1), (0, .ref b)]) hx hb dL_law_791 hl9 (by decide) rfl (fun ls hl9 => ?_)
              refine lv_aload_n hx hb dL_law_793 rfl (lv_at hl9 4 rfl) ?_
              refine hp_V (ci := 5) (As := []) (rest := []) B0 hw hS (c_X5_thrown hl G f1245 q25 (spc (sE (xs 1) ∧ sO (xs 2)) True) c1248 h1249) mV_X5_thrown qM_L_86 rfl h1249 rfl rfl hl9.1 (Nat.le_of_ble_eq_true rfl) ⟨⟨Nat.le_of_ble_eq_true rfl, Nat.le_of_ble_eq_true rfl⟩, Nat.le_of_ble_eq_true rfl, Nat.le_of_ble_eq_true rfl⟩ dL_law_794 (fun E ce q9 f1251 H locs hPX hw hS hce hcv hcl => ?_) (fun v f1251 H locs hP hw hS => ?_)
              · exact hPX.elim
              · obtain ⟨ev9, ef9⟩ := hP
                rw [ef9] at hw
                subst ev9
                refine W.eq (g2 := F0 m 797 ls [.int (spc (sE (xs 1) ∧ sO (xs 2)) True)]) rfl ?_
                refine lv_iload hx hb dL_law_797 (lv_at hl9 1 rfl) ?_
                refine lv_icmp_eq (tgt := 804) hx hb dL_law_799 (by decide) (fun _ => ?_) (fun c9 => absurd rfl c9)
                refine lv_iload hx hb dL_law_804 (lv_at hl9 1 rfl) ?_
                refine lv_if_ne (tgt := 821) hx hb dL_law_806 (by decide) (fun c1252 => ?_) (fun c1252 => ?_)
                · refine lv_goto (tgt := 1305) hx hb dL_law_821 (by decide) ?_
                  refine lv_iinc (v := 4) (lv' := [(4, .int 4), (6, .int r1246), (5, .int (spc (sE (xs 1) ∧ sO (xs 2)) True)), (3, .ref q54), (2, .ref q25), (1, .ref q1), (0, .ref b)]) hx hb dL_law_1305 hl9 (k := 2) rfl (by decide) (by decide) rfl (fun ls hl9 => ?_)
                  refine lv_goto (tgt := 23) hx hb dL_law_1308 (by decide) ?_
                  refine lv_iload hx hb dL_law_23 (lv_at hl9 0 rfl) ?_
                  refine lv_aload_n hx hb dL_law_25 rfl (lv_at hl9 6 rfl) ?_
                  refine va_slen hx hb hX hbl hbA hS dL_law_26 ?_
                  refine hp_c (v := 4) rfl ?_
                  refine lv_iconst (v := 4) hx hb dL_law_27 (by decide) ?_
                  refine lv_isub hx hb dL_law_28 ?_
                  refine hp_c (v := 0) (by decide) ?_
                  refine lv_icmp_gt (tgt := 1311) hx hb dL_law_29 (by decide) (fun _ => ?_) (fun c9 => absurd (by decide) c9)
                  refine lv_iconst (v := 1) hx hb dL_law_1311 (by decide) ?_
                  refine va_forget (fun q hq => hFs _ (hS.2.2 q hq)) ?_
                  refine W.widen (k := 600002) (n := 7302232) (Nat.le_of_ble_eq_true rfl) (Nat.le_of_ble_eq_true rfl) ?_
                  exact lw_ret hx hb hr hlocks dL_law_1312
                · refine lv_aload_n hx hb dL_law_809 rfl (lv_at hl9 3 rfl) ?_
                  refine lv_iconst (v := 0) hx hb dL_law_810 (by decide) ?_
                  have h1253 : f1236 q54 = some (.inl (cJ G, 1, .inr (.inl (vp_updL (fun _ => 0) (0 : Int32).toNatClampNeg (((-1) : Int32).toInt64))))) := h1237 c1252
                  have h1254 : f1245 q54 = some (.inl (cJ G, 1, .inr (.inl (vp_updL (fun _ => 0) (0 : Int32).toNatClampNeg (((-1) : Int32).toInt64))))) := k1250 _ _ h1253 (ninc (Ne.symm n1241) nin0)
                  refine hp_lald B0 hw h1254 (by unfold vp_in; decide) dL_law_811 ?_
                  refine lv_iload hx hb dL_law_812 (lv_at hl9 0 rfl) ?_
                  refine lv_i2l (v := (r1246 : Int32).toInt64) hx hb dL_law_814 rfl ?_
                  refine W.lcmp hx hb dL_law_815 ?_
                  refine lv_if_eq (tgt := 821) hx hb dL_law_816 (by decide) (fun _ => ?_) (fun c9 => absurd (lg_eq0 (by have h9 := h1247 c1252; subst h9; rfl)) c9)
                  refine lv_goto (tgt := 1305) hx hb dL_law_821 (by decide) ?_
                  refine lv_iinc (v := 4) (lv' := [(4, .int 4), (6, .int r1246), (5, .int (spc (sE (xs 1) ∧ sO (xs 2)) True)), (3, .ref q54), (2, .ref q25), (1, .ref q1), (0, .ref b)]) hx hb dL_law_1305 hl9 (k := 2) rfl (by decide) (by decide) rfl (fun ls hl9 => ?_)
                  refine lv_goto (tgt := 23) hx hb dL_law_1308 (by decide) ?_
                  refine lv_iload hx hb dL_law_23 (lv_at hl9 0 rfl) ?_
                  refine lv_aload_n hx hb dL_law_25 rfl (lv_at hl9 6 rfl) ?_
                  refine va_slen hx hb hX hbl hbA hS dL_law_26 ?_
                  refine hp_c (v := 4) rfl ?_
                  refine lv_iconst (v := 4) hx hb dL_law_27 (by decide) ?_
                  refine lv_isub hx hb dL_law_28 ?_
                  refine hp_c (v := 0) (by decide) ?_
                  refine lv_icmp_gt (tgt := 1311) hx hb dL_law_29 (by decide) (fun _ => ?_) (fun c9 => absurd (by decide) c9)
                  refine lv_iconst (v := 1) hx hb dL_law_1311 (by decide) ?_
                  refine va_forget (fun q hq => hFs _ (hS.2.2 q hq)) ?_
                  refine W.widen (k := 600002) (n := 7302232) (Nat.le_of_ble_eq_true rfl) (Nat.le_of_ble_eq_true rfl) ?_
                  exact lw_ret hx hb hr hlocks dL_law_1312
        · refine lv_tableIn (off := 785) (tgt := 824) hx hb dL_law_39 (by decide) (by decide) (by decide) (by decide) ?_
          refine lv_aload_n hx hb dL_law_824 rfl (lv_at hl9 3 rfl) ?_
          refine lv_aload_n hx hb dL_law_825 rfl (lv_at hl9 4 rfl) ?_
          refine lv_iload hx hb dL_law_826 (lv_at hl9 0 rfl) ?_
          refine lv_iconst (v := 1) hx hb dL_law_828 (by decide) ?_
          refine lv_iadd hx hb dL_law_829 ?_
          refine hp_c (v := 1) (by decide) ?_
          refine va_sld hx hb hX hbl hbA hS (by unfold vp_in; decide) dL_law_830 ?_
          refine hp_c (v := xs 1) rfl ?_
          refine lv_aload_n hx hb dL_law_831 rfl (lv_at hl9 1 rfl) ?_
          have h1255 : f27 q1 = some (.inr (4, [.ref ez, .ref eo, .ref bu])) := by rw [ef27, va_up_ne _ _ (hnew h6 w26)]; exact h6
          have n1257 : q1 ≠ q25 := hnew h6 w26
          have h1256 : f29 q1 = some (.inr (4, [.ref ez, .ref eo, .ref bu])) := k53 _ _ h1255 (ninc n1257 nin0)
          have h1258 : f56 q1 = some (.inr (4, [.ref ez, .ref eo, .ref bu])) := by rw [ef56, va_up_ne _ _ (hnew h1256 w55)]; exact h1256
          have h1259 : f27 ez = some (.inr (1, [.ref nw0, .ref na0, .ref nq0, .ref nr0, .int 1, .int 0, .int 0, .int 0, .int (-1), .int 0, .int 0])) := by rw [ef27, va_up_ne _ _ (hnew h7 w26)]; exact h7
          have n1261 : ez ≠ q25 := hnew h7 w26
          have h1260 : f29 ez = some (.inr (1, [.ref nw0, .ref na0, .ref nq0, .ref nr0, .int 1, .int 0, .int 0, .int 0, .int (-1), .int 0, .int 0])) := k53 _ _ h1259 (ninc n1261 nin0)
          have h1262 : f56 ez = some (.inr (1, [.ref nw0, .ref na0, .ref nq0, .ref nr0, .int 1, .int 0, .int 0, .int 0, .int (-1), .int 0, .int 0])) := by rw [ef56, va_up_ne _ _ (hnew h1260 w55)]; exact h1260
          have h1263 : f27 nw0 = some (.inl (cI G, 6, .inl (fun j => if j < 6 then (-1) else (fun _ => 0) j))) := by rw [ef27, va_up_ne _ _ (hnew h8 w26)]; exact h8
          have n1265 : nw0 ≠ q25 := hnew h8 w26
          have h1264 : f29 nw0 = some (.inl (cI G, 6, .inl (fun j => if j < 6 then (-1) else (fun _ => 0) j))) := k53 _ _ h1263 (ninc n1265 nin0)
          have h1266 : f56 nw0 = some (.inl (cI G, 6, .inl (fun j => if j < 6 then (-1) else (fun _ => 0) j))) := by rw [ef56, va_up_ne _ _ (hnew h1264 w55)]; exact h1264
          have h1267 : f27 na0 = some (.inl (cI G, 6, .inl (fun _ => 0))) := by rw [ef27, va_up_ne _ _ (hnew h9 w26)]; exact h9
          have n1269 : na0 ≠ q25 := hnew h9 w26
          have h1268 : f29 na0 = some (.inl (cI G, 6, .inl (fun _ => 0))) := k53 _ _ h1267 (ninc n1269 nin0)
          have h1270 : f56 na0 = some (.inl (cI G, 6, .inl (fun _ => 0))) := by rw [ef56, va_up_ne _ _ (hnew h1268 w55)]; exact h1268
          have h1271 : f27 nq0 = some (.inl (cI G, 6, .inl (fun j => if j < 6 then (-1) else (fun _ => 0) j))) := by rw [ef27, va_up_ne _ _ (hnew h10 w26)]; exact h10
          have n1273 : nq0 ≠ q25 := hnew h10 w26
          have h1272 : f29 nq0 = some (.inl (cI G, 6, .inl (fun j => if j < 6 then (-1) else (fun _ => 0) j))) := k53 _ _ h1271 (ninc n1273 nin0)
          have h1274 : f56 nq0 = some (.inl (cI G, 6, .inl (fun j => if j < 6 then (-1) else (fun _ => 0) j))) := by rw [ef56, va_up_ne _ _ (hnew h1272 w55)]; exact h1272
          have h1275 : f27 nr0 = some (.inr (3, [.null, .null, .int 0])) := by rw [ef27, va_up_ne _ _ (hnew h11 w26)]; exact h11
          have n1277 : nr0 ≠ q25 := hnew h11 w26
          have h1276 : f29 nr0 = some (.inr (3, [.null, .null, .int 0])) := k53 _ _ h1275 (ninc n1277 nin0)
          have h1278 : f56 nr0 = some (.inr (3, [.null, .null, .int 0])) := by rw [ef56, va_up_ne _ _ (hnew h1276 w55)]; exact h1276
          have h1279 : f27 eo = some (.inr (1, [.ref nw1, .ref na1, .ref nq1, .ref nr1, .int 2, .int 0, .int 0, .int 0, .int (-1), .int 0, .int 0])) := by rw [ef27, va_up_ne _ _ (hnew h12 w26)]; exact h12
          have n1281 : eo ≠ q25 := hnew h12 w26
          have h1280 : f29 eo = some (.inr (1, [.ref nw1, .ref na1, .ref nq1, .ref nr1, .int 2, .int 0, .int 0, .int 0, .int (-1), .int 0, .int 0])) := k53 _ _ h1279 (ninc n1281 nin0)
          have h1282 : f56 eo = some (.inr (1, [.ref nw1, .ref na1, .ref nq1, .ref nr1, .int 2, .int 0, .int 0, .int 0, .int (-1), .int 0, .int 0])) := by rw [ef56, va_up_ne _ _ (hnew h1280 w55)]; exact h1280
          have h1283 : f27 nw1 = some (.inl (cI G, 6, .inl (fun j => if j < 6 then (-1) else (fun _ => 0) j))) := by rw [ef27, va_up_ne _ _ (hnew h13 w26)]; exact h13
          have n1285 : nw1 ≠ q25 := hnew h13 w26
          have h1284 : f29 nw1 = some (.inl (cI G, 6, .inl (fun j => if j < 6 then (-1) else (fun _ => 0) j))) := k53 _ _ h1283 (ninc n1285 nin0)
          have h1286 : f56 nw1 = some (.inl (cI G, 6, .inl (fun j => if j < 6 then (-1) else (fun _ => 0) j))) := by rw [ef56, va_up_ne _ _ (hnew h1284 w55)]; exact h1284
          have h1287 : f27 na1 = some (.inl (cI G, 6, .inl (fun _ => 0))) := by rw [ef27, va_up_ne _ _ (hnew h14 w26)]; exact h14
          have n1289 : na1 ≠ q25 := hnew h14 w26
          have h1288 : f29 na1 = some (.inl (cI G, 6, .inl (fun _ => 0))) := k53 _ _ h1287 (ninc n1289 nin0)
          have h1290 : f56 na1 = some (.inl (cI G, 6, .inl (fun _ => 0))) := by rw [ef56, va_up_ne _ _ (hnew h1288 w55)]; exact h1288
          have h1291 : f27 nq1 = some (.inl (cI G, 6, .inl (fun j => if j < 6 then (-1) else (fun _ => 0) j))) := by rw [ef27, va_up_ne _ _ (hnew h15 w26)]; exact h15
          have n1293 : nq1 ≠ q25 := hnew h15 w26
          have h1292 : f29 nq1 = some (.inl (cI G, 6, .inl (fun j => if j < 6 then (-1) else (fun _ => 0) j))) := k53 _ _ h1291 (ninc n1293 nin0)
          have h1294 : f56 nq1 = some (.inl (cI G, 6, .inl (fun j => if j < 6 then (-1) else (fun _ => 0) j))) := by rw [ef56, va_up_ne _ _ (hnew h1292 w55)]; exact h1292
          have h1295 : f27 nr1 = some (.inr (3, [.null, .null, .int 0])) := by rw [ef27, va_up_ne _ _ (hnew h16 w26)]; exact h16
          have n1297 : nr1 ≠ q25 := hnew h16 w26
          have h1296 : f29 nr1 = some (.inr (3, [.null, .null, .int 0])) := k53 _ _ h1295 (ninc n1297 nin0)
          have h1298 : f56 nr1 = some (.inr (3, [.null, .null, .int 0])) := by rw [ef56, va_up_ne _ _ (hnew h1296 w55)]; exact h1296
          have h1299 : f27 bu = some (.inr (0, [.ref bs, .ref bp, .ref bh, .ref bf, .ref bl, .ref bg, .int 0, .int 0, .int 0])) := by rw [ef27, va_up_ne _ _ (hnew h17 w26)]; exact h17
          have n1301 : bu ≠ q25 := hnew h17 w26
          have h1300 : f29 bu = some (.inr (0, [.ref bs, .ref bp, .ref bh, .ref bf, .ref bl, .ref bg, .int 0, .int 0, .int 0])) := k53 _ _ h1299 (ninc n1301 nin0)
          have h1302 : f56 bu = some (.inr (0, [.ref bs, .ref bp, .ref bh, .ref bf, .ref bl, .ref bg, .int 0, .int 0, .int 0])) := by rw [ef56, va_up_ne _ _ (hnew h1300 w55)]; exact h1300
          have h1303 : f27 bs = some (.inl (cI G, 61, .inl (fun _ => 0))) := by rw [ef27, va_up_ne _ _ (hnew h18 w26)]; exact h18
          have n1305 : bs ≠ q25 := hnew h18 w26
          have h1304 : f29 bs = some (.inl (cI G, 61, .inl (fun _ => 0))) := k53 _ _ h1303 (ninc n1305 nin0)
          have h1306 : f56 bs = some (.inl (cI G, 61, .inl (fun _ => 0))) := by rw [ef56, va_up_ne _ _ (hnew h1304 w55)]; exact h1304
          have h1307 : f27 bp = some (.inl (cI G, 240, .inl (fun _ => 0))) := by rw [ef27, va_up_ne _ _ (hnew h19 w26)]; exact h19
          have n1309 : bp ≠ q25 := hnew h19 w26
          have h1308 : f29 bp = some (.inl (cI G, 240, .inl (fun _ => 0))) := k53 _ _ h1307 (ninc n1309 nin0)
          have h1310 : f56 bp = some (.inl (cI G, 240, .inl (fun _ => 0))) := by rw [ef56, va_up_ne _ _ (hnew h1308 w55)]; exact h1308
          have h1311 : f27 bh = some (.inl (cZ G, 240, .inl (fun _ => 0))) := by rw [ef27, va_up_ne _ _ (hnew h20 w26)]; exact h20
          have n1313 : bh ≠ q25 := hnew h20 w26
          have h1312 : f29 bh = some (.inl (cZ G, 240, .inl (fun _ => 0))) := k53 _ _ h1311 (ninc n1313 nin0)
          have h1314 : f56 bh = some (.inl (cZ G, 240, .inl (fun _ => 0))) := by rw [ef56, va_up_ne _ _ (hnew h1312 w55)]; exact h1312
          have h1315 : f27 bf = some (.inl (cI G, 3, .inl (upd (upd (upd (fun _ => 0) (0 : Int32).toNatClampNeg 0) (1 : Int32).toNatClampNeg 1) (2 : Int32).toNatClampNeg 2))) := by rw [ef27, va_up_ne _ _ (hnew h21 w26)]; exact h21
          have n1317 : bf ≠ q25 := hnew h21 w26
          have h1316 : f29 bf = some (.inl (cI G, 3, .inl (upd (upd (upd (fun _ => 0) (0 : Int32).toNatClampNeg 0) (1 : Int32).toNatClampNeg 1) (2 : Int32).toNatClampNeg 2))) := k53 _ _ h1315 (ninc n1317 nin0)
          have h1318 : f56 bf = some (.inl (cI G, 3, .inl (upd (upd (upd (fun _ => 0) (0 : Int32).toNatClampNeg 0) (1 : Int32).toNatClampNeg 1) (2 : Int32).toNatClampNeg 2))) := by rw [ef56, va_up_ne _ _ (hnew h1316 w55)]; exact h1316
          have h1319 : f27 bl = some (.inl (cI G, 3, .inl (fun j => if j < 3 then (-1) else (fun _ => 0) j))) := by rw [ef27, va_up_ne _ _ (hnew h22 w26)]; exact h22
          have n1321 : bl ≠ q25 := hnew h22 w26
          have h1320 : f29 bl = some (.inl (cI G, 3, .inl (fun j => if j < 3 then (-1) else (fun _ => 0) j))) := k53 _ _ h1319 (ninc n1321 nin0)
          have h1322 : f56 bl = some (.inl (cI G, 3, .inl (fun j => if j < 3 then (-1) else (fun _ => 0) j))) := by rw [ef56, va_up_ne _ _ (hnew h1320 w55)]; exact h1320
          have h1323 : f27 bg = some (.inl (cI G, 60, .inl (fun _ => 0))) := by rw [ef27, va_up_ne _ _ (hnew h23 w26)]; exact h23
          have n1325 : bg ≠ q25 := hnew h23 w26
          have h1324 : f29 bg = some (.inl (cI G, 60, .inl (fun _ => 0))) := k53 _ _ h1323 (ninc n1325 nin0)
          have h1326 : f56 bg = some (.inl (cI G, 60, .inl (fun _ => 0))) := by rw [ef56, va_up_ne _ _ (hnew h1324 w55)]; exact h1324
          have n1327 : bp ≠ q54 := hnew h1308 w55
          have n1328 : bs ≠ q54 := hnew h1304 w55
          have n1329 : nq1 ≠ q54 := hnew h1292 w55
          have n1330 : nq0 ≠ q54 := hnew h1272 w55
          have n1331 : na1 ≠ q54 := hnew h1288 w55
          have n1332 : na0 ≠ q54 := hnew h1268 w55
          have n1333 : nw1 ≠ q54 := hnew h1284 w55
          have n1334 : nw0 ≠ q54 := hnew h1264 w55
          refine hp_SH (As := [.ref q1, .int (xs 1), .ref q54]) (rest := []) B0 hw hS (c_L_requests hl G f56 q1 ez eo bu nw0 na0 nq0 nr0 nw1 na1 nq1 nr1 bs bp bh bf bl bg q54 ⟨h1258, h1262, h1266, h1270, h1274, h1278, h1282, h1286, h1290, h1294, h1298, h1302, h1306, h1310, h1314, h1318, h1322, h1326, n_wq0, n_wq1, n_sp⟩ (ninc (Ne.symm n1334) (ninc (Ne.symm n1333) (ninc (Ne.symm n1332) (ninc (Ne.symm n1331) (ninc (Ne.symm n1330) (ninc (Ne.symm n1329) (ninc (Ne.symm n1328) (ninc (Ne.symm n1327) nin0)))))))) h57 (xs 1)) mH_L_requests qM_L_122 rfl rfl hl9.1 (Nat.le_of_ble_eq_true rfl) ⟨⟨Nat.le_of_ble_eq_true rfl, Nat.le_of_ble_eq_true rfl⟩, Nat.le_of_ble_eq_true rfl, Nat.le_of_ble_eq_true rfl⟩ dL_law_832 (fun E ce q9 f1335 H locs hPX hw hS hce hcv hcl => ?_) (fun v f1335 H locs hP hw hS => ?_)
          · exact hPX.elim
          · obtain ⟨ev9, h1336, k1337⟩ := hP
            subst ev9
            refine W.eq (g2 := F0 m 835 ls [.int (spc (sE (xs 1)) True)]) rfl ?_
            refine lv_istore (lv' := [(5, .int (spc (sE (xs 1)) True)), (4, .int 0), (3, .ref q54), (2, .ref q25), (1, .ref q1), (0, .ref b)]) hx hb dL_law_835 hl9 (by decide) rfl (fun ls hl9 => ?_)
            refine lv_aload_n hx hb dL_law_837 rfl (lv_at hl9 3 rfl) ?_
            refine lv_aload_n hx hb dL_law_838 rfl (lv_at hl9 5 rfl) ?_
            refine lv_iload hx hb dL_law_839 (lv_at hl9 1 rfl) ?_
            refine lv_iconst (v := 1) hx hb dL_law_841 (by decide) ?_
            refine lv_iadd hx hb dL_law_842 ?_
            refine hp_c (v := 1) (by decide) ?_
            refine va_sld hx hb hX hbl hbA hS (by unfold vp_in; decide) dL_law_843 ?_
            refine hp_c (v := xs 1) rfl ?_
            have h1338 : f56 q25 = some (.inr (5, [.int 0, .ref dW, .ref dA, .ref dQ, .ref dM, .ref dS, .ref dL, .ref dR, .ref dT, .ref dZ, .ref dI, .ref dH, .ref dN, .ref dK, .ref dJ, .ref dU, .ref dO, .int 0, .int 0, .ref dF, .ref dP, .ref dE, .ref dX, .ref dY, .int 0, .int 0, .ref dG])) := by rw [ef56, va_up_ne _ _ (hnew h30 w55)]; exact h30
            have n1340 : q25 ≠ q54 := hnew h30 w55
            have h1339 : f1335 q25 = some (.inr (5, [.int 0, .ref dW, .ref dA, .ref dQ, .ref dM, .ref dS, .ref dL, .ref dR, .ref dT, .ref dZ, .ref dI, .ref dH, .ref dN, .ref dK, .ref dJ, .ref dU, .ref dO, .int 0, .int 0, .ref dF, .ref dP, .ref dE, .ref dX, .ref dY, .int 0, .int 0, .ref dG])) := k1337 _ _ h1338 (ninc n1340 nin0)
            have h1341 : f56 dR = some (.inl (cI G, 2, .inl (fun _ => 0))) := by rw [ef56, va_up_ne _ _ (hnew h37 w55)]; exact h37
            have n1343 : dR ≠ q54 := hnew h37 w55
            have h1342 : f1335 dR = some (.inl (cI G, 2, .inl (fun _ => 0))) := k1337 _ _ h1341 (ninc n1343 nin0)
            refine hp_V (ci := 5) (As := [.int (xs 1)]) (rest := []) B0 hw hS (c_X5_requests0 hl G f1335 q25 dW dA dQ dM dS dL dR dT dZ dI dH dN dK dJ dU dO dF dP dE dX dY dG 0 h1339 h1342  (xs 1)) mV_X5_requests qM_L_124 rfl h1339 rfl rfl hl9.1 (Nat.le_of_ble_eq_true rfl) ⟨⟨Nat.le_of_ble_eq_true rfl, Nat.le_of_ble_eq_true rfl⟩, Nat.le_of_ble_eq_true rfl, Nat.le_of_ble_eq_true rfl⟩ dL_law_844 (fun E ce q9 f1344 H locs hPX hw hS hce hcv hcl => ?_) (fun v f1344 H locs hP hw hS => ?_)
            · exact hPX.elim
            · obtain ⟨⟨r1345, ev9, h1346⟩, ⟨c1347, h1348⟩, k1349⟩ := hP
              subst ev9
              refine W.eq (g2 := F0 m 847 ls [.int r1345]) rfl ?_
              refine lv_istore (lv' := [(6, .int r1345), (5, .int (spc (sE (xs 1)) True)), (4, .int 0), (3, .ref q54), (2, .ref q25), (1, .ref q1), (0, .ref b)]) hx hb dL_law_847 hl9 (by decide) rfl (fun ls hl9 => ?_)
              refine lv_aload_n hx hb dL_law_849 rfl (lv_at hl9 4 rfl) ?_
              refine hp_V (ci := 5) (As := []) (rest := []) B0 hw hS (c_X5_thrown hl G f1344 q25 (spc (sE (xs 1)) True) c1347 h1348) mV_X5_thrown qM_L_86 rfl h1348 rfl rfl hl9.1 (Nat.le_of_ble_eq_true rfl) ⟨⟨Nat.le_of_ble_eq_true rfl, Nat.le_of_ble_eq_true rfl⟩, Nat.le_of_ble_eq_true rfl, Nat.le_of_ble_eq_true rfl⟩ dL_law_850 (fun E ce q9 f1350 H locs hPX hw hS hce hcv hcl => ?_) (fun v f1350 H locs hP hw hS => ?_)
              · exact hPX.elim
              · obtain ⟨ev9, ef9⟩ := hP
                rw [ef9] at hw
                subst ev9
                refine W.eq (g2 := F0 m 853 ls [.int (spc (sE (xs 1)) True)]) rfl ?_
                refine lv_iload hx hb dL_law_853 (lv_at hl9 1 rfl) ?_
                refine lv_icmp_eq (tgt := 860) hx hb dL_law_855 (by decide) (fun _ => ?_) (fun c9 => absurd rfl c9)
                refine lv_iload hx hb dL_law_860 (lv_at hl9 1 rfl) ?_
                refine lv_if_ne (tgt := 877) hx hb dL_law_862 (by decide) (fun c1351 => ?_) (fun c1351 => ?_)
                · refine lv_goto (tgt := 1305) hx hb dL_law_877 (by decide) ?_
                  refine lv_iinc (v := 4) (lv' := [(4, .int 4), (6, .int r1345), (5, .int (spc (sE (xs 1)) True)), (3, .ref q54), (2, .ref q25), (1, .ref q1), (0, .ref b)]) hx hb dL_law_1305 hl9 (k := 2) rfl (by decide) (by decide) rfl (fun ls hl9 => ?_)
                  refine lv_goto (tgt := 23) hx hb dL_law_1308 (by decide) ?_
                  refine lv_iload hx hb dL_law_23 (lv_at hl9 0 rfl) ?_
                  refine lv_aload_n hx hb dL_law_25 rfl (lv_at hl9 6 rfl) ?_
                  refine va_slen hx hb hX hbl hbA hS dL_law_26 ?_
                  refine hp_c (v := 4) rfl ?_
                  refine lv_iconst (v := 4) hx hb dL_law_27 (by decide) ?_
                  refine lv_isub hx hb dL_law_28 ?_
                  refine hp_c (v := 0) (by decide) ?_
                  refine lv_icmp_gt (tgt := 1311) hx hb dL_law_29 (by decide) (fun _ => ?_) (fun c9 => absurd (by decide) c9)
                  refine lv_iconst (v := 1) hx hb dL_law_1311 (by decide) ?_
                  refine va_forget (fun q hq => hFs _ (hS.2.2 q hq)) ?_
                  refine W.widen (k := 600002) (n := 7302232) (Nat.le_of_ble_eq_true rfl) (Nat.le_of_ble_eq_true rfl) ?_
                  exact lw_ret hx hb hr hlocks dL_law_1312
                · refine lv_aload_n hx hb dL_law_865 rfl (lv_at hl9 3 rfl) ?_
                  refine lv_iconst (v := 0) hx hb dL_law_866 (by decide) ?_
                  have h1352 : f1335 q54 = some (.inl (cJ G, 1, .inr (.inl (vp_updL (fun _ => 0) (0 : Int32).toNatClampNeg ((0 : Int32).toInt64))))) := h1336 c1351
                  have h1353 : f1344 q54 = some (.inl (cJ G, 1, .inr (.inl (vp_updL (fun _ => 0) (0 : Int32).toNatClampNeg ((0 : Int32).toInt64))))) := k1349 _ _ h1352 (ninc (Ne.symm n1340) nin0)
                  refine hp_lald B0 hw h1353 (by unfold vp_in; decide) dL_law_867 ?_
                  refine lv_iload hx hb dL_law_868 (lv_at hl9 0 rfl) ?_
                  refine lv_i2l (v := (r1345 : Int32).toInt64) hx hb dL_law_870 rfl ?_
                  refine W.lcmp hx hb dL_law_871 ?_
                  refine lv_if_eq (tgt := 877) hx hb dL_law_872 (by decide) (fun _ => ?_) (fun c9 => absurd (lg_eq0 (by have h9 := h1346 c1351; subst h9; rfl)) c9)
                  refine lv_goto (tgt := 1305) hx hb dL_law_877 (by decide) ?_
                  refine lv_iinc (v := 4) (lv' := [(4, .int 4), (6, .int r1345), (5, .int (spc (sE (xs 1)) True)), (3, .ref q54), (2, .ref q25), (1, .ref q1), (0, .ref b)]) hx hb dL_law_1305 hl9 (k := 2) rfl (by decide) (by decide) rfl (fun ls hl9 => ?_)
                  refine lv_goto (tgt := 23) hx hb dL_law_1308 (by decide) ?_
                  refine lv_iload hx hb dL_law_23 (lv_at hl9 0 rfl) ?_
                  refine lv_aload_n hx hb dL_law_25 rfl (lv_at hl9 6 rfl) ?_
                  refine va_slen hx hb hX hbl hbA hS dL_law_26 ?_
                  refine hp_c (v := 4) rfl ?_
                  refine lv_iconst (v := 4) hx hb dL_law_27 (by decide) ?_
                  refine lv_isub hx hb dL_law_28 ?_
                  refine hp_c (v := 0) (by decide) ?_
                  refine lv_icmp_gt (tgt := 1311) hx hb dL_law_29 (by decide) (fun _ => ?_) (fun c9 => absurd (by decide) c9)
                  refine lv_iconst (v := 1) hx hb dL_law_1311 (by decide) ?_
                  refine va_forget (fun q hq => hFs _ (hS.2.2 q hq)) ?_
                  refine W.widen (k := 600002) (n := 7302232) (Nat.le_of_ble_eq_true rfl) (Nat.le_of_ble_eq_true rfl) ?_
                  exact lw_ret hx hb hr hlocks dL_law_1312
        · refine lv_tableIn (off := 841) (tgt := 880) hx hb dL_law_39 (by decide) (by decide) (by decide) (by decide) ?_
          refine lv_aload_n hx hb dL_law_880 rfl (lv_at hl9 3 rfl) ?_
          refine lv_aload_n hx hb dL_law_881 rfl (lv_at hl9 4 rfl) ?_
          refine lv_iload hx hb dL_law_882 (lv_at hl9 0 rfl) ?_
          refine lv_iconst (v := 1) hx hb dL_law_884 (by decide) ?_
          refine lv_iadd hx hb dL_law_885 ?_
          refine hp_c (v := 1) (by decide) ?_
          refine va_sld hx hb hX hbl hbA hS (by unfold vp_in; decide) dL_law_886 ?_
          refine hp_c (v := xs 1) rfl ?_
          refine lv_aload_n hx hb dL_law_887 rfl (lv_at hl9 1 rfl) ?_
          have h1354 : f27 q1 = some (.inr (4, [.ref ez, .ref eo, .ref bu])) := by rw [ef27, va_up_ne _ _ (hnew h6 w26)]; exact h6
          have n1356 : q1 ≠ q25 := hnew h6 w26
          have h1355 : f29 q1 = some (.inr (4, [.ref ez, .ref eo, .ref bu])) := k53 _ _ h1354 (ninc n1356 nin0)
          have h1357 : f56 q1 = some (.inr (4, [.ref ez, .ref eo, .ref bu])) := by rw [ef56, va_up_ne _ _ (hnew h1355 w55)]; exact h1355
          have h1358 : f27 ez = some (.inr (1, [.ref nw0, .ref na0, .ref nq0, .ref nr0, .int 1, .int 0, .int 0, .int 0, .int (-1), .int 0, .int 0])) := by rw [ef27, va_up_ne _ _ (hnew h7 w26)]; exact h7
          have n1360 : ez ≠ q25 := hnew h7 w26
          have h1359 : f29 ez = some (.inr (1, [.ref nw0, .ref na0, .ref nq0, .ref nr0, .int 1, .int 0, .int 0, .int 0, .int (-1), .int 0, .int 0])) := k53 _ _ h1358 (ninc n1360 nin0)
          have h1361 : f56 ez = some (.inr (1, [.ref nw0, .ref na0, .ref nq0, .ref nr0, .int 1, .int 0, .int 0, .int 0, .int (-1), .int 0, .int 0])) := by rw [ef56, va_up_ne _ _ (hnew h1359 w55)]; exact h1359
          have h1362 : f27 nw0 = some (.inl (cI G, 6, .inl (fun j => if j < 6 then (-1) else (fun _ => 0) j))) := by rw [ef27, va_up_ne _ _ (hnew h8 w26)]; exact h8
          have n1364 : nw0 ≠ q25 := hnew h8 w26
          have h1363 : f29 nw0 = some (.inl (cI G, 6, .inl (fun j => if j < 6 then (-1) else (fun _ => 0) j))) := k53 _ _ h1362 (ninc n1364 nin0)
          have h1365 : f56 nw0 = some (.inl (cI G, 6, .inl (fun j => if j < 6 then (-1) else (fun _ => 0) j))) := by rw [ef56, va_up_ne _ _ (hnew h1363 w55)]; exact h1363
          have h1366 : f27 na0 = some (.inl (cI G, 6, .inl (fun _ => 0))) := by rw [ef27, va_up_ne _ _ (hnew h9 w26)]; exact h9
          have n1368 : na0 ≠ q25 := hnew h9 w26
          have h1367 : f29 na0 = some (.inl (cI G, 6, .inl (fun _ => 0))) := k53 _ _ h1366 (ninc n1368 nin0)
          have h1369 : f56 na0 = some (.inl (cI G, 6, .inl (fun _ => 0))) := by rw [ef56, va_up_ne _ _ (hnew h1367 w55)]; exact h1367
          have h1370 : f27 nq0 = some (.inl (cI G, 6, .inl (fun j => if j < 6 then (-1) else (fun _ => 0) j))) := by rw [ef27, va_up_ne _ _ (hnew h10 w26)]; exact h10
          have n1372 : nq0 ≠ q25 := hnew h10 w26
          have h1371 : f29 nq0 = some (.inl (cI G, 6, .inl (fun j => if j < 6 then (-1) else (fun _ => 0) j))) := k53 _ _ h1370 (ninc n1372 nin0)
          have h1373 : f56 nq0 = some (.inl (cI G, 6, .inl (fun j => if j < 6 then (-1) else (fun _ => 0) j))) := by rw [ef56, va_up_ne _ _ (hnew h1371 w55)]; exact h1371
          have h1374 : f27 nr0 = some (.inr (3, [.null, .null, .int 0])) := by rw [ef27, va_up_ne _ _ (hnew h11 w26)]; exact h11
          have n1376 : nr0 ≠ q25 := hnew h11 w26
          have h1375 : f29 nr0 = some (.inr (3, [.null, .null, .int 0])) := k53 _ _ h1374 (ninc n1376 nin0)
          have h1377 : f56 nr0 = some (.inr (3, [.null, .null, .int 0])) := by rw [ef56, va_up_ne _ _ (hnew h1375 w55)]; exact h1375
          have h1378 : f27 eo = some (.inr (1, [.ref nw1, .ref na1, .ref nq1, .ref nr1, .int 2, .int 0, .int 0, .int 0, .int (-1), .int 0, .int 0])) := by rw [ef27, va_up_ne _ _ (hnew h12 w26)]; exact h12
          have n1380 : eo ≠ q25 := hnew h12 w26
          have h1379 : f29 eo = some (.inr (1, [.ref nw1, .ref na1, .ref nq1, .ref nr1, .int 2, .int 0, .int 0, .int 0, .int (-1), .int 0, .int 0])) := k53 _ _ h1378 (ninc n1380 nin0)
          have h1381 : f56 eo = some (.inr (1, [.ref nw1, .ref na1, .ref nq1, .ref nr1, .int 2, .int 0, .int 0, .int 0, .int (-1), .int 0, .int 0])) := by rw [ef56, va_up_ne _ _ (hnew h1379 w55)]; exact h1379
          have h1382 : f27 nw1 = some (.inl (cI G, 6, .inl (fun j => if j < 6 then (-1) else (fun _ => 0) j))) := by rw [ef27, va_up_ne _ _ (hnew h13 w26)]; exact h13
          have n1384 : nw1 ≠ q25 := hnew h13 w26
          have h1383 : f29 nw1 = some (.inl (cI G, 6, .inl (fun j => if j < 6 then (-1) else (fun _ => 0) j))) := k53 _ _ h1382 (ninc n1384 nin0)
          have h1385 : f56 nw1 = some (.inl (cI G, 6, .inl (fun j => if j < 6 then (-1) else (fun _ => 0) j))) := by rw [ef56, va_up_ne _ _ (hnew h1383 w55)]; exact h1383
          have h1386 : f27 na1 = some (.inl (cI G, 6, .inl (fun _ => 0))) := by rw [ef27, va_up_ne _ _ (hnew h14 w26)]; exact h14
          have n1388 : na1 ≠ q25 := hnew h14 w26
          have h1387 : f29 na1 = some (.inl (cI G, 6, .inl (fun _ => 0))) := k53 _ _ h1386 (ninc n1388 nin0)
          have h1389 : f56 na1 = some (.inl (cI G, 6, .inl (fun _ => 0))) := by rw [ef56, va_up_ne _ _ (hnew h1387 w55)]; exact h1387
          have h1390 : f27 nq1 = some (.inl (cI G, 6, .inl (fun j => if j < 6 then (-1) else (fun _ => 0) j))) := by rw [ef27, va_up_ne _ _ (hnew h15 w26)]; exact h15
          have n1392 : nq1 ≠ q25 := hnew h15 w26
          have h1391 : f29 nq1 = some (.inl (cI G, 6, .inl (fun j => if j < 6 then (-1) else (fun _ => 0) j))) := k53 _ _ h1390 (ninc n1392 nin0)
          have h1393 : f56 nq1 = some (.inl (cI G, 6, .inl (fun j => if j < 6 then (-1) else (fun _ => 0) j))) := by rw [ef56, va_up_ne _ _ (hnew h1391 w55)]; exact h1391
          have h1394 : f27 nr1 = some (.inr (3, [.null, .null, .int 0])) := by rw [ef27, va_up_ne _ _ (hnew h16 w26)]; exact h16
          have n1396 : nr1 ≠ q25 := hnew h16 w26
          have h1395 : f29 nr1 = some (.inr (3, [.null, .null, .int 0])) := k53 _ _ h1394 (ninc n1396 nin0)
          have h1397 : f56 nr1 = some (.inr (3, [.null, .null, .int 0])) := by rw [ef56, va_up_ne _ _ (hnew h1395 w55)]; exact h1395
          have h1398 : f27 bu = some (.inr (0, [.ref bs, .ref bp, .ref bh, .ref bf, .ref bl, .ref bg, .int 0, .int 0, .int 0])) := by rw [ef27, va_up_ne _ _ (hnew h17 w26)]; exact h17
          have n1400 : bu ≠ q25 := hnew h17 w26
          have h1399 : f29 bu = some (.inr (0, [.ref bs, .ref bp, .ref bh, .ref bf, .ref bl, .ref bg, .int 0, .int 0, .int 0])) := k53 _ _ h1398 (ninc n1400 nin0)
          have h1401 : f56 bu = some (.inr (0, [.ref bs, .ref bp, .ref bh, .ref bf, .ref bl, .ref bg, .int 0, .int 0, .int 0])) := by rw [ef56, va_up_ne _ _ (hnew h1399 w55)]; exact h1399
          have h1402 : f27 bs = some (.inl (cI G, 61, .inl (fun _ => 0))) := by rw [ef27, va_up_ne _ _ (hnew h18 w26)]; exact h18
          have n1404 : bs ≠ q25 := hnew h18 w26
          have h1403 : f29 bs = some (.inl (cI G, 61, .inl (fun _ => 0))) := k53 _ _ h1402 (ninc n1404 nin0)
          have h1405 : f56 bs = some (.inl (cI G, 61, .inl (fun _ => 0))) := by rw [ef56, va_up_ne _ _ (hnew h1403 w55)]; exact h1403
          have h1406 : f27 bp = some (.inl (cI G, 240, .inl (fun _ => 0))) := by rw [ef27, va_up_ne _ _ (hnew h19 w26)]; exact h19
          have n1408 : bp ≠ q25 := hnew h19 w26
          have h1407 : f29 bp = some (.inl (cI G, 240, .inl (fun _ => 0))) := k53 _ _ h1406 (ninc n1408 nin0)
          have h1409 : f56 bp = some (.inl (cI G, 240, .inl (fun _ => 0))) := by rw [ef56, va_up_ne _ _ (hnew h1407 w55)]; exact h1407
          have h1410 : f27 bh = some (.inl (cZ G, 240, .inl (fun _ => 0))) := by rw [ef27, va_up_ne _ _ (hnew h20 w26)]; exact h20
          have n1412 : bh ≠ q25 := hnew h20 w26
          have h1411 : f29 bh = some (.inl (cZ G, 240, .inl (fun _ => 0))) := k53 _ _ h1410 (ninc n1412 nin0)
          have h1413 : f56 bh = some (.inl (cZ G, 240, .inl (fun _ => 0))) := by rw [ef56, va_up_ne _ _ (hnew h1411 w55)]; exact h1411
          have h1414 : f27 bf = some (.inl (cI G, 3, .inl (upd (upd (upd (fun _ => 0) (0 : Int32).toNatClampNeg 0) (1 : Int32).toNatClampNeg 1) (2 : Int32).toNatClampNeg 2))) := by rw [ef27, va_up_ne _ _ (hnew h21 w26)]; exact h21
          have n1416 : bf ≠ q25 := hnew h21 w26
          have h1415 : f29 bf = some (.inl (cI G, 3, .inl (upd (upd (upd (fun _ => 0) (0 : Int32).toNatClampNeg 0) (1 : Int32).toNatClampNeg 1) (2 : Int32).toNatClampNeg 2))) := k53 _ _ h1414 (ninc n1416 nin0)
          have h1417 : f56 bf = some (.inl (cI G, 3, .inl (upd (upd (upd (fun _ => 0) (0 : Int32).toNatClampNeg 0) (1 : Int32).toNatClampNeg 1) (2 : Int32).toNatClampNeg 2))) := by rw [ef56, va_up_ne _ _ (hnew h1415 w55)]; exact h1415
          have h1418 : f27 bl = some (.inl (cI G, 3, .inl (fun j => if j < 3 then (-1) else (fun _ => 0) j))) := by rw [ef27, va_up_ne _ _ (hnew h22 w26)]; exact h22
          have n1420 : bl ≠ q25 := hnew h22 w26
          have h1419 : f29 bl = some (.inl (cI G, 3, .inl (fun j => if j < 3 then (-1) else (fun _ => 0) j))) := k53 _ _ h1418 (ninc n1420 nin0)
          have h1421 : f56 bl = some (.inl (cI G, 3, .inl (fun j => if j < 3 then (-1) else (fun _ => 0) j))) := by rw [ef56, va_up_ne _ _ (hnew h1419 w55)]; exact h1419
          have h1422 : f27 bg = some (.inl (cI G, 60, .inl (fun _ => 0))) := by rw [ef27, va_up_ne _ _ (hnew h23 w26)]; exact h23
          have n1424 : bg ≠ q25 := hnew h23 w26
          have h1423 : f29 bg = some (.inl (cI G, 60, .inl (fun _ => 0))) := k53 _ _ h1422 (ninc n1424 nin0)
          have h1425 : f56 bg = some (.inl (cI G, 60, .inl (fun _ => 0))) := by rw [ef56, va_up_ne _ _ (hnew h1423 w55)]; exact h1423
          have n1426 : bp ≠ q54 := hnew h1407 w55
          have n1427 : bs ≠ q54 := hnew h1403 w55
          have n1428 : nq1 ≠ q54 := hnew h1391 w55
          have n1429 : nq0 ≠ q54 := hnew h1371 w55
          have n1430 : na1 ≠ q54 := hnew h1387 w55
          have n1431 : na0 ≠ q54 := hnew h1367 w55
          have n1432 : nw1 ≠ q54 := hnew h1383 w55
          have n1433 : nw0 ≠ q54 := hnew h1363 w55
          refine hp_SH (As := [.ref q1, .int (xs 1), .ref q54]) (rest := []) B0 hw hS (c_L_isLooped hl G f56 q1 ez eo bu nw0 na0 nq0 nr0 nw1 na1 nq1 nr1 bs bp bh bf bl bg q54 ⟨h1357, h1361, h1365, h1369, h1373, h1377, h1381, h1385, h1389, h1393, h1397, h1401, h1405, h1409, h1413, h1417, h1421, h1425, n_wq0, n_wq1, n_sp⟩ (ninc (Ne.symm n1433) (ninc (Ne.symm n1432) (ninc (Ne.symm n1431) (ninc (Ne.symm n1430) (ninc (Ne.symm n1429) (ninc (Ne.symm n1428) (ninc (Ne.symm n1427) (ninc (Ne.symm n1426) nin0)))))))) h57 (xs 1)) mH_L_isLooped qM_L_125 rfl rfl hl9.1 (Nat.le_of_ble_eq_true rfl) ⟨⟨Nat.le_of_ble_eq_true rfl, Nat.le_of_ble_eq_true rfl⟩, Nat.le_of_ble_eq_true rfl, Nat.le_of_ble_eq_true rfl⟩ dL_law_888 (fun E ce q9 f1434 H locs hPX hw hS hce hcv hcl => ?_) (fun v f1434 H locs hP hw hS => ?_)
          · exact hPX.elim
          · obtain ⟨ev9, h1435, k1436⟩ := hP
            subst ev9
            refine W.eq (g2 := F0 m 891 ls [.int (spc (sE (xs 1)) True)]) rfl ?_
            refine lv_istore (lv' := [(5, .int (spc (sE (xs 1)) True)), (4, .int 0), (3, .ref q54), (2, .ref q25), (1, .ref q1), (0, .ref b)]) hx hb dL_law_891 hl9 (by decide) rfl (fun ls hl9 => ?_)
            refine lv_aload_n hx hb dL_law_893 rfl (lv_at hl9 3 rfl) ?_
            refine lv_aload_n hx hb dL_law_894 rfl (lv_at hl9 5 rfl) ?_
            refine lv_iload hx hb dL_law_895 (lv_at hl9 1 rfl) ?_
            refine lv_iconst (v := 1) hx hb dL_law_897 (by decide) ?_
            refine lv_iadd hx hb dL_law_898 ?_
            refine hp_c (v := 1) (by decide) ?_
            refine va_sld hx hb hX hbl hbA hS (by unfold vp_in; decide) dL_law_899 ?_
            refine hp_c (v := xs 1) rfl ?_
            have h1437 : f56 q25 = some (.inr (5, [.int 0, .ref dW, .ref dA, .ref dQ, .ref dM, .ref dS, .ref dL, .ref dR, .ref dT, .ref dZ, .ref dI, .ref dH, .ref dN, .ref dK, .ref dJ, .ref dU, .ref dO, .int 0, .int 0, .ref dF, .ref dP, .ref dE, .ref dX, .ref dY, .int 0, .int 0, .ref dG])) := by rw [ef56, va_up_ne _ _ (hnew h30 w55)]; exact h30
            have n1439 : q25 ≠ q54 := hnew h30 w55
            have h1438 : f1434 q25 = some (.inr (5, [.int 0, .ref dW, .ref dA, .ref dQ, .ref dM, .ref dS, .ref dL, .ref dR, .ref dT, .ref dZ, .ref dI, .ref dH, .ref dN, .ref dK, .ref dJ, .ref dU, .ref dO, .int 0, .int 0, .ref dF, .ref dP, .ref dE, .ref dX, .ref dY, .int 0, .int 0, .ref dG])) := k1436 _ _ h1437 (ninc n1439 nin0)
            have h1440 : f56 dZ = some (.inl (cZ G, 2, .inl (fun _ => 0))) := by rw [ef56, va_up_ne _ _ (hnew h39 w55)]; exact h39
            have n1442 : dZ ≠ q54 := hnew h39 w55
            have h1441 : f1434 dZ = some (.inl (cZ G, 2, .inl (fun _ => 0))) := k1436 _ _ h1440 (ninc n1442 nin0)
            refine hp_V (ci := 5) (As := [.int (xs 1)]) (rest := []) B0 hw hS (c_X5_isLooped0 hl G f1434 q25 dW dA dQ dM dS dL dR dT dZ dI dH dN dK dJ dU dO dF dP dE dX dY dG 0 h1438 h1441  (xs 1)) mV_X5_isLooped qM_L_127 rfl h1438 rfl rfl hl9.1 (Nat.le_of_ble_eq_true rfl) ⟨⟨Nat.le_of_ble_eq_true rfl, Nat.le_of_ble_eq_true rfl⟩, Nat.le_of_ble_eq_true rfl, Nat.le_of_ble_eq_true rfl⟩ dL_law_900 (fun E ce q9 f1443 H locs hPX hw hS hce hcv hcl => ?_) (fun v f1443 H locs hP hw hS => ?_)
            · exact hPX.elim
            · obtain ⟨⟨r1444, ev9, h1445⟩, ⟨c1446, h1447⟩, k1448⟩ := hP
              subst ev9
              refine W.eq (g2 := F0 m 903 ls [.int r1444]) rfl ?_
              refine lv_istore (lv' := [(6, .int r1444), (5, .int (spc (sE (xs 1)) True)), (4, .int 0), (3, .ref q54), (2, .ref q25), (1, .ref q1), (0, .ref b)]) hx hb dL_law_903 hl9 (by decide) rfl (fun ls hl9 => ?_)
              refine lv_aload_n hx hb dL_law_905 rfl (lv_at hl9 4 rfl) ?_
              refine hp_V (ci := 5) (As := []) (rest := []) B0 hw hS (c_X5_thrown hl G f1443 q25 (spc (sE (xs 1)) True) c1446 h1447) mV_X5_thrown qM_L_86 rfl h1447 rfl rfl hl9.1 (Nat.le_of_ble_eq_true rfl) ⟨⟨Nat.le_of_ble_eq_true rfl, Nat.le_of_ble_eq_true rfl⟩, Nat.le_of_ble_eq_true rfl, Nat.le_of_ble_eq_true rfl⟩ dL_law_906 (fun E ce q9 f1449 H locs hPX hw hS hce hcv hcl => ?_) (fun v f1449 H locs hP hw hS => ?_)
              · exact hPX.elim
              · obtain ⟨ev9, ef9⟩ := hP
                rw [ef9] at hw
                subst ev9
                refine W.eq (g2 := F0 m 909 ls [.int (spc (sE (xs 1)) True)]) rfl ?_
                refine lv_iload hx hb dL_law_909 (lv_at hl9 1 rfl) ?_
                refine lv_icmp_eq (tgt := 916) hx hb dL_law_911 (by decide) (fun _ => ?_) (fun c9 => absurd rfl c9)
                refine lv_iload hx hb dL_law_916 (lv_at hl9 1 rfl) ?_
                refine lv_if_ne (tgt := 940) hx hb dL_law_918 (by decide) (fun c1450 => ?_) (fun c1450 => ?_)
                · refine lv_goto (tgt := 1305) hx hb dL_law_940 (by decide) ?_
                  refine lv_iinc (v := 4) (lv' := [(4, .int 4), (6, .int r1444), (5, .int (spc (sE (xs 1)) True)), (3, .ref q54), (2, .ref q25), (1, .ref q1), (0, .ref b)]) hx hb dL_law_1305 hl9 (k := 2) rfl (by decide) (by decide) rfl (fun ls hl9 => ?_)
                  refine lv_goto (tgt := 23) hx hb dL_law_1308 (by decide) ?_
                  refine lv_iload hx hb dL_law_23 (lv_at hl9 0 rfl) ?_
                  refine lv_aload_n hx hb dL_law_25 rfl (lv_at hl9 6 rfl) ?_
                  refine va_slen hx hb hX hbl hbA hS dL_law_26 ?_
                  refine hp_c (v := 4) rfl ?_
                  refine lv_iconst (v := 4) hx hb dL_law_27 (by decide) ?_
                  refine lv_isub hx hb dL_law_28 ?_
                  refine hp_c (v := 0) (by decide) ?_
                  refine lv_icmp_gt (tgt := 1311) hx hb dL_law_29 (by decide) (fun _ => ?_) (fun c9 => absurd (by decide) c9)
                  refine lv_iconst (v := 1) hx hb dL_law_1311 (by decide) ?_
                  refine va_forget (fun q hq => hFs _ (hS.2.2 q hq)) ?_
                  refine W.widen (k := 600002) (n := 7302232) (Nat.le_of_ble_eq_true rfl) (Nat.le_of_ble_eq_true rfl) ?_
                  exact lw_ret hx hb hr hlocks dL_law_1312
                · refine lv_aload_n hx hb dL_law_921 rfl (lv_at hl9 3 rfl) ?_
                  refine lv_iconst (v := 0) hx hb dL_law_922 (by decide) ?_
                  have h1451 : f1434 q54 = some (.inl (cJ G, 1, .inr (.inl (vp_updL (fun _ => 0) (0 : Int32).toNatClampNeg 0)))) := h1435 c1450
                  have h1452 : f1443 q54 = some (.inl (cJ G, 1, .inr (.inl (vp_updL (fun _ => 0) (0 : Int32).toNatClampNeg 0)))) := k1448 _ _ h1451 (ninc (Ne.symm n1439) nin0)
                  refine hp_lald B0 hw h1452 (by unfold vp_in; decide) dL_law_923 ?_
                  refine lv_iload hx hb dL_law_924 (lv_at hl9 0 rfl) ?_
                  refine lv_if_eq (tgt := 933) hx hb dL_law_926 (by decide) (fun _ => ?_) (fun c9 => absurd (h1445 c1450) c9)
                  refine lv_lconst (v := 0) hx hb dL_law_933 (by decide) ?_
                  refine W.lcmp hx hb dL_law_934 ?_
                  refine lv_if_eq (tgt := 940) hx hb dL_law_935 (by decide) (fun _ => ?_) (fun c9 => absurd (lg_eq0 rfl) c9)
                  refine lv_goto (tgt := 1305) hx hb dL_law_940 (by decide) ?_
                  refine lv_iinc (v := 4) (lv' := [(4, .int 4), (6, .int r1444), (5, .int (spc (sE (xs 1)) True)), (3, .ref q54), (2, .ref q25), (1, .ref q1), (0, .ref b)]) hx hb dL_law_1305 hl9 (k := 2) rfl (by decide) (by decide) rfl (fun ls hl9 => ?_)
                  refine lv_goto (tgt := 23) hx hb dL_law_1308 (by decide) ?_
                  refine lv_iload hx hb dL_law_23 (lv_at hl9 0 rfl) ?_
                  refine lv_aload_n hx hb dL_law_25 rfl (lv_at hl9 6 rfl) ?_
                  refine va_slen hx hb hX hbl hbA hS dL_law_26 ?_
                  refine hp_c (v := 4) rfl ?_
                  refine lv_iconst (v := 4) hx hb dL_law_27 (by decide) ?_
                  refine lv_isub hx hb dL_law_28 ?_
                  refine hp_c (v := 0) (by decide) ?_
                  refine lv_icmp_gt (tgt := 1311) hx hb dL_law_29 (by decide) (fun _ => ?_) (fun c9 => absurd (by decide) c9)
                  refine lv_iconst (v := 1) hx hb dL_law_1311 (by decide) ?_
                  refine va_forget (fun q hq => hFs _ (hS.2.2 q hq)) ?_
                  refine W.widen (k := 600002) (n := 7302232) (Nat.le_of_ble_eq_true rfl) (Nat.le_of_ble_eq_true rfl) ?_
                  exact lw_ret hx hb hr hlocks dL_law_1312
        · refine lv_tableIn (off := 904) (tgt := 943) hx hb dL_law_39 (by decide) (by decide) (by decide) (by decide) ?_
          refine lv_aload_n hx hb dL_law_943 rfl (lv_at hl9 3 rfl) ?_
          refine lv_aload_n hx hb dL_law_944 rfl (lv_at hl9 4 rfl) ?_
          refine lv_iload hx hb dL_law_945 (lv_at hl9 0 rfl) ?_
          refine lv_iconst (v := 1) hx hb dL_law_947 (by decide) ?_
          refine lv_iadd hx hb dL_law_948 ?_
          refine hp_c (v := 1) (by decide) ?_
          refine va_sld hx hb hX hbl hbA hS (by unfold vp_in; decide) dL_law_949 ?_
          refine hp_c (v := xs 1) rfl ?_
          refine lv_aload_n hx hb dL_law_950 rfl (lv_at hl9 1 rfl) ?_
          have h1453 : f27 q1 = some (.inr (4, [.ref ez, .ref eo, .ref bu])) := by rw [ef27, va_up_ne _ _ (hnew h6 w26)]; exact h6
          have n1455 : q1 ≠ q25 := hnew h6 w26
          have h1454 : f29 q1 = some (.inr (4, [.ref ez, .ref eo, .ref bu])) := k53 _ _ h1453 (ninc n1455 nin0)
          have h1456 : f56 q1 = some (.inr (4, [.ref ez, .ref eo, .ref bu])) := by rw [ef56, va_up_ne _ _ (hnew h1454 w55)]; exact h1454
          have h1457 : f27 ez = some (.inr (1, [.ref nw0, .ref na0, .ref nq0, .ref nr0, .int 1, .int 0, .int 0, .int 0, .int (-1), .int 0, .int 0])) := by rw [ef27, va_up_ne _ _ (hnew h7 w26)]; exact h7
          have n1459 : ez ≠ q25 := hnew h7 w26
          have h1458 : f29 ez = some (.inr (1, [.ref nw0, .ref na0, .ref nq0, .ref nr0, .int 1, .int 0, .int 0, .int 0, .int (-1), .int 0, .int 0])) := k53 _ _ h1457 (ninc n1459 nin0)
          have h1460 : f56 ez = some (.inr (1, [.ref nw0, .ref na0, .ref nq0, .ref nr0, .int 1, .int 0, .int 0, .int 0, .int (-1), .int 0, .int 0])) := by rw [ef56, va_up_ne _ _ (hnew h1458 w55)]; exact h1458
          have h1461 : f27 nw0 = some (.inl (cI G, 6, .inl (fun j => if j < 6 then (-1) else (fun _ => 0) j))) := by rw [ef27, va_up_ne _ _ (hnew h8 w26)]; exact h8
          have n1463 : nw0 ≠ q25 := hnew h8 w26
          have h1462 : f29 nw0 = some (.inl (cI G, 6, .inl (fun j => if j < 6 then (-1) else (fun _ => 0) j))) := k53 _ _ h1461 (ninc n1463 nin0)
          have h1464 : f56 nw0 = some (.inl (cI G, 6, .inl (fun j => if j < 6 then (-1) else (fun _ => 0) j))) := by rw [ef56, va_up_ne _ _ (hnew h1462 w55)]; exact h1462
          have h1465 : f27 na0 = some (.inl (cI G, 6, .inl (fun _ => 0))) := by rw [ef27, va_up_ne _ _ (hnew h9 w26)]; exact h9
          have n1467 : na0 ≠ q25 := hnew h9 w26
          have h1466 : f29 na0 = some (.inl (cI G, 6, .inl (fun _ => 0))) := k53 _ _ h1465 (ninc n1467 nin0)
          have h1468 : f56 na0 = some (.inl (cI G, 6, .inl (fun _ => 0))) := by rw [ef56, va_up_ne _ _ (hnew h1466 w55)]; exact h1466
          have h1469 : f27 nq0 = some (.inl (cI G, 6, .inl (fun j => if j < 6 then (-1) else (fun _ => 0) j))) := by rw [ef27, va_up_ne _ _ (hnew h10 w26)]; exact h10
          have n1471 : nq0 ≠ q25 := hnew h10 w26
          have h1470 : f29 nq0 = some (.inl (cI G, 6, .inl (fun j => if j < 6 then (-1) else (fun _ => 0) j))) := k53 _ _ h1469 (ninc n1471 nin0)
          have h1472 : f56 nq0 = some (.inl (cI G, 6, .inl (fun j => if j < 6 then (-1) else (fun _ => 0) j))) := by rw [ef56, va_up_ne _ _ (hnew h1470 w55)]; exact h1470
          have h1473 : f27 nr0 = some (.inr (3, [.null, .null, .int 0])) := by rw [ef27, va_up_ne _ _ (hnew h11 w26)]; exact h11
          have n1475 : nr0 ≠ q25 := hnew h11 w26
          have h1474 : f29 nr0 = some (.inr (3, [.null, .null, .int 0])) := k53 _ _ h1473 (ninc n1475 nin0)
          have h1476 : f56 nr0 = some (.inr (3, [.null, .null, .int 0])) := by rw [ef56, va_up_ne _ _ (hnew h1474 w55)]; exact h1474
          have h1477 : f27 eo = some (.inr (1, [.ref nw1, .ref na1, .ref nq1, .ref nr1, .int 2, .int 0, .int 0, .int 0, .int (-1), .int 0, .int 0])) := by rw [ef27, va_up_ne _ _ (hnew h12 w26)]; exact h12
          have n1479 : eo ≠ q25 := hnew h12 w26
          have h1478 : f29 eo = some (.inr (1, [.ref nw1, .ref na1, .ref nq1, .ref nr1, .int 2, .int 0, .int 0, .int 0, .int (-1), .int 0, .int 0])) := k53 _ _ h1477 (ninc n1479 nin0)
          have h1480 : f56 eo = some (.inr (1, [.ref nw1, .ref na1, .ref nq1, .ref nr1, .int 2, .int 0, .int 0, .int 0, .int (-1), .int 0, .int 0])) := by rw [ef56, va_up_ne _ _ (hnew h1478 w55)]; exact h1478
          have h1481 : f27 nw1 = some (.inl (cI G, 6, .inl (fun j => if j < 6 then (-1) else (fun _ => 0) j))) := by rw [ef27, va_up_ne _ _ (hnew h13 w26)]; exact h13
          have n1483 : nw1 ≠ q25 := hnew h13 w26
          have h1482 : f29 nw1 = some (.inl (cI G, 6, .inl (fun j => if j < 6 then (-1) else (fun _ => 0) j))) := k53 _ _ h1481 (ninc n1483 nin0)
          have h1484 : f56 nw1 = some (.inl (cI G, 6, .inl (fun j => if j < 6 then (-1) else (fun _ => 0) j))) := by rw [ef56, va_up_ne _ _ (hnew h1482 w55)]; exact h1482
          have h1485 : f27 na1 = some (.inl (cI G, 6, .inl (fun _ => 0))) := by rw [ef27, va_up_ne _ _ (hnew h14 w26)]; exact h14
          have n1487 : na1 ≠ q25 := hnew h14 w26
          have h1486 : f29 na1 = some (.inl (cI G, 6, .inl (fun _ => 0))) := k53 _ _ h1485 (ninc n1487 nin0)
          have h1488 : f56 na1 = some (.inl (cI G, 6, .inl (fun _ => 0))) := by rw [ef56, va_up_ne _ _ (hnew h1486 w55)]; exact h1486
          have h1489 : f27 nq1 = some (.inl (cI G, 6, .inl (fun j => if j < 6 then (-1) else (fun _ => 0) j))) := by rw [ef27, va_up_ne _ _ (hnew h15 w26)]; exact h15
          have n1491 : nq1 ≠ q25 := hnew h15 w26
          have h1490 : f29 nq1 = some (.inl (cI G, 6, .inl (fun j => if j < 6 then (-1) else (fun _ => 0) j))) := k53 _ _ h1489 (ninc n1491 nin0)
          have h1492 : f56 nq1 = some (.inl (cI G, 6, .inl (fun j => if j < 6 then (-1) else (fun _ => 0) j))) := by rw [ef56, va_up_ne _ _ (hnew h1490 w55)]; exact h1490
          have h1493 : f27 nr1 = some (.inr (3, [.null, .null, .int 0])) := by rw [ef27, va_up_ne _ _ (hnew h16 w26)]; exact h16
          have n1495 : nr1 ≠ q25 := hnew h16 w26
          have h1494 : f29 nr1 = some (.inr (3, [.null, .null, .int 0])) := k53 _ _ h1493 (ninc n1495 nin0)
          have h1496 : f56 nr1 = some (.inr (3, [.null, .null, .int 0])) := by rw [ef56, va_up_ne _ _ (hnew h1494 w55)]; exact h1494
          have h1497 : f27 bu = some (.inr (0, [.ref bs, .ref bp, .ref bh, .ref bf, .ref bl, .ref bg, .int 0, .int 0, .int 0])) := by rw [ef27, va_up_ne _ _ (hnew h17 w26)]; exact h17
          have n1499 : bu ≠ q25 := hnew h17 w26
          have h1498 : f29 bu = some (.inr (0, [.ref bs, .ref bp, .ref bh, .ref bf, .ref bl, .ref bg, .int 0, .int 0, .int 0])) := k53 _ _ h1497 (ninc n1499 nin0)
          have h1500 : f56 bu = some (.inr (0, [.ref bs, .ref bp, .ref bh, .ref bf, .ref bl, .ref bg, .int 0, .int 0, .int 0])) := by rw [ef56, va_up_ne _ _ (hnew h1498 w55)]; exact h1498
          have h1501 : f27 bs = some (.inl (cI G, 61, .inl (fun _ => 0))) := by rw [ef27, va_up_ne _ _ (hnew h18 w26)]; exact h18
          have n1503 : bs ≠ q25 := hnew h18 w26
          have h1502 : f29 bs = some (.inl (cI G, 61, .inl (fun _ => 0))) := k53 _ _ h1501 (ninc n1503 nin0)
          have h1504 : f56 bs = some (.inl (cI G, 61, .inl (fun _ => 0))) := by rw [ef56, va_up_ne _ _ (hnew h1502 w55)]; exact h1502
          have h1505 : f27 bp = some (.inl (cI G, 240, .inl (fun _ => 0))) := by rw [ef27, va_up_ne _ _ (hnew h19 w26)]; exact h19
          have n1507 : bp ≠ q25 := hnew h19 w26
          have h1506 : f29 bp = some (.inl (cI G, 240, .inl (fun _ => 0))) := k53 _ _ h1505 (ninc n1507 nin0)
          have h1508 : f56 bp = some (.inl (cI G, 240, .inl (fun _ => 0))) := by rw [ef56, va_up_ne _ _ (hnew h1506 w55)]; exact h1506
          have h1509 : f27 bh = some (.inl (cZ G, 240, .inl (fun _ => 0))) := by rw [ef27, va_up_ne _ _ (hnew h20 w26)]; exact h20
          have n1511 : bh ≠ q25 := hnew h20 w26
          have h1510 : f29 bh = some (.inl (cZ G, 240, .inl (fun _ => 0))) := k53 _ _ h1509 (ninc n1511 nin0)
          have h1512 : f56 bh = some (.inl (cZ G, 240, .inl (fun _ => 0))) := by rw [ef56, va_up_ne _ _ (hnew h1510 w55)]; exact h1510
          have h1513 : f27 bf = some (.inl (cI G, 3, .inl (upd (upd (upd (fun _ => 0) (0 : Int32).toNatClampNeg 0) (1 : Int32).toNatClampNeg 1) (2 : Int32).toNatClampNeg 2))) := by rw [ef27, va_up_ne _ _ (hnew h21 w26)]; exact h21
          have n1515 : bf ≠ q25 := hnew h21 w26
          have h1514 : f29 bf = some (.inl (cI G, 3, .inl (upd (upd (upd (fun _ => 0) (0 : Int32).toNatClampNeg 0) (1 : Int32).toNatClampNeg 1) (2 : Int32).toNatClampNeg 2))) := k53 _ _ h1513 (ninc n1515 nin0)
          have h1516 : f56 bf = some (.inl (cI G, 3, .inl (upd (upd (upd (fun _ => 0) (0 : Int32).toNatClampNeg 0) (1 : Int32).toNatClampNeg 1) (2 : Int32).toNatClampNeg 2))) := by rw [ef56, va_up_ne _ _ (hnew h1514 w55)]; exact h1514
          have h1517 : f27 bl = some (.inl (cI G, 3, .inl (fun j => if j < 3 then (-1) else (fun _ => 0) j))) := by rw [ef27, va_up_ne _ _ (hnew h22 w26)]; exact h22
          have n1519 : bl ≠ q25 := hnew h22 w26
          have h1518 : f29 bl = some (.inl (cI G, 3, .inl (fun j => if j < 3 then (-1) else (fun _ => 0) j))) := k53 _ _ h1517 (ninc n1519 nin0)
          have h1520 : f56 bl = some (.inl (cI G, 3, .inl (fun j => if j < 3 then (-1) else (fun _ => 0) j))) := by rw [ef56, va_up_ne _ _ (hnew h1518 w55)]; exact h1518
          have h1521 : f27 bg = some (.inl (cI G, 60, .inl (fun _ => 0))) := by rw [ef27, va_up_ne _ _ (hnew h23 w26)]; exact h23
          have n1523 : bg ≠ q25 := hnew h23 w26
          have h1522 : f29 bg = some (.inl (cI G, 60, .inl (fun _ => 0))) := k53 _ _ h1521 (ninc n1523 nin0)
          have h1524 : f56 bg = some (.inl (cI G, 60, .inl (fun _ => 0))) := by rw [ef56, va_up_ne _ _ (hnew h1522 w55)]; exact h1522
          have n1525 : bp ≠ q54 := hnew h1506 w55
          have n1526 : bs ≠ q54 := hnew h1502 w55
          have n1527 : nq1 ≠ q54 := hnew h1490 w55
          have n1528 : nq0 ≠ q54 := hnew h1470 w55
          have n1529 : na1 ≠ q54 := hnew h1486 w55
          have n1530 : na0 ≠ q54 := hnew h1466 w55
          have n1531 : nw1 ≠ q54 := hnew h1482 w55
          have n1532 : nw0 ≠ q54 := hnew h1462 w55
          refine hp_SH (As := [.ref q1, .int (xs 1), .ref q54]) (rest := []) B0 hw hS (c_L_underWay hl G f56 q1 ez eo bu nw0 na0 nq0 nr0 nw1 na1 nq1 nr1 bs bp bh bf bl bg q54 ⟨h1456, h1460, h1464, h1468, h1472, h1476, h1480, h1484, h1488, h1492, h1496, h1500, h1504, h1508, h1512, h1516, h1520, h1524, n_wq0, n_wq1, n_sp⟩ (ninc (Ne.symm n1532) (ninc (Ne.symm n1531) (ninc (Ne.symm n1530) (ninc (Ne.symm n1529) (ninc (Ne.symm n1528) (ninc (Ne.symm n1527) (ninc (Ne.symm n1526) (ninc (Ne.symm n1525) nin0)))))))) h57 (xs 1)) mH_L_underWay qM_L_128 rfl rfl hl9.1 (Nat.le_of_ble_eq_true rfl) ⟨⟨Nat.le_of_ble_eq_true rfl, Nat.le_of_ble_eq_true rfl⟩, Nat.le_of_ble_eq_true rfl, Nat.le_of_ble_eq_true rfl⟩ dL_law_951 (fun E ce q9 f1533 H locs hPX hw hS hce hcv hcl => ?_) (fun v f1533 H locs hP hw hS => ?_)
          · exact hPX.elim
          · obtain ⟨ev9, h1534, k1535⟩ := hP
            subst ev9
            refine W.eq (g2 := F0 m 954 ls [.int (spc (sE (xs 1)) True)]) rfl ?_
            refine lv_istore (lv' := [(5, .int (spc (sE (xs 1)) True)), (4, .int 0), (3, .ref q54), (2, .ref q25), (1, .ref q1), (0, .ref b)]) hx hb dL_law_954 hl9 (by decide) rfl (fun ls hl9 => ?_)
            refine lv_aload_n hx hb dL_law_956 rfl (lv_at hl9 3 rfl) ?_
            refine lv_aload_n hx hb dL_law_957 rfl (lv_at hl9 5 rfl) ?_
            refine lv_iload hx hb dL_law_958 (lv_at hl9 1 rfl) ?_
            refine lv_iconst (v := 1) hx hb dL_law_960 (by decide) ?_
            refine lv_iadd hx hb dL_law_961 ?_
            refine hp_c (v := 1) (by decide) ?_
            refine va_sld hx hb hX hbl hbA hS (by unfold vp_in; decide) dL_law_962 ?_
            refine hp_c (v := xs 1) rfl ?_
            have h1536 : f56 q25 = some (.inr (5, [.int 0, .ref dW, .ref dA, .ref dQ, .ref dM, .ref dS, .ref dL, .ref dR, .ref dT, .ref dZ, .ref dI, .ref dH, .ref dN, .ref dK, .ref dJ, .ref dU, .ref dO, .int 0, .int 0, .ref dF, .ref dP, .ref dE, .ref dX, .ref dY, .int 0, .int 0, .ref dG])) := by rw [ef56, va_up_ne _ _ (hnew h30 w55)]; exact h30
            have n1538 : q25 ≠ q54 := hnew h30 w55
            have h1537 : f1533 q25 = some (.inr (5, [.int 0, .ref dW, .ref dA, .ref dQ, .ref dM, .ref dS, .ref dL, .ref dR, .ref dT, .ref dZ, .ref dI, .ref dH, .ref dN, .ref dK, .ref dJ, .ref dU, .ref dO, .int 0, .int 0, .ref dF, .ref dP, .ref dE, .ref dX, .ref dY, .int 0, .int 0, .ref dG])) := k1535 _ _ h1536 (ninc n1538 nin0)
            have h1539 : f56 dN = some (.inl (cI G, 2, .inl (fun _ => 0))) := by rw [ef56, va_up_ne _ _ (hnew h42 w55)]; exact h42
            have n1541 : dN ≠ q54 := hnew h42 w55
            have h1540 : f1533 dN = some (.inl (cI G, 2, .inl (fun _ => 0))) := k1535 _ _ h1539 (ninc n1541 nin0)
            refine hp_V (ci := 5) (As := [.int (xs 1)]) (rest := []) B0 hw hS (c_X5_underWay0 hl G f1533 q25 dW dA dQ dM dS dL dR dT dZ dI dH dN dK dJ dU dO dF dP dE dX dY dG 0 h1537 h1540  (xs 1)) mV_X5_underWay qM_L_130 rfl h1537 rfl rfl hl9.1 (Nat.le_of_ble_eq_true rfl) ⟨⟨Nat.le_of_ble_eq_true rfl, Nat.le_of_ble_eq_true rfl⟩, Nat.le_of_ble_eq_true rfl, Nat.le_of_ble_eq_true rfl⟩ dL_law_963 (fun E ce q9 f1542 H locs hPX hw hS hce hcv hcl => ?_) (fun v f1542 H locs hP hw hS => ?_)
            · exact hPX.elim
            · obtain ⟨⟨r1543, ev9, h1544⟩, ⟨c1545, h1546⟩, k1547⟩ := hP
              subst ev9
              refine W.eq (g2 := F0 m 966 ls [.int r1543]) rfl ?_
              refine lv_istore (lv' := [(6, .int r1543), (5, .int (spc (sE (xs 1)) True)), (4, .int 0), (3, .ref q54), (2, .ref q25), (1, .ref q1), (0, .ref b)]) hx hb dL_law_966 hl9 (by decide) rfl (fun ls hl9 => ?_)
              refine lv_aload_n hx hb dL_law_968 rfl (lv_at hl9 4 rfl) ?_
              refine hp_V (ci := 5) (As := []) (rest := []) B0 hw hS (c_X5_thrown hl G f1542 q25 (spc (sE (xs 1)) True) c1545 h1546) mV_X5_thrown qM_L_86 rfl h1546 rfl rfl hl9.1 (Nat.le_of_ble_eq_true rfl) ⟨⟨Nat.le_of_ble_eq_true rfl, Nat.le_of_ble_eq_true rfl⟩, Nat.le_of_ble_eq_true rfl, Nat.le_of_ble_eq_true rfl⟩ dL_law_969 (fun E ce q9 f1548 H locs hPX hw hS hce hcv hcl => ?_) (fun v f1548 H locs hP hw hS => ?_)
              · exact hPX.elim
              · obtain ⟨ev9, ef9⟩ := hP
                rw [ef9] at hw
                subst ev9
                refine W.eq (g2 := F0 m 972 ls [.int (spc (sE (xs 1)) True)]) rfl ?_
                refine lv_iload hx hb dL_law_972 (lv_at hl9 1 rfl) ?_
                refine lv_icmp_eq (tgt := 979) hx hb dL_law_974 (by decide) (fun _ => ?_) (fun c9 => absurd rfl c9)
                refine lv_iload hx hb dL_law_979 (lv_at hl9 1 rfl) ?_
                refine lv_if_ne (tgt := 996) hx hb dL_law_981 (by decide) (fun c1549 => ?_) (fun c1549 => ?_)
                · refine lv_goto (tgt := 1305) hx hb dL_law_996 (by decide) ?_
                  refine lv_iinc (v := 4) (lv' := [(4, .int 4), (6, .int r1543), (5, .int (spc (sE (xs 1)) True)), (3, .ref q54), (2, .ref q25), (1, .ref q1), (0, .ref b)]) hx hb dL_law_1305 hl9 (k := 2) rfl (by decide) (by decide) rfl (fun ls hl9 => ?_)
                  refine lv_goto (tgt := 23) hx hb dL_law_1308 (by decide) ?_
                  refine lv_iload hx hb dL_law_23 (lv_at hl9 0 rfl) ?_
                  refine lv_aload_n hx hb dL_law_25 rfl (lv_at hl9 6 rfl) ?_
                  refine va_slen hx hb hX hbl hbA hS dL_law_26 ?_
                  refine hp_c (v := 4) rfl ?_
                  refine lv_iconst (v := 4) hx hb dL_law_27 (by decide) ?_
                  refine lv_isub hx hb dL_law_28 ?_
                  refine hp_c (v := 0) (by decide) ?_
                  refine lv_icmp_gt (tgt := 1311) hx hb dL_law_29 (by decide) (fun _ => ?_) (fun c9 => absurd (by decide) c9)
                  refine lv_iconst (v := 1) hx hb dL_law_1311 (by decide) ?_
                  refine va_forget (fun q hq => hFs _ (hS.2.2 q hq)) ?_
                  refine W.widen (k := 600002) (n := 7302232) (Nat.le_of_ble_eq_true rfl) (Nat.le_of_ble_eq_true rfl) ?_
                  exact lw_ret hx hb hr hlocks dL_law_1312
                · refine lv_aload_n hx hb dL_law_984 rfl (lv_at hl9 3 rfl) ?_
                  refine lv_iconst (v := 0) hx hb dL_law_985 (by decide) ?_
                  have h1550 : f1533 q54 = some (.inl (cJ G, 1, .inr (.inl (vp_updL (fun _ => 0) (0 : Int32).toNatClampNeg ((0 : Int32).toInt64))))) := h1534 c1549
                  have h1551 : f1542 q54 = some (.inl (cJ G, 1, .inr (.inl (vp_updL (fun _ => 0) (0 : Int32).toNatClampNeg ((0 : Int32).toInt64))))) := k1547 _ _ h1550 (ninc (Ne.symm n1538) nin0)
                  refine hp_lald B0 hw h1551 (by unfold vp_in; decide) dL_law_986 ?_
                  refine lv_iload hx hb dL_law_987 (lv_at hl9 0 rfl) ?_
                  refine lv_i2l (v := (r1543 : Int32).toInt64) hx hb dL_law_989 rfl ?_
                  refine W.lcmp hx hb dL_law_990 ?_
                  refine lv_if_eq (tgt := 996) hx hb dL_law_991 (by decide) (fun _ => ?_) (fun c9 => absurd (lg_eq0 (by have h9 := h1544 c1549; subst h9; rfl)) c9)
                  refine lv_goto (tgt := 1305) hx hb dL_law_996 (by decide) ?_
                  refine lv_iinc (v := 4) (lv' := [(4, .int 4), (6, .int r1543), (5, .int (spc (sE (xs 1)) True)), (3, .ref q54), (2, .ref q25), (1, .ref q1), (0, .ref b)]) hx hb dL_law_1305 hl9 (k := 2) rfl (by decide) (by decide) rfl (fun ls hl9 => ?_)
                  refine lv_goto (tgt := 23) hx hb dL_law_1308 (by decide) ?_
                  refine lv_iload hx hb dL_law_23 (lv_at hl9 0 rfl) ?_
                  refine lv_aload_n hx hb dL_law_25 rfl (lv_at hl9 6 rfl) ?_
                  refine va_slen hx hb hX hbl hbA hS dL_law_26 ?_
                  refine hp_c (v := 4) rfl ?_
                  refine lv_iconst (v := 4) hx hb dL_law_27 (by decide) ?_
                  refine lv_isub hx hb dL_law_28 ?_
                  refine hp_c (v := 0) (by decide) ?_
                  refine lv_icmp_gt (tgt := 1311) hx hb dL_law_29 (by decide) (fun _ => ?_) (fun c9 => absurd (by decide) c9)
                  refine lv_iconst (v := 1) hx hb dL_law_1311 (by decide) ?_
                  refine va_forget (fun q hq => hFs _ (hS.2.2 q hq)) ?_
                  refine W.widen (k := 600002) (n := 7302232) (Nat.le_of_ble_eq_true rfl) (Nat.le_of_ble_eq_true rfl) ?_
                  exact lw_ret hx hb hr hlocks dL_law_1312
        · refine lv_tableIn (off := 960) (tgt := 999) hx hb dL_law_39 (by decide) (by decide) (by decide) (by decide) ?_
          refine lv_aload_n hx hb dL_law_999 rfl (lv_at hl9 3 rfl) ?_
          refine lv_aload_n hx hb dL_law_1000 rfl (lv_at hl9 4 rfl) ?_
          refine lv_iload hx hb dL_law_1001 (lv_at hl9 0 rfl) ?_
          refine lv_iconst (v := 1) hx hb dL_law_1003 (by decide) ?_
          refine lv_iadd hx hb dL_law_1004 ?_
          refine hp_c (v := 1) (by decide) ?_
          refine va_sld hx hb hX hbl hbA hS (by unfold vp_in; decide) dL_law_1005 ?_
          refine hp_c (v := xs 1) rfl ?_
          refine lv_aload_n hx hb dL_law_1006 rfl (lv_at hl9 1 rfl) ?_
          have h1552 : f27 q1 = some (.inr (4, [.ref ez, .ref eo, .ref bu])) := by rw [ef27, va_up_ne _ _ (hnew h6 w26)]; exact h6
          have n1554 : q1 ≠ q25 := hnew h6 w26
          have h1553 : f29 q1 = some (.inr (4, [.ref ez, .ref eo, .ref bu])) := k53 _ _ h1552 (ninc n1554 nin0)
          have h1555 : f56 q1 = some (.inr (4, [.ref ez, .ref eo, .ref bu])) := by rw [ef56, va_up_ne _ _ (hnew h1553 w55)]; exact h1553
          have h1556 : f27 ez = some (.inr (1, [.ref nw0, .ref na0, .ref nq0, .ref nr0, .int 1, .int 0, .int 0, .int 0, .int (-1), .int 0, .int 0])) := by rw [ef27, va_up_ne _ _ (hnew h7 w26)]; exact h7
          have n1558 : ez ≠ q25 := hnew h7 w26
          have h1557 : f29 ez = some (.inr (1, [.ref nw0, .ref na0, .ref nq0, .ref nr0, .int 1, .int 0, .int 0, .int 0, .int (-1), .int 0, .int 0])) := k53 _ _ h1556 (ninc n1558 nin0)
          have h1559 : f56 ez = some (.inr (1, [.ref nw0, .ref na0, .ref nq0, .ref nr0, .int 1, .int 0, .int 0, .int 0, .int (-1), .int 0, .int 0])) := by rw [ef56, va_up_ne _ _ (hnew h1557 w55)]; exact h1557
          have h1560 : f27 nw0 = some (.inl (cI G, 6, .inl (fun j => if j < 6 then (-1) else (fun _ => 0) j))) := by rw [ef27, va_up_ne _ _ (hnew h8 w26)]; exact h8
          have n1562 : nw0 ≠ q25 := hnew h8 w26
          have h1561 : f29 nw0 = some (.inl (cI G, 6, .inl (fun j => if j < 6 then (-1) else (fun _ => 0) j))) := k53 _ _ h1560 (ninc n1562 nin0)
          have h1563 : f56 nw0 = some (.inl (cI G, 6, .inl (fun j => if j < 6 then (-1) else (fun _ => 0) j))) := by rw [ef56, va_up_ne _ _ (hnew h1561 w55)]; exact h1561
          have h1564 : f27 na0 = some (.inl (cI G, 6, .inl (fun _ => 0))) := by rw [ef27, va_up_ne _ _ (hnew h9 w26)]; exact h9
          have n1566 : na0 ≠ q25 := hnew h9 w26
          have h1565 : f29 na0 = some (.inl (cI G, 6, .inl (fun _ => 0))) := k53 _ _ h1564 (ninc n1566 nin0)
          have h1567 : f56 na0 = some (.inl (cI G, 6, .inl (fun _ => 0))) := by rw [ef56, va_up_ne _ _ (hnew h1565 w55)]; exact h1565
          have h1568 : f27 nq0 = some (.inl (cI G, 6, .inl (fun j => if j < 6 then (-1) else (fun _ => 0) j))) := by rw [ef27, va_up_ne _ _ (hnew h10 w26)]; exact h10
          have n1570 : nq0 ≠ q25 := hnew h10 w26
          have h1569 : f29 nq0 = some (.inl (cI G, 6, .inl (fun j => if j < 6 then (-1) else (fun _ => 0) j))) := k53 _ _ h1568 (ninc n1570 nin0)
          have h1571 : f56 nq0 = some (.inl (cI G, 6, .inl (fun j => if j < 6 then (-1) else (fun _ => 0) j))) := by rw [ef56, va_up_ne _ _ (hnew h1569 w55)]; exact h1569
          have h1572 : f27 nr0 = some (.inr (3, [.null, .null, .int 0])) := by rw [ef27, va_up_ne _ _ (hnew h11 w26)]; exact h11
          have n1574 : nr0 ≠ q25 := hnew h11 w26
          have h1573 : f29 nr0 = some (.inr (3, [.null, .null, .int 0])) := k53 _ _ h1572 (ninc n1574 nin0)
          have h1575 : f56 nr0 = some (.inr (3, [.null, .null, .int 0])) := by rw [ef56, va_up_ne _ _ (hnew h1573 w55)]; exact h1573
          have h1576 : f27 eo = some (.inr (1, [.ref nw1, .ref na1, .ref nq1, .ref nr1, .int 2, .int 0, .int 0, .int 0, .int (-1), .int 0, .int 0])) := by rw [ef27, va_up_ne _ _ (hnew h12 w26)]; exact h12
          have n1578 : eo ≠ q25 := hnew h12 w26
          have h1577 : f29 eo = some (.inr (1, [.ref nw1, .ref na1, .ref nq1, .ref nr1, .int 2, .int 0, .int 0, .int 0, .int (-1), .int 0, .int 0])) := k53 _ _ h1576 (ninc n1578 nin0)
          have h1579 : f56 eo = some (.inr (1, [.ref nw1, .ref na1, .ref nq1, .ref nr1, .int 2, .int 0, .int 0, .int 0, .int (-1), .int 0, .int 0])) := by rw [ef56, va_up_ne _ _ (hnew h1577 w55)]; exact h1577
          have h1580 : f27 nw1 = some (.inl (cI G, 6, .inl (fun j => if j < 6 then (-1) else (fun _ => 0) j))) := by rw [ef27, va_up_ne _ _ (hnew h13 w26)]; exact h13
          have n1582 : nw1 ≠ q25 := hnew h13 w26
          have h1581 : f29 nw1 = some (.inl (cI G, 6, .inl (fun j => if j < 6 then (-1) else (fun _ => 0) j))) := k53 _ _ h1580 (ninc n1582 nin0)
          have h1583 : f56 nw1 = some (.inl (cI G, 6, .inl (fun j => if j < 6 then (-1) else (fun _ => 0) j))) := by rw [ef56, va_up_ne _ _ (hnew h1581 w55)]; exact h1581
          have h1584 : f27 na1 = some (.inl (cI G, 6, .inl (fun _ => 0))) := by rw [ef27, va_up_ne _ _ (hnew h14 w26)]; exact h14
          have n1586 : na1 ≠ q25 := hnew h14 w26
          have h1585 : f29 na1 = some (.inl (cI G, 6, .inl (fun _ => 0))) := k53 _ _ h1584 (ninc n1586 nin0)
          have h1587 : f56 na1 = some (.inl (cI G, 6, .inl (fun _ => 0))) := by rw [ef56, va_up_ne _ _ (hnew h1585 w55)]; exact h1585
          have h1588 : f27 nq1 = some (.inl (cI G, 6, .inl (fun j => if j < 6 then (-1) else (fun _ => 0) j))) := by rw [ef27, va_up_ne _ _ (hnew h15 w26)]; exact h15
          have n1590 : nq1 ≠ q25 := hnew h15 w26
          have h1589 : f29 nq1 = some (.inl (cI G, 6, .inl (fun j => if j < 6 then (-1) else (fun _ => 0) j))) := k53 _ _ h1588 (ninc n1590 nin0)
          have h1591 : f56 nq1 = some (.inl (cI G, 6, .inl (fun j => if j < 6 then (-1) else (fun _ => 0) j))) := by rw [ef56, va_up_ne _ _ (hnew h1589 w55)]; exact h1589
          have h1592 : f27 nr1 = some (.inr (3, [.null, .null, .int 0])) := by rw [ef27, va_up_ne _ _ (hnew h16 w26)]; exact h16
          have n1594 : nr1 ≠ q25 := hnew h16 w26
          have h1593 : f29 nr1 = some (.inr (3, [.null, .null, .int 0])) := k53 _ _ h1592 (ninc n1594 nin0)
          have h1595 : f56 nr1 = some (.inr (3, [.null, .null, .int 0])) := by rw [ef56, va_up_ne _ _ (hnew h1593 w55)]; exact h1593
          have h1596 : f27 bu = some (.inr (0, [.ref bs, .ref bp, .ref bh, .ref bf, .ref bl, .ref bg, .int 0, .int 0, .int 0])) := by rw [ef27, va_up_ne _ _ (hnew h17 w26)]; exact h17
          have n1598 : bu ≠ q25 := hnew h17 w26
          have h1597 : f29 bu = some (.inr (0, [.ref bs, .ref bp, .ref bh, .ref bf, .ref bl, .ref bg, .int 0, .int 0, .int 0])) := k53 _ _ h1596 (ninc n1598 nin0)
          have h1599 : f56 bu = some (.inr (0, [.ref bs, .ref bp, .ref bh, .ref bf, .ref bl, .ref bg, .int 0, .int 0, .int 0])) := by rw [ef56, va_up_ne _ _ (hnew h1597 w55)]; exact h1597
          have h1600 : f27 bs = some (.inl (cI G, 61, .inl (fun _ => 0))) := by rw [ef27, va_up_ne _ _ (hnew h18 w26)]; exact h18
          have n1602 : bs ≠ q25 := hnew h18 w26
          have h1601 : f29 bs = some (.inl (cI G, 61, .inl (fun _ => 0))) := k53 _ _ h1600 (ninc n1602 nin0)
          have h1603 : f56 bs = some (.inl (cI G, 61, .inl (fun _ => 0))) := by rw [ef56, va_up_ne _ _ (hnew h1601 w55)]; exact h1601
          have h1604 : f27 bp = some (.inl (cI G, 240, .inl (fun _ => 0))) := by rw [ef27, va_up_ne _ _ (hnew h19 w26)]; exact h19
          have n1606 : bp ≠ q25 := hnew h19 w26
          have h1605 : f29 bp = some (.inl (cI G, 240, .inl (fun _ => 0))) := k53 _ _ h1604 (ninc n1606 nin0)
          have h1607 : f56 bp = some (.inl (cI G, 240, .inl (fun _ => 0))) := by rw [ef56, va_up_ne _ _ (hnew h1605 w55)]; exact h1605
          have h1608 : f27 bh = some (.inl (cZ G, 240, .inl (fun _ => 0))) := by rw [ef27, va_up_ne _ _ (hnew h20 w26)]; exact h20
          have n1610 : bh ≠ q25 := hnew h20 w26
          have h1609 : f29 bh = some (.inl (cZ G, 240, .inl (fun _ => 0))) := k53 _ _ h1608 (ninc n1610 nin0)
          have h1611 : f56 bh = some (.inl (cZ G, 240, .inl (fun _ => 0))) := by rw [ef56, va_up_ne _ _ (hnew h1609 w55)]; exact h1609
          have h1612 : f27 bf = some (.inl (cI G, 3, .inl (upd (upd (upd (fun _ => 0) (0 : Int32).toNatClampNeg 0) (1 : Int32).toNatClampNeg 1) (2 : Int32).toNatClampNeg 2))) := by rw [ef27, va_up_ne _ _ (hnew h21 w26)]; exact h21
          have n1614 : bf ≠ q25 := hnew h21 w26
          have h1613 : f29 bf = some (.inl (cI G, 3, .inl (upd (upd (upd (fun _ => 0) (0 : Int32).toNatClampNeg 0) (1 : Int32).toNatClampNeg 1) (2 : Int32).toNatClampNeg 2))) := k53 _ _ h1612 (ninc n1614 nin0)
          have h1615 : f56 bf = some (.inl (cI G, 3, .inl (upd (upd (upd (fun _ => 0) (0 : Int32).toNatClampNeg 0) (1 : Int32).toNatClampNeg 1) (2 : Int32).toNatClampNeg 2))) := by rw [ef56, va_up_ne _ _ (hnew h1613 w55)]; exact h1613
          have h1616 : f27 bl = some (.inl (cI G, 3, .inl (fun j => if j < 3 then (-1) else (fun _ => 0) j))) := by rw [ef27, va_up_ne _ _ (hnew h22 w26)]; exact h22
          have n1618 : bl ≠ q25 := hnew h22 w26
          have h1617 : f29 bl = some (.inl (cI G, 3, .inl (fun j => if j < 3 then (-1) else (fun _ => 0) j))) := k53 _ _ h1616 (ninc n1618 nin0)
          have h1619 : f56 bl = some (.inl (cI G, 3, .inl (fun j => if j < 3 then (-1) else (fun _ => 0) j))) := by rw [ef56, va_up_ne _ _ (hnew h1617 w55)]; exact h1617
          have h1620 : f27 bg = some (.inl (cI G, 60, .inl (fun _ => 0))) := by rw [ef27, va_up_ne _ _ (hnew h23 w26)]; exact h23
          have n1622 : bg ≠ q25 := hnew h23 w26
          have h1621 : f29 bg = some (.inl (cI G, 60, .inl (fun _ => 0))) := k53 _ _ h1620 (ninc n1622 nin0)
          have h1623 : f56 bg = some (.inl (cI G, 60, .inl (fun _ => 0))) := by rw [ef56, va_up_ne _ _ (hnew h1621 w55)]; exact h1621
          have n1624 : bp ≠ q54 := hnew h1605 w55
          have n1625 : bs ≠ q54 := hnew h1601 w55
          have n1626 : nq1 ≠ q54 := hnew h1589 w55
          have n1627 : nq0 ≠ q54 := hnew h1569 w55
          have n1628 : na1 ≠ q54 := hnew h1585 w55
          have n1629 : na0 ≠ q54 := hnew h1565 w55
          have n1630 : nw1 ≠ q54 := hnew h1581 w55
          have n1631 : nw0 ≠ q54 := hnew h1561 w55
          refine hp_SH (As := [.ref q1, .int (xs 1), .ref q54]) (rest := []) B0 hw hS (c_L_missed hl G f56 q1 ez eo bu nw0 na0 nq0 nr0 nw1 na1 nq1 nr1 bs bp bh bf bl bg q54 ⟨h1555, h1559, h1563, h1567, h1571, h1575, h1579, h1583, h1587, h1591, h1595, h1599, h1603, h1607, h1611, h1615, h1619, h1623, n_wq0, n_wq1, n_sp⟩ (ninc (Ne.symm n1631) (ninc (Ne.symm n1630) (ninc (Ne.symm n1629) (ninc (Ne.symm n1628) (ninc (Ne.symm n1627) (ninc (Ne.symm n1626) (ninc (Ne.symm n1625) (ninc (Ne.symm n1624) nin0)))))))) h57 (xs 1)) mH_L_missed qM_L_131 rfl rfl hl9.1 (Nat.le_of_ble_eq_true rfl) ⟨⟨Nat.le_of_ble_eq_true rfl, Nat.le_of_ble_eq_true rfl⟩, Nat.le_of_ble_eq_true rfl, Nat.le_of_ble_eq_true rfl⟩ dL_law_1007 (fun E ce q9 f1632 H locs hPX hw hS hce hcv hcl => ?_) (fun v f1632 H locs hP hw hS => ?_)
          · exact hPX.elim
          · obtain ⟨ev9, h1633, k1634⟩ := hP
            subst ev9
            refine W.eq (g2 := F0 m 1010 ls [.int (spc (sE (xs 1)) True)]) rfl ?_
            refine lv_istore (lv' := [(5, .int (spc (sE (xs 1)) True)), (4, .int 0), (3, .ref q54), (2, .ref q25), (1, .ref q1), (0, .ref b)]) hx hb dL_law_1010 hl9 (by decide) rfl (fun ls hl9 => ?_)
            refine lv_aload_n hx hb dL_law_1012 rfl (lv_at hl9 3 rfl) ?_
            refine lv_aload_n hx hb dL_law_1013 rfl (lv_at hl9 5 rfl) ?_
            refine lv_iload hx hb dL_law_1014 (lv_at hl9 1 rfl) ?_
            refine lv_iconst (v := 1) hx hb dL_law_1016 (by decide) ?_
            refine lv_iadd hx hb dL_law_1017 ?_
            refine hp_c (v := 1) (by decide) ?_
            refine va_sld hx hb hX hbl hbA hS (by unfold vp_in; decide) dL_law_1018 ?_
            refine hp_c (v := xs 1) rfl ?_
            have h1635 : f56 q25 = some (.inr (5, [.int 0, .ref dW, .ref dA, .ref dQ, .ref dM, .ref dS, .ref dL, .ref dR, .ref dT, .ref dZ, .ref dI, .ref dH, .ref dN, .ref dK, .ref dJ, .ref dU, .ref dO, .int 0, .int 0, .ref dF, .ref dP, .ref dE, .ref dX, .ref dY, .int 0, .int 0, .ref dG])) := by rw [ef56, va_up_ne _ _ (hnew h30 w55)]; exact h30
            have n1637 : q25 ≠ q54 := hnew h30 w55
            have h1636 : f1632 q25 = some (.inr (5, [.int 0, .ref dW, .ref dA, .ref dQ, .ref dM, .ref dS, .ref dL, .ref dR, .ref dT, .ref dZ, .ref dI, .ref dH, .ref dN, .ref dK, .ref dJ, .ref dU, .ref dO, .int 0, .int 0, .ref dF, .ref dP, .ref dE, .ref dX, .ref dY, .int 0, .int 0, .ref dG])) := k1634 _ _ h1635 (ninc n1637 nin0)
            have h1638 : f56 dI = some (.inl (cI G, 2, .inl (fun _ => 0))) := by rw [ef56, va_up_ne _ _ (hnew h40 w55)]; exact h40
            have n1640 : dI ≠ q54 := hnew h40 w55
            have h1639 : f1632 dI = some (.inl (cI G, 2, .inl (fun _ => 0))) := k1634 _ _ h1638 (ninc n1640 nin0)
            refine hp_V (ci := 5) (As := [.int (xs 1)]) (rest := []) B0 hw hS (c_X5_missed0 hl G f1632 q25 dW dA dQ dM dS dL dR dT dZ dI dH dN dK dJ dU dO dF dP dE dX dY dG 0 h1636 h1639  (xs 1)) mV_X5_missed qM_L_133 rfl h1636 rfl rfl hl9.1 (Nat.le_of_ble_eq_true rfl) ⟨⟨Nat.le_of_ble_eq_true rfl, Nat.le_of_ble_eq_true rfl⟩, Nat.le_of_ble_eq_true rfl, Nat.le_of_ble_eq_true rfl⟩ dL_law_1019 (fun E ce q9 f1641 H locs hPX hw hS hce hcv hcl => ?_) (fun v f1641 H locs hP hw hS => ?_)
            · exact hPX.elim
            · obtain ⟨⟨r1642, ev9, h1643⟩, ⟨c1644, h1645⟩, k1646⟩ := hP
              subst ev9
              refine W.eq (g2 := F0 m 1022 ls [.int r1642]) rfl ?_
              refine lv_istore (lv' := [(6, .int r1642), (5, .int (spc (sE (xs 1)) True)), (4, .int 0), (3, .ref q54), (2, .ref q25), (1, .ref q1), (0, .ref b)]) hx hb dL_law_1022 hl9 (by decide) rfl (fun ls hl9 => ?_)
              refine lv_aload_n hx hb dL_law_1024 rfl (lv_at hl9 4 rfl) ?_
              refine hp_V (ci := 5) (As := []) (rest := []) B0 hw hS (c_X5_thrown hl G f1641 q25 (spc (sE (xs 1)) True) c1644 h1645) mV_X5_thrown qM_L_86 rfl h1645 rfl rfl hl9.1 (Nat.le_of_ble_eq_true rfl) ⟨⟨Nat.le_of_ble_eq_true rfl, Nat.le_of_ble_eq_true rfl⟩, Nat.le_of_ble_eq_true rfl, Nat.le_of_ble_eq_true rfl⟩ dL_law_1025 (fun E ce q9 f1647 H locs hPX hw hS hce hcv hcl => ?_) (fun v f1647 H locs hP hw hS => ?_)
              · exact hPX.elim
              · obtain ⟨ev9, ef9⟩ := hP
                rw [ef9] at hw
                subst ev9
                refine W.eq (g2 := F0 m 1028 ls [.int (spc (sE (xs 1)) True)]) rfl ?_
                refine lv_iload hx hb dL_law_1028 (lv_at hl9 1 rfl) ?_
                refine lv_icmp_eq (tgt := 1035) hx hb dL_law_1030 (by decide) (fun _ => ?_) (fun c9 => absurd rfl c9)
                refine lv_iload hx hb dL_law_1035 (lv_at hl9 1 rfl) ?_
                refine lv_if_ne (tgt := 1052) hx hb dL_law_1037 (by decide) (fun c1648 => ?_) (fun c1648 => ?_)
                · refine lv_goto (tgt := 1305) hx hb dL_law_1052 (by decide) ?_
                  refine lv_iinc (v := 4) (lv' := [(4, .int 4), (6, .int r1642), (5, .int (spc (sE (xs 1)) True)), (3, .ref q54), (2, .ref q25), (1, .ref q1), (0, .ref b)]) hx hb dL_law_1305 hl9 (k := 2) rfl (by decide) (by decide) rfl (fun ls hl9 => ?_)
                  refine lv_goto (tgt := 23) hx hb dL_law_1308 (by decide) ?_
                  refine lv_iload hx hb dL_law_23 (lv_at hl9 0 rfl) ?_
                  refine lv_aload_n hx hb dL_law_25 rfl (lv_at hl9 6 rfl) ?_
                  refine va_slen hx hb hX hbl hbA hS dL_law_26 ?_
                  refine hp_c (v := 4) rfl ?_
                  refine lv_iconst (v := 4) hx hb dL_law_27 (by decide) ?_
                  refine lv_isub hx hb dL_law_28 ?_
                  refine hp_c (v := 0) (by decide) ?_
                  refine lv_icmp_gt (tgt := 1311) hx hb dL_law_29 (by decide) (fun _ => ?_) (fun c9 => absurd (by decide) c9)
                  refine lv_iconst (v := 1) hx hb dL_law_1311 (by decide) ?_
                  refine va_forget (fun q hq => hFs _ (hS.2.2 q hq)) ?_
                  refine W.widen (k := 600002) (n := 7302232) (Nat.le_of_ble_eq_true rfl) (Nat.le_of_ble_eq_true rfl) ?_
                  exact lw_ret hx hb hr hlocks dL_law_1312
                · refine lv_aload_n hx hb dL_law_1040 rfl (lv_at hl9 3 rfl) ?_
                  refine lv_iconst (v := 0) hx hb dL_law_1041 (by decide) ?_
                  have h1649 : f1632 q54 = some (.inl (cJ G, 1, .inr (.inl (vp_updL (fun _ => 0) (0 : Int32).toNatClampNeg ((0 : Int32).toInt64))))) := h1633 c1648
                  have h1650 : f1641 q54 = some (.inl (cJ G, 1, .inr (.inl (vp_updL (fun _ => 0) (0 : Int32).toNatClampNeg ((0 : Int32).toInt64))))) := k1646 _ _ h1649 (ninc (Ne.symm n1637) nin0)
                  refine hp_lald B0 hw h1650 (by unfold vp_in; decide) dL_law_1042 ?_
                  refine lv_iload hx hb dL_law_1043 (lv_at hl9 0 rfl) ?_
                  refine lv_i2l (v := (r1642 : Int32).toInt64) hx hb dL_law_1045 rfl ?_
                  refine W.lcmp hx hb dL_law_1046 ?_
                  refine lv_if_eq (tgt := 1052) hx hb dL_law_1047 (by decide) (fun _ => ?_) (fun c9 => absurd (lg_eq0 (by have h9 := h1643 c1648; subst h9; rfl)) c9)
                  refine lv_goto (tgt := 1305) hx hb dL_law_1052 (by decide) ?_
                  refine lv_iinc (v := 4) (lv' := [(4, .int 4), (6, .int r1642), (5, .int (spc (sE (xs 1)) True)), (3, .ref q54), (2, .ref q25), (1, .ref q1), (0, .ref b)]) hx hb dL_law_1305 hl9 (k := 2) rfl (by decide) (by decide) rfl (fun ls hl9 => ?_)
                  refine lv_goto (tgt := 23) hx hb dL_law_1308 (by decide) ?_
                  refine lv_iload hx hb dL_law_23 (lv_at hl9 0 rfl) ?_
                  refine lv_aload_n hx hb dL_law_25 rfl (lv_at hl9 6 rfl) ?_
                  refine va_slen hx hb hX hbl hbA hS dL_law_26 ?_
                  refine hp_c (v := 4) rfl ?_
                  refine lv_iconst (v := 4) hx hb dL_law_27 (by decide) ?_
                  refine lv_isub hx hb dL_law_28 ?_
                  refine hp_c (v := 0) (by decide) ?_
                  refine lv_icmp_gt (tgt := 1311) hx hb dL_law_29 (by decide) (fun _ => ?_) (fun c9 => absurd (by decide) c9)
                  refine lv_iconst (v := 1) hx hb dL_law_1311 (by decide) ?_
                  refine va_forget (fun q hq => hFs _ (hS.2.2 q hq)) ?_
                  refine W.widen (k := 600002) (n := 7302232) (Nat.le_of_ble_eq_true rfl) (Nat.le_of_ble_eq_true rfl) ?_
                  exact lw_ret hx hb hr hlocks dL_law_1312
        · refine lv_tableIn (off := 1016) (tgt := 1055) hx hb dL_law_39 (by decide) (by decide) (by decide) (by decide) ?_
          refine lv_aload_n hx hb dL_law_1055 rfl (lv_at hl9 3 rfl) ?_
          refine lv_aload_n hx hb dL_law_1056 rfl (lv_at hl9 4 rfl) ?_
          refine lv_iload hx hb dL_law_1057 (lv_at hl9 0 rfl) ?_
          refine lv_iconst (v := 1) hx hb dL_law_1059 (by decide) ?_
          refine lv_iadd hx hb dL_law_1060 ?_
          refine hp_c (v := 1) (by decide) ?_
          refine va_sld hx hb hX hbl hbA hS (by unfold vp_in; decide) dL_law_1061 ?_
          refine hp_c (v := xs 1) rfl ?_
          refine lv_aload_n hx hb dL_law_1062 rfl (lv_at hl9 1 rfl) ?_
          have h1651 : f27 q1 = some (.inr (4, [.ref ez, .ref eo, .ref bu])) := by rw [ef27, va_up_ne _ _ (hnew h6 w26)]; exact h6
          have n1653 : q1 ≠ q25 := hnew h6 w26
          have h1652 : f29 q1 = some (.inr (4, [.ref ez, .ref eo, .ref bu])) := k53 _ _ h1651 (ninc n1653 nin0)
          have h1654 : f56 q1 = some (.inr (4, [.ref ez, .ref eo, .ref bu])) := by rw [ef56, va_up_ne _ _ (hnew h1652 w55)]; exact h1652
          have h1655 : f27 ez = some (.inr (1, [.ref nw0, .ref na0, .ref nq0, .ref nr0, .int 1, .int 0, .int 0, .int 0, .int (-1), .int 0, .int 0])) := by rw [ef27, va_up_ne _ _ (hnew h7 w26)]; exact h7
          have n1657 : ez ≠ q25 := hnew h7 w26
          have h1656 : f29 ez = some (.inr (1, [.ref nw0, .ref na0, .ref nq0, .ref nr0, .int 1, .int 0, .int 0, .int 0, .int (-1), .int 0, .int 0])) := k53 _ _ h1655 (ninc n1657 nin0)
          have h1658 : f56 ez = some (.inr (1, [.ref nw0, .ref na0, .ref nq0, .ref nr0, .int 1, .int 0, .int 0, .int 0, .int (-1), .int 0, .int 0])) := by rw [ef56, va_up_ne _ _ (hnew h1656 w55)]; exact h1656
          have h1659 : f27 nw0 = some (.inl (cI G, 6, .inl (fun j => if j < 6 then (-1) else (fun _ => 0) j))) := by rw [ef27, va_up_ne _ _ (hnew h8 w26)]; exact h8
          have n1661 : nw0 ≠ q25 := hnew h8 w26
          have h1660 : f29 nw0 = some (.inl (cI G, 6, .inl (fun j => if j < 6 then (-1) else (fun _ => 0) j))) := k53 _ _ h1659 (ninc n1661 nin0)
          have h1662 : f56 nw0 = some (.inl (cI G, 6, .inl (fun j => if j < 6 then (-1) else (fun _ => 0) j))) := by rw [ef56, va_up_ne _ _ (hnew h1660 w55)]; exact h1660
          have h1663 : f27 na0 = some (.inl (cI G, 6, .inl (fun _ => 0))) := by rw [ef27, va_up_ne _ _ (hnew h9 w26)]; exact h9
          have n1665 : na0 ≠ q25 := hnew h9 w26
          have h1664 : f29 na0 = some (.inl (cI G, 6, .inl (fun _ => 0))) := k53 _ _ h1663 (ninc n1665 nin0)
          have h1666 : f56 na0 = some (.inl (cI G, 6, .inl (fun _ => 0))) := by rw [ef56, va_up_ne _ _ (hnew h1664 w55)]; exact h1664
          have h1667 : f27 nq0 = some (.inl (cI G, 6, .inl (fun j => if j < 6 then (-1) else (fun _ => 0) j))) := by rw [ef27, va_up_ne _ _ (hnew h10 w26)]; exact h10
          have n1669 : nq0 ≠ q25 := hnew h10 w26
          have h1668 : f29 nq0 = some (.inl (cI G, 6, .inl (fun j => if j < 6 then (-1) else (fun _ => 0) j))) := k53 _ _ h1667 (ninc n1669 nin0)
          have h1670 : f56 nq0 = some (.inl (cI G, 6, .inl (fun j => if j < 6 then (-1) else (fun _ => 0) j))) := by rw [ef56, va_up_ne _ _ (hnew h1668 w55)]; exact h1668
          have h1671 : f27 nr0 = some (.inr (3, [.null, .null, .int 0])) := by rw [ef27, va_up_ne _ _ (hnew h11 w26)]; exact h11
          have n1673 : nr0 ≠ q25 := hnew h11 w26
          have h1672 : f29 nr0 = some (.inr (3, [.null, .null, .int 0])) := k53 _ _ h1671 (ninc n1673 nin0)
          have h1674 : f56 nr0 = some (.inr (3, [.null, .null, .int 0])) := by rw [ef56, va_up_ne _ _ (hnew h1672 w55)]; exact h1672
          have h1675 : f27 eo = some (.inr (1, [.ref nw1, .ref na1, .ref nq1, .ref nr1, .int 2, .int 0, .int 0, .int 0, .int (-1), .int 0, .int 0])) := by rw [ef27, va_up_ne _ _ (hnew h12 w26)]; exact h12
          have n1677 : eo ≠ q25 := hnew h12 w26
          have h1676 : f29 eo = some (.inr (1, [.ref nw1, .ref na1, .ref nq1, .ref nr1, .int 2, .int 0, .int 0, .int 0, .int (-1), .int 0, .int 0])) := k53 _ _ h1675 (ninc n1677 nin0)
          have h1678 : f56 eo = some (.inr (1, [.ref nw1, .ref na1, .ref nq1, .ref nr1, .int 2, .int 0, .int 0, .int 0, .int (-1), .int 0, .int 0])) := by rw [ef56, va_up_ne _ _ (hnew h1676 w55)]; exact h1676
          have h1679 : f27 nw1 = some (.inl (cI G, 6, .inl (fun j => if j < 6 then (-1) else (fun _ => 0) j))) := by rw [ef27, va_up_ne _ _ (hnew h13 w26)]; exact h13
          have n1681 : nw1 ≠ q25 := hnew h13 w26
          have h1680 : f29 nw1 = some (.inl (cI G, 6, .inl (fun j => if j < 6 then (-1) else (fun _ => 0) j))) := k53 _ _ h1679 (ninc n1681 nin0)
          have h1682 : f56 nw1 = some (.inl (cI G, 6, .inl (fun j => if j < 6 then (-1) else (fun _ => 0) j))) := by rw [ef56, va_up_ne _ _ (hnew h1680 w55)]; exact h1680
          have h1683 : f27 na1 = some (.inl (cI G, 6, .inl (fun _ => 0))) := by rw [ef27, va_up_ne _ _ (hnew h14 w26)]; exact h14
          have n1685 : na1 ≠ q25 := hnew h14 w26
          have h1684 : f29 na1 = some (.inl (cI G, 6, .inl (fun _ => 0))) := k53 _ _ h1683 (ninc n1685 nin0)
          have h1686 : f56 na1 = some (.inl (cI G, 6, .inl (fun _ => 0))) := by rw [ef56, va_up_ne _ _ (hnew h1684 w55)]; exact h1684
          have h1687 : f27 nq1 = some (.inl (cI G, 6, .inl (fun j => if j < 6 then (-1) else (fun _ => 0) j))) := by rw [ef27, va_up_ne _ _ (hnew h15 w26)]; exact h15
          have n1689 : nq1 ≠ q25 := hnew h15 w26
          have h1688 : f29 nq1 = some (.inl (cI G, 6, .inl (fun j => if j < 6 then (-1) else (fun _ => 0) j))) := k53 _ _ h1687 (ninc n1689 nin0)
          have h1690 : f56 nq1 = some (.inl (cI G, 6, .inl (fun j => if j < 6 then (-1) else (fun _ => 0) j))) := by rw [ef56, va_up_ne _ _ (hnew h1688 w55)]; exact h1688
          have h1691 : f27 nr1 = some (.inr (3, [.null, .null, .int 0])) := by rw [ef27, va_up_ne _ _ (hnew h16 w26)]; exact h16
          have n1693 : nr1 ≠ q25 := hnew h16 w26
          have h1692 : f29 nr1 = some (.inr (3, [.null, .null, .int 0])) := k53 _ _ h1691 (ninc n1693 nin0)
          have h1694 : f56 nr1 = some (.inr (3, [.null, .null, .int 0])) := by rw [ef56, va_up_ne _ _ (hnew h1692 w55)]; exact h1692
          have h1695 : f27 bu = some (.inr (0, [.ref bs, .ref bp, .ref bh, .ref bf, .ref bl, .ref bg, .int 0, .int 0, .int 0])) := by rw [ef27, va_up_ne _ _ (hnew h17 w26)]; exact h17
          have n1697 : bu ≠ q25 := hnew h17 w26
          have h1696 : f29 bu = some (.inr (0, [.ref bs, .ref bp, .ref bh, .ref bf, .ref bl, .ref bg, .int 0, .int 0, .int 0])) := k53 _ _ h1695 (ninc n1697 nin0)
          have h1698 : f56 bu = some (.inr (0, [.ref bs, .ref bp, .ref bh, .ref bf, .ref bl, .ref bg, .int 0, .int 0, .int 0])) := by rw [ef56, va_up_ne _ _ (hnew h1696 w55)]; exact h1696
          have h1699 : f27 bs = some (.inl (cI G, 61, .inl (fun _ => 0))) := by rw [ef27, va_up_ne _ _ (hnew h18 w26)]; exact h18
          have n1701 : bs ≠ q25 := hnew h18 w26
          have h1700 : f29 bs = some (.inl (cI G, 61, .inl (fun _ => 0))) := k53 _ _ h1699 (ninc n1701 nin0)
          have h1702 : f56 bs = some (.inl (cI G, 61, .inl (fun _ => 0))) := by rw [ef56, va_up_ne _ _ (hnew h1700 w55)]; exact h1700
          have h1703 : f27 bp = some (.inl (cI G, 240, .inl (fun _ => 0))) := by rw [ef27, va_up_ne _ _ (hnew h19 w26)]; exact h19
          have n1705 : bp ≠ q25 := hnew h19 w26
          have h1704 : f29 bp = some (.inl (cI G, 240, .inl (fun _ => 0))) := k53 _ _ h1703 (ninc n1705 nin0)
          have h1706 : f56 bp = some (.inl (cI G, 240, .inl (fun _ => 0))) := by rw [ef56, va_up_ne _ _ (hnew h1704 w55)]; exact h1704
          have h1707 : f27 bh = some (.inl (cZ G, 240, .inl (fun _ => 0))) := by rw [ef27, va_up_ne _ _ (hnew h20 w26)]; exact h20
          have n1709 : bh ≠ q25 := hnew h20 w26
          have h1708 : f29 bh = some (.inl (cZ G, 240, .inl (fun _ => 0))) := k53 _ _ h1707 (ninc n1709 nin0)
          have h1710 : f56 bh = some (.inl (cZ G, 240, .inl (fun _ => 0))) := by rw [ef56, va_up_ne _ _ (hnew h1708 w55)]; exact h1708
          have h1711 : f27 bf = some (.inl (cI G, 3, .inl (upd (upd (upd (fun _ => 0) (0 : Int32).toNatClampNeg 0) (1 : Int32).toNatClampNeg 1) (2 : Int32).toNatClampNeg 2))) := by rw [ef27, va_up_ne _ _ (hnew h21 w26)]; exact h21
          have n1713 : bf ≠ q25 := hnew h21 w26
          have h1712 : f29 bf = some (.inl (cI G, 3, .inl (upd (upd (upd (fun _ => 0) (0 : Int32).toNatClampNeg 0) (1 : Int32).toNatClampNeg 1) (2 : Int32).toNatClampNeg 2))) := k53 _ _ h1711 (ninc n1713 nin0)
          have h1714 : f56 bf = some (.inl (cI G, 3, .inl (upd (upd (upd (fun _ => 0) (0 : Int32).toNatClampNeg 0) (1 : Int32).toNatClampNeg 1) (2 : Int32).toNatClampNeg 2))) := by rw [ef56, va_up_ne _ _ (hnew h1712 w55)]; exact h1712
          have h1715 : f27 bl = some (.inl (cI G, 3, .inl (fun j => if j < 3 then (-1) else (fun _ => 0) j))) := by rw [ef27, va_up_ne _ _ (hnew h22 w26)]; exact h22
          have n1717 : bl ≠ q25 := hnew h22 w26
          have h1716 : f29 bl = some (.inl (cI G, 3, .inl (fun j => if j < 3 then (-1) else (fun _ => 0) j))) := k53 _ _ h1715 (ninc n1717 nin0)
          have h1718 : f56 bl = some (.inl (cI G, 3, .inl (fun j => if j < 3 then (-1) else (fun _ => 0) j))) := by rw [ef56, va_up_ne _ _ (hnew h1716 w55)]; exact h1716
          have h1719 : f27 bg = some (.inl (cI G, 60, .inl (fun _ => 0))) := by rw [ef27, va_up_ne _ _ (hnew h23 w26)]; exact h23
          have n1721 : bg ≠ q25 := hnew h23 w26
          have h1720 : f29 bg = some (.inl (cI G, 60, .inl (fun _ => 0))) := k53 _ _ h1719 (ninc n1721 nin0)
          have h1722 : f56 bg = some (.inl (cI G, 60, .inl (fun _ => 0))) := by rw [ef56, va_up_ne _ _ (hnew h1720 w55)]; exact h1720
          have n1723 : bp ≠ q54 := hnew h1704 w55
          have n1724 : bs ≠ q54 := hnew h1700 w55
          have n1725 : nq1 ≠ q54 := hnew h1688 w55
          have n1726 : nq0 ≠ q54 := hnew h1668 w55
          have n1727 : na1 ≠ q54 := hnew h1684 w55
          have n1728 : na0 ≠ q54 := hnew h1664 w55
          have n1729 : nw1 ≠ q54 := hnew h1680 w55
          have n1730 : nw0 ≠ q54 := hnew h1660 w55
          refine hp_SH (As := [.ref q1, .int (xs 1), .ref q54]) (rest := []) B0 hw hS (c_L_send hl G f56 q1 ez eo bu nw0 na0 nq0 nr0 nw1 na1 nq1 nr1 bs bp bh bf bl bg q54 ⟨h1654, h1658, h1662, h1666, h1670, h1674, h1678, h1682, h1686, h1690, h1694, h1698, h1702, h1706, h1710, h1714, h1718, h1722, n_wq0, n_wq1, n_sp⟩ (ninc (Ne.symm n1730) (ninc (Ne.symm n1729) (ninc (Ne.symm n1728) (ninc (Ne.symm n1727) (ninc (Ne.symm n1726) (ninc (Ne.symm n1725) (ninc (Ne.symm n1724) (ninc (Ne.symm n1723) nin0)))))))) h57 (xs 1)) mH_L_send qM_L_134 rfl rfl hl9.1 (Nat.le_of_ble_eq_true rfl) ⟨⟨Nat.le_of_ble_eq_true rfl, Nat.le_of_ble_eq_true rfl⟩, Nat.le_of_ble_eq_true rfl, Nat.le_of_ble_eq_true rfl⟩ dL_law_1063 (fun E ce q9 f1731 H locs hPX hw hS hce hcv hcl => ?_) (fun v f1731 H locs hP hw hS => ?_)
          · exact hPX.elim
          · obtain ⟨ev9, h1732, k1733⟩ := hP
            subst ev9
            refine W.eq (g2 := F0 m 1066 ls [.int (spc (sP (xs 1)) True)]) rfl ?_
            refine lv_istore (lv' := [(5, .int (spc (sP (xs 1)) True)), (4, .int 0), (3, .ref q54), (2, .ref q25), (1, .ref q1), (0, .ref b)]) hx hb dL_law_1066 hl9 (by decide) rfl (fun ls hl9 => ?_)
            refine lv_aload_n hx hb dL_law_1068 rfl (lv_at hl9 3 rfl) ?_
            refine lv_aload_n hx hb dL_law_1069 rfl (lv_at hl9 5 rfl) ?_
            refine lv_iload hx hb dL_law_1070 (lv_at hl9 1 rfl) ?_
            refine lv_iconst (v := 1) hx hb dL_law_1072 (by decide) ?_
            refine lv_iadd hx hb dL_law_1073 ?_
            refine hp_c (v := 1) (by decide) ?_
            refine va_sld hx hb hX hbl hbA hS (by unfold vp_in; decide) dL_law_1074 ?_
            refine hp_c (v := xs 1) rfl ?_
            have h1734 : f56 q25 = some (.inr (5, [.int 0, .ref dW, .ref dA, .ref dQ, .ref dM, .ref dS, .ref dL, .ref dR, .ref dT, .ref dZ, .ref dI, .ref dH, .ref dN, .ref dK, .ref dJ, .ref dU, .ref dO, .int 0, .int 0, .ref dF, .ref dP, .ref dE, .ref dX, .ref dY, .int 0, .int 0, .ref dG])) := by rw [ef56, va_up_ne _ _ (hnew h30 w55)]; exact h30
            have n1736 : q25 ≠ q54 := hnew h30 w55
            have h1735 : f1731 q25 = some (.inr (5, [.int 0, .ref dW, .ref dA, .ref dQ, .ref dM, .ref dS, .ref dL, .ref dR, .ref dT, .ref dZ, .ref dI, .ref dH, .ref dN, .ref dK, .ref dJ, .ref dU, .ref dO, .int 0, .int 0, .ref dF, .ref dP, .ref dE, .ref dX, .ref dY, .int 0, .int 0, .ref dG])) := k1733 _ _ h1734 (ninc (Ne.symm n1697) (ninc (Ne.symm n1701) (ninc (Ne.symm n1705) (ninc n1736 nin0))))
            have h1737 : f56 dF = some (.inl (cI G, 61, .inl (fun _ => 0))) := by rw [ef56, va_up_ne _ _ (hnew h47 w55)]; exact h47
            have n1739 : dF ≠ q54 := hnew h47 w55
            have n1740 : bp ≠ dF := hnew h1703 wdF
            have n1741 : bs ≠ dF := hnew h1699 wdF
            have n1742 : bu ≠ dF := hnew h1695 wdF
            have h1738 : f1731 dF = some (.inl (cI G, 61, .inl (fun _ => 0))) := k1733 _ _ h1737 (ninc (Ne.symm n1742) (ninc (Ne.symm n1741) (ninc (Ne.symm n1740) (ninc n1739 nin0))))
            have h1743 : f56 dP = some (.inl (cI G, 240, .inl (fun _ => 0))) := by rw [ef56, va_up_ne _ _ (hnew h48 w55)]; exact h48
            have n1745 : dP ≠ q54 := hnew h48 w55
            have n1746 : bp ≠ dP := hnew h1703 wdP
            have n1747 : bs ≠ dP := hnew h1699 wdP
            have n1748 : bu ≠ dP := hnew h1695 wdP
            have h1744 : f1731 dP = some (.inl (cI G, 240, .inl (fun _ => 0))) := k1733 _ _ h1743 (ninc (Ne.symm n1748) (ninc (Ne.symm n1747) (ninc (Ne.symm n1746) (ninc n1745 nin0))))
            refine hp_V (ci := 5) (As := [.int (xs 1)]) (rest := []) B0 hw hS (c_X5_send0 hl G f1731 q25 dW dA dQ dM dS dL dR dT dZ dI dH dN dK dJ dU dO dF dP dE dX dY dG 0 h1735 h1738 h1744 nd_dF_dP (xs 1)) mV_X5_send qM_L_136 rfl h1735 rfl rfl hl9.1 (Nat.le_of_ble_eq_true rfl) ⟨⟨Nat.le_of_ble_eq_true rfl, Nat.le_of_ble_eq_true rfl⟩, Nat.le_of_ble_eq_true rfl, Nat.le_of_ble_eq_true rfl⟩ dL_law_1075 (fun E ce q9 f1749 H locs hPX hw hS hce hcv hcl => ?_) (fun v f1749 H locs hP hw hS => ?_)
            · exact hPX.elim
            · obtain ⟨⟨r1750, ev9, h1751⟩, ⟨c1752, h1753⟩, k1754⟩ := hP
              subst ev9
              refine W.eq (g2 := F0 m 1078 ls [.int r1750]) rfl ?_
              refine lv_istore (lv' := [(6, .int r1750), (5, .int (spc (sP (xs 1)) True)), (4, .int 0), (3, .ref q54), (2, .ref q25), (1, .ref q1), (0, .ref b)]) hx hb dL_law_1078 hl9 (by decide) rfl (fun ls hl9 => ?_)
              refine lv_aload_n hx hb dL_law_1080 rfl (lv_at hl9 4 rfl) ?_
              refine hp_V (ci := 5) (As := []) (rest := []) B0 hw hS (c_X5_thrown hl G f1749 q25 (spc (sP (xs 1)) True) c1752 h1753) mV_X5_thrown qM_L_86 rfl h1753 rfl rfl hl9.1 (Nat.le_of_ble_eq_true rfl) ⟨⟨Nat.le_of_ble_eq_true rfl, Nat.le_of_ble_eq_true rfl⟩, Nat.le_of_ble_eq_true rfl, Nat.le_of_ble_eq_true rfl⟩ dL_law_1081 (fun E ce q9 f1755 H locs hPX hw hS hce hcv hcl => ?_) (fun v f1755 H locs hP hw hS => ?_)
              · exact hPX.elim
              · obtain ⟨ev9, ef9⟩ := hP
                rw [ef9] at hw
                subst ev9
                refine W.eq (g2 := F0 m 1084 ls [.int (spc (sP (xs 1)) True)]) rfl ?_
                refine lv_iload hx hb dL_law_1084 (lv_at hl9 1 rfl) ?_
                refine lv_icmp_eq (tgt := 1091) hx hb dL_law_1086 (by decide) (fun _ => ?_) (fun c9 => absurd rfl c9)
                refine lv_iload hx hb dL_law_1091 (lv_at hl9 1 rfl) ?_
                refine lv_if_ne (tgt := 1108) hx hb dL_law_1093 (by decide) (fun c1756 => ?_) (fun c1756 => ?_)
                · refine lv_goto (tgt := 1305) hx hb dL_law_1108 (by decide) ?_
                  refine lv_iinc (v := 4) (lv' := [(4, .int 4), (6, .int r1750), (5, .int (spc (sP (xs 1)) True)), (3, .ref q54), (2, .ref q25), (1, .ref q1), (0, .ref b)]) hx hb dL_law_1305 hl9 (k := 2) rfl (by decide) (by decide) rfl (fun ls hl9 => ?_)
                  refine lv_goto (tgt := 23) hx hb dL_law_1308 (by decide) ?_
                  refine lv_iload hx hb dL_law_23 (lv_at hl9 0 rfl) ?_
                  refine lv_aload_n hx hb dL_law_25 rfl (lv_at hl9 6 rfl) ?_
                  refine va_slen hx hb hX hbl hbA hS dL_law_26 ?_
                  refine hp_c (v := 4) rfl ?_
                  refine lv_iconst (v := 4) hx hb dL_law_27 (by decide) ?_
                  refine lv_isub hx hb dL_law_28 ?_
                  refine hp_c (v := 0) (by decide) ?_
                  refine lv_icmp_gt (tgt := 1311) hx hb dL_law_29 (by decide) (fun _ => ?_) (fun c9 => absurd (by decide) c9)
                  refine lv_iconst (v := 1) hx hb dL_law_1311 (by decide) ?_
                  refine va_forget (fun q hq => hFs _ (hS.2.2 q hq)) ?_
                  refine W.widen (k := 600002) (n := 7302232) (Nat.le_of_ble_eq_true rfl) (Nat.le_of_ble_eq_true rfl) ?_
                  exact lw_ret hx hb hr hlocks dL_law_1312
                · refine lv_aload_n hx hb dL_law_1096 rfl (lv_at hl9 3 rfl) ?_
                  refine lv_iconst (v := 0) hx hb dL_law_1097 (by decide) ?_
                  have h1757 : f1731 q54 = some (.inl (cJ G, 1, .inr (.inl (vp_updL (fun _ => 0) (0 : Int32).toNatClampNeg ((0 : Int32).toInt64))))) := h1732 c1756
                  have h1758 : f1749 q54 = some (.inl (cJ G, 1, .inr (.inl (vp_updL (fun _ => 0) (0 : Int32).toNatClampNeg ((0 : Int32).toInt64))))) := k1754 _ _ h1757 (ninc (Ne.symm n1736) (ninc (Ne.symm n1739) (ninc (Ne.symm n1745) nin0)))
                  refine hp_lald B0 hw h1758 (by unfold vp_in; decide) dL_law_1098 ?_
                  refine lv_iload hx hb dL_law_1099 (lv_at hl9 0 rfl) ?_
                  refine lv_i2l (v := (r1750 : Int32).toInt64) hx hb dL_law_1101 rfl ?_
                  refine W.lcmp hx hb dL_law_1102 ?_
                  refine lv_if_eq (tgt := 1108) hx hb dL_law_1103 (by decide) (fun _ => ?_) (fun c9 => absurd (lg_eq0 (by have h9 := h1751 c1756; subst h9; rfl)) c9)
                  refine lv_goto (tgt := 1305) hx hb dL_law_1108 (by decide) ?_
                  refine lv_iinc (v := 4) (lv' := [(4, .int 4), (6, .int r1750), (5, .int (spc (sP (xs 1)) True)), (3, .ref q54), (2, .ref q25), (1, .ref q1), (0, .ref b)]) hx hb dL_law_1305 hl9 (k := 2) rfl (by decide) (by decide) rfl (fun ls hl9 => ?_)
                  refine lv_goto (tgt := 23) hx hb dL_law_1308 (by decide) ?_
                  refine lv_iload hx hb dL_law_23 (lv_at hl9 0 rfl) ?_
                  refine lv_aload_n hx hb dL_law_25 rfl (lv_at hl9 6 rfl) ?_
                  refine va_slen hx hb hX hbl hbA hS dL_law_26 ?_
                  refine hp_c (v := 4) rfl ?_
                  refine lv_iconst (v := 4) hx hb dL_law_27 (by decide) ?_
                  refine lv_isub hx hb dL_law_28 ?_
                  refine hp_c (v := 0) (by decide) ?_
                  refine lv_icmp_gt (tgt := 1311) hx hb dL_law_29 (by decide) (fun _ => ?_) (fun c9 => absurd (by decide) c9)
                  refine lv_iconst (v := 1) hx hb dL_law_1311 (by decide) ?_
                  refine va_forget (fun q hq => hFs _ (hS.2.2 q hq)) ?_
                  refine W.widen (k := 600002) (n := 7302232) (Nat.le_of_ble_eq_true rfl) (Nat.le_of_ble_eq_true rfl) ?_
                  exact lw_ret hx hb hr hlocks dL_law_1312
        · refine lv_tableIn (off := 1072) (tgt := 1111) hx hb dL_law_39 (by decide) (by decide) (by decide) (by decide) ?_
          refine lv_aload_n hx hb dL_law_1111 rfl (lv_at hl9 3 rfl) ?_
          refine lv_aload_n hx hb dL_law_1112 rfl (lv_at hl9 4 rfl) ?_
          refine lv_iload hx hb dL_law_1113 (lv_at hl9 0 rfl) ?_
          refine lv_iconst (v := 1) hx hb dL_law_1115 (by decide) ?_
          refine lv_iadd hx hb dL_law_1116 ?_
          refine hp_c (v := 1) (by decide) ?_
          refine va_sld hx hb hX hbl hbA hS (by unfold vp_in; decide) dL_law_1117 ?_
          refine hp_c (v := xs 1) rfl ?_
          refine lv_aload_n hx hb dL_law_1118 rfl (lv_at hl9 1 rfl) ?_
          have h1759 : f27 q1 = some (.inr (4, [.ref ez, .ref eo, .ref bu])) := by rw [ef27, va_up_ne _ _ (hnew h6 w26)]; exact h6
          have n1761 : q1 ≠ q25 := hnew h6 w26
          have h1760 : f29 q1 = some (.inr (4, [.ref ez, .ref eo, .ref bu])) := k53 _ _ h1759 (ninc n1761 nin0)
          have h1762 : f56 q1 = some (.inr (4, [.ref ez, .ref eo, .ref bu])) := by rw [ef56, va_up_ne _ _ (hnew h1760 w55)]; exact h1760
          have h1763 : f27 ez = some (.inr (1, [.ref nw0, .ref na0, .ref nq0, .ref nr0, .int 1, .int 0, .int 0, .int 0, .int (-1), .int 0, .int 0])) := by rw [ef27, va_up_ne _ _ (hnew h7 w26)]; exact h7
          have n1765 : ez ≠ q25 := hnew h7 w26
          have h1764 : f29 ez = some (.inr (1, [.ref nw0, .ref na0, .ref nq0, .ref nr0, .int 1, .int 0, .int 0, .int 0, .int (-1), .int 0, .int 0])) := k53 _ _ h1763 (ninc n1765 nin0)
          have h1766 : f56 ez = some (.inr (1, [.ref nw0, .ref na0, .ref nq0, .ref nr0, .int 1, .int 0, .int 0, .int 0, .int (-1), .int 0, .int 0])) := by rw [ef56, va_up_ne _ _ (hnew h1764 w55)]; exact h1764
          have h1767 : f27 nw0 = some (.inl (cI G, 6, .inl (fun j => if j < 6 then (-1) else (fun _ => 0) j))) := by rw [ef27, va_up_ne _ _ (hnew h8 w26)]; exact h8
          have n1769 : nw0 ≠ q25 := hnew h8 w26
          have h1768 : f29 nw0 = some (.inl (cI G, 6, .inl (fun j => if j < 6 then (-1) else (fun _ => 0) j))) := k53 _ _ h1767 (ninc n1769 nin0)
          have h1770 : f56 nw0 = some (.inl (cI G, 6, .inl (fun j => if j < 6 then (-1) else (fun _ => 0) j))) := by rw [ef56, va_up_ne _ _ (hnew h1768 w55)]; exact h1768
          have h1771 : f27 na0 = some (.inl (cI G, 6, .inl (fun _ => 0))) := by rw [ef27, va_up_ne _ _ (hnew h9 w26)]; exact h9
          have n1773 : na0 ≠ q25 := hnew h9 w26
          have h1772 : f29 na0 = some (.inl (cI G, 6, .inl (fun _ => 0))) := k53 _ _ h1771 (ninc n1773 nin0)
          have h1774 : f56 na0 = some (.inl (cI G, 6, .inl (fun _ => 0))) := by rw [ef56, va_up_ne _ _ (hnew h1772 w55)]; exact h1772
          have h1775 : f27 nq0 = some (.inl (cI G, 6, .inl (fun j => if j < 6 then (-1) else (fun _ => 0) j))) := by rw [ef27, va_up_ne _ _ (hnew h10 w26)]; exact h10
          have n1777 : nq0 ≠ q25 := hnew h10 w26
          have h1776 : f29 nq0 = some (.inl (cI G, 6, .inl (fun j => if j < 6 then (-1) else (fun _ => 0) j))) := k53 _ _ h1775 (ninc n1777 nin0)
          have h1778 : f56 nq0 = some (.inl (cI G, 6, .inl (fun j => if j < 6 then (-1) else (fun _ => 0) j))) := by rw [ef56, va_up_ne _ _ (hnew h1776 w55)]; exact h1776
          have h1779 : f27 nr0 = some (.inr (3, [.null, .null, .int 0])) := by rw [ef27, va_up_ne _ _ (hnew h11 w26)]; exact h11
          have n1781 : nr0 ≠ q25 := hnew h11 w26
          have h1780 : f29 nr0 = some (.inr (3, [.null, .null, .int 0])) := k53 _ _ h1779 (ninc n1781 nin0)
          have h1782 : f56 nr0 = some (.inr (3, [.null, .null, .int 0])) := by rw [ef56, va_up_ne _ _ (hnew h1780 w55)]; exact h1780
          have h1783 : f27 eo = some (.inr (1, [.ref nw1, .ref na1, .ref nq1, .ref nr1, .int 2, .int 0, .int 0, .int 0, .int (-1), .int 0, .int 0])) := by rw [ef27, va_up_ne _ _ (hnew h12 w26)]; exact h12
          have n1785 : eo ≠ q25 := hnew h12 w26
          have h1784 : f29 eo = some (.inr (1, [.ref nw1, .ref na1, .ref nq1, .ref nr1, .int 2, .int 0, .int 0, .int 0, .int (-1), .int 0, .int 0])) := k53 _ _ h1783 (ninc n1785 nin0)
          have h1786 : f56 eo = some (.inr (1, [.ref nw1, .ref na1, .ref nq1, .ref nr1, .int 2, .int 0, .int 0, .int 0, .int (-1), .int 0, .int 0])) := by rw [ef56, va_up_ne _ _ (hnew h1784 w55)]; exact h1784
          have h1787 : f27 nw1 = some (.inl (cI G, 6, .inl (fun j => if j < 6 then (-1) else (fun _ => 0) j))) := by rw [ef27, va_up_ne _ _ (hnew h13 w26)]; exact h13
          have n1789 : nw1 ≠ q25 := hnew h13 w26
          have h1788 : f29 nw1 = some (.inl (cI G, 6, .inl (fun j => if j < 6 then (-1) else (fun _ => 0) j))) := k53 _ _ h1787 (ninc n1789 nin0)
          have h1790 : f56 nw1 = some (.inl (cI G, 6, .inl (fun j => if j < 6 then (-1) else (fun _ => 0) j))) := by rw [ef56, va_up_ne _ _ (hnew h1788 w55)]; exact h1788
          have h1791 : f27 na1 = some (.inl (cI G, 6, .inl (fun _ => 0))) := by rw [ef27, va_up_ne _ _ (hnew h14 w26)]; exact h14
          have n1793 : na1 ≠ q25 := hnew h14 w26
          have h1792 : f29 na1 = some (.inl (cI G, 6, .inl (fun _ => 0))) := k53 _ _ h1791 (ninc n1793 nin0)
          have h1794 : f56 na1 = some (.inl (cI G, 6, .inl (fun _ => 0))) := by rw [ef56, va_up_ne _ _ (hnew h1792 w55)]; exact h1792
          have h1795 : f27 nq1 = some (.inl (cI G, 6, .inl (fun j => if j < 6 then (-1) else (fun _ => 0) j))) := by rw [ef27, va_up_ne _ _ (hnew h15 w26)]; exact h15
          have n1797 : nq1 ≠ q25 := hnew h15 w26
          have h1796 : f29 nq1 = some (.inl (cI G, 6, .inl (fun j => if j < 6 then (-1) else (fun _ => 0) j))) := k53 _ _ h1795 (ninc n1797 nin0)
          have h1798 : f56 nq1 = some (.inl (cI G, 6, .inl (fun j => if j < 6 then (-1) else (fun _ => 0) j))) := by rw [ef56, va_up_ne _ _ (hnew h1796 w55)]; exact h1796
          have h1799 : f27 nr1 = some (.inr (3, [.null, .null, .int 0])) := by rw [ef27, va_up_ne _ _ (hnew h16 w26)]; exact h16
          have n1801 : nr1 ≠ q25 := hnew h16 w26
          have h1800 : f29 nr1 = some (.inr (3, [.null, .null, .int 0])) := k53 _ _ h1799 (ninc n1801 nin0)
          have h1802 : f56 nr1 = some (.inr (3, [.null, .null, .int 0])) := by rw [ef56, va_up_ne _ _ (hnew h1800 w55)]; exact h1800
          have h1803 : f27 bu = some (.inr (0, [.ref bs, .ref bp, .ref bh, .ref bf, .ref bl, .ref bg, .int 0, .int 0, .int 0])) := by rw [ef27, va_up_ne _ _ (hnew h17 w26)]; exact h17
          have n1805 : bu ≠ q25 := hnew h17 w26
          have h1804 : f29 bu = some (.inr (0, [.ref bs, .ref bp, .ref bh, .ref bf, .ref bl, .ref bg, .int 0, .int 0, .int 0])) := k53 _ _ h1803 (ninc n1805 nin0)
          have h1806 : f56 bu = some (.inr (0, [.ref bs, .ref bp, .ref bh, .ref bf, .ref bl, .ref bg, .int 0, .int 0, .int 0])) := by rw [ef56, va_up_ne _ _ (hnew h1804 w55)]; exact h1804
          have h1807 : f27 bs = some (.inl (cI G, 61, .inl (fun _ => 0))) := by rw [ef27, va_up_ne _ _ (hnew h18 w26)]; exact h18
          have n1809 : bs ≠ q25 := hnew h18 w26
          have h1808 : f29 bs = some (.inl (cI G, 61, .inl (fun _ => 0))) := k53 _ _ h1807 (ninc n1809 nin0)
          have h1810 : f56 bs = some (.inl (cI G, 61, .inl (fun _ => 0))) := by rw [ef56, va_up_ne _ _ (hnew h1808 w55)]; exact h1808
          have h1811 : f27 bp = some (.inl (cI G, 240, .inl (fun _ => 0))) := by rw [ef27, va_up_ne _ _ (hnew h19 w26)]; exact h19
          have n1813 : bp ≠ q25 := hnew h19 w26
          have h1812 : f29 bp = some (.inl (cI G, 240, .inl (fun _ => 0))) := k53 _ _ h1811 (ninc n1813 nin0)
          have h1814 : f56 bp = some (.inl (cI G, 240, .inl (fun _ => 0))) := by rw [ef56, va_up_ne _ _ (hnew h1812 w55)]; exact h1812
          have h1815 : f27 bh = some (.inl (cZ G, 240, .inl (fun _ => 0))) := by rw [ef27, va_up_ne _ _ (hnew h20 w26)]; exact h20
          have n1817 : bh ≠ q25 := hnew h20 w26
          have h1816 : f29 bh = some (.inl (cZ G, 240, .inl (fun _ => 0))) := k53 _ _ h1815 (ninc n1817 nin0)
          have h1818 : f56 bh = some (.inl (cZ G, 240, .inl (fun _ => 0))) := by rw [ef56, va_up_ne _ _ (hnew h1816 w55)]; exact h1816
          have h1819 : f27 bf = some (.inl (cI G, 3, .inl (upd (upd (upd (fun _ => 0) (0 : Int32).toNatClampNeg 0) (1 : Int32).toNatClampNeg 1) (2 : Int32).toNatClampNeg 2))) := by rw [ef27, va_up_ne _ _ (hnew h21 w26)]; exact h21
          have n1821 : bf ≠ q25 := hnew h21 w26
          have h1820 : f29 bf = some (.inl (cI G, 3, .inl (upd (upd (upd (fun _ => 0) (0 : Int32).toNatClampNeg 0) (1 : Int32).toNatClampNeg 1) (2 : Int32).toNatClampNeg 2))) := k53 _ _ h1819 (ninc n1821 nin0)
          have h1822 : f56 bf = some (.inl (cI G, 3, .inl (upd (upd (upd (fun _ => 0) (0 : Int32).toNatClampNeg 0) (1 : Int32).toNatClampNeg 1) (2 : Int32).toNatClampNeg 2))) := by rw [ef56, va_up_ne _ _ (hnew h1820 w55)]; exact h1820
          have h1823 : f27 bl = some (.inl (cI G, 3, .inl (fun j => if j < 3 then (-1) else (fun _ => 0) j))) := by rw [ef27, va_up_ne _ _ (hnew h22 w26)]; exact h22
          have n1825 : bl ≠ q25 := hnew h22 w26
          have h1824 : f29 bl = some (.inl (cI G, 3, .inl (fun j => if j < 3 then (-1) else (fun _ => 0) j))) := k53 _ _ h1823 (ninc n1825 nin0)
          have h1826 : f56 bl = some (.inl (cI G, 3, .inl (fun j => if j < 3 then (-1) else (fun _ => 0) j))) := by rw [ef56, va_up_ne _ _ (hnew h1824 w55)]; exact h1824
          have h1827 : f27 bg = some (.inl (cI G, 60, .inl (fun _ => 0))) := by rw [ef27, va_up_ne _ _ (hnew h23 w26)]; exact h23
          have n1829 : bg ≠ q25 := hnew h23 w26
          have h1828 : f29 bg = some (.inl (cI G, 60, .inl (fun _ => 0))) := k53 _ _ h1827 (ninc n1829 nin0)
          have h1830 : f56 bg = some (.inl (cI G, 60, .inl (fun _ => 0))) := by rw [ef56, va_up_ne _ _ (hnew h1828 w55)]; exact h1828
          have n1831 : bp ≠ q54 := hnew h1812 w55
          have n1832 : bs ≠ q54 := hnew h1808 w55
          have n1833 : nq1 ≠ q54 := hnew h1796 w55
          have n1834 : nq0 ≠ q54 := hnew h1776 w55
          have n1835 : na1 ≠ q54 := hnew h1792 w55
          have n1836 : na0 ≠ q54 := hnew h1772 w55
          have n1837 : nw1 ≠ q54 := hnew h1788 w55
          have n1838 : nw0 ≠ q54 := hnew h1768 w55
          refine hp_SH (As := [.ref q1, .int (xs 1), .ref q54]) (rest := []) B0 hw hS (c_L_come hl G f56 q1 ez eo bu nw0 na0 nq0 nr0 nw1 na1 nq1 nr1 bs bp bh bf bl bg q54 ⟨h1762, h1766, h1770, h1774, h1778, h1782, h1786, h1790, h1794, h1798, h1802, h1806, h1810, h1814, h1818, h1822, h1826, h1830, n_wq0, n_wq1, n_sp⟩ (ninc (Ne.symm n1838) (ninc (Ne.symm n1837) (ninc (Ne.symm n1836) (ninc (Ne.symm n1835) (ninc (Ne.symm n1834) (ninc (Ne.symm n1833) (ninc (Ne.symm n1832) (ninc (Ne.symm n1831) nin0)))))))) h57 (xs 1)) mH_L_come qM_L_137 rfl rfl hl9.1 (Nat.le_of_ble_eq_true rfl) ⟨⟨Nat.le_of_ble_eq_true rfl, Nat.le_of_ble_eq_true rfl⟩, Nat.le_of_ble_eq_true rfl, Nat.le_of_ble_eq_true rfl⟩ dL_law_1119 (fun E ce q9 f1839 H locs hPX hw hS hce hcv hcl => ?_) (fun v f1839 H locs hP hw hS => ?_)
          · exact hPX.elim
          · obtain ⟨ev9, h1840, k1841⟩ := hP
            subst ev9
            refine W.eq (g2 := F0 m 1122 ls [.int (spc (sL (xs 1)) False)]) rfl ?_
            refine lv_istore (lv' := [(5, .int (spc (sL (xs 1)) False)), (4, .int 0), (3, .ref q54), (2, .ref q25), (1, .ref q1), (0, .ref b)]) hx hb dL_law_1122 hl9 (by decide) rfl (fun ls hl9 => ?_)
            refine lv_aload_n hx hb dL_law_1124 rfl (lv_at hl9 3 rfl) ?_
            refine lv_aload_n hx hb dL_law_1125 rfl (lv_at hl9 5 rfl) ?_
            refine lv_iload hx hb dL_law_1126 (lv_at hl9 1 rfl) ?_
            refine lv_iconst (v := 1) hx hb dL_law_1128 (by decide) ?_
            refine lv_iadd hx hb dL_law_1129 ?_
            refine hp_c (v := 1) (by decide) ?_
            refine va_sld hx hb hX hbl hbA hS (by unfold vp_in; decide) dL_law_1130 ?_
            refine hp_c (v := xs 1) rfl ?_
            have h1842 : f56 q25 = some (.inr (5, [.int 0, .ref dW, .ref dA, .ref dQ, .ref dM, .ref dS, .ref dL, .ref dR, .ref dT, .ref dZ, .ref dI, .ref dH, .ref dN, .ref dK, .ref dJ, .ref dU, .ref dO, .int 0, .int 0, .ref dF, .ref dP, .ref dE, .ref dX, .ref dY, .int 0, .int 0, .ref dG])) := by rw [ef56, va_up_ne _ _ (hnew h30 w55)]; exact h30
            have n1844 : q25 ≠ q54 := hnew h30 w55
            have h1843 : f1839 q25 = some (.inr (5, [.int 0, .ref dW, .ref dA, .ref dQ, .ref dM, .ref dS, .ref dL, .ref dR, .ref dT, .ref dZ, .ref dI, .ref dH, .ref dN, .ref dK, .ref dJ, .ref dU, .ref dO, .int 0, .int 0, .ref dF, .ref dP, .ref dE, .ref dX, .ref dY, .int 0, .int 0, .ref dG])) := k1841 _ _ h1842 (ninc n1844 nin0)
            have h1845 : f56 dX = some (.inl (cI G, 3, .inl (mA3 0 1 2))) := by rw [ef56, va_up_ne _ _ (hnew h50 w55)]; exact h50
            have n1847 : dX ≠ q54 := hnew h50 w55
            have h1846 : f1839 dX = some (.inl (cI G, 3, .inl (mA3 0 1 2))) := k1841 _ _ h1845 (ninc n1847 nin0)
            refine hp_V (ci := 5) (As := [.int (xs 1)]) (rest := []) B0 hw hS (c_X5_come0 hl G f1839 q25 dW dA dQ dM dS dL dR dT dZ dI dH dN dK dJ dU dO dF dP dE dX dY dG 0 h1843 h1846  (xs 1)) mV_X5_come qM_L_139 rfl h1843 rfl rfl hl9.1 (Nat.le_of_ble_eq_true rfl) ⟨⟨Nat.le_of_ble_eq_true rfl, Nat.le_of_ble_eq_true rfl⟩, Nat.le_of_ble_eq_true rfl, Nat.le_of_ble_eq_true rfl⟩ dL_law_1131 (fun E ce q9 f1848 H locs hPX hw hS hce hcv hcl => ?_) (fun v f1848 H locs hP hw hS => ?_)
            · exact hPX.elim
            · obtain ⟨⟨r1849, ev9, h1850⟩, ⟨c1851, h1852⟩, k1853⟩ := hP
              subst ev9
              refine W.eq (g2 := F0 m 1134 ls [.int r1849]) rfl ?_
              refine lv_istore (lv' := [(6, .int r1849), (5, .int (spc (sL (xs 1)) False)), (4, .int 0), (3, .ref q54), (2, .ref q25), (1, .ref q1), (0, .ref b)]) hx hb dL_law_1134 hl9 (by decide) rfl (fun ls hl9 => ?_)
              refine lv_aload_n hx hb dL_law_1136 rfl (lv_at hl9 4 rfl) ?_
              refine hp_V (ci := 5) (As := []) (rest := []) B0 hw hS (c_X5_thrown hl G f1848 q25 (spc (sL (xs 1)) False) c1851 h1852) mV_X5_thrown qM_L_86 rfl h1852 rfl rfl hl9.1 (Nat.le_of_ble_eq_true rfl) ⟨⟨Nat.le_of_ble_eq_true rfl, Nat.le_of_ble_eq_true rfl⟩, Nat.le_of_ble_eq_true rfl, Nat.le_of_ble_eq_true rfl⟩ dL_law_1137 (fun E ce q9 f1854 H locs hPX hw hS hce hcv hcl => ?_) (fun v f1854 H locs hP hw hS => ?_)
              · exact hPX.elim
              · obtain ⟨ev9, ef9⟩ := hP
                rw [ef9] at hw
                subst ev9
                refine W.eq (g2 := F0 m 1140 ls [.int (spc (sL (xs 1)) False)]) rfl ?_
                refine lv_iload hx hb dL_law_1140 (lv_at hl9 1 rfl) ?_
                refine lv_icmp_eq (tgt := 1147) hx hb dL_law_1142 (by decide) (fun _ => ?_) (fun c9 => absurd rfl c9)
                refine lv_iload hx hb dL_law_1147 (lv_at hl9 1 rfl) ?_
                refine lv_if_ne (tgt := 1164) hx hb dL_law_1149 (by decide) (fun _ => ?_) (fun c9 => absurd c9 spc_F)
                refine lv_goto (tgt := 1305) hx hb dL_law_1164 (by decide) ?_
                refine lv_iinc (v := 4) (lv' := [(4, .int 4), (6, .int r1849), (5, .int (spc (sL (xs 1)) False)), (3, .ref q54), (2, .ref q25), (1, .ref q1), (0, .ref b)]) hx hb dL_law_1305 hl9 (k := 2) rfl (by decide) (by decide) rfl (fun ls hl9 => ?_)
                refine lv_goto (tgt := 23) hx hb dL_law_1308 (by decide) ?_
                refine lv_iload hx hb dL_law_23 (lv_at hl9 0 rfl) ?_
                refine lv_aload_n hx hb dL_law_25 rfl (lv_at hl9 6 rfl) ?_
                refine va_slen hx hb hX hbl hbA hS dL_law_26 ?_
                refine hp_c (v := 4) rfl ?_
                refine lv_iconst (v := 4) hx hb dL_law_27 (by decide) ?_
                refine lv_isub hx hb dL_law_28 ?_
                refine hp_c (v := 0) (by decide) ?_
                refine lv_icmp_gt (tgt := 1311) hx hb dL_law_29 (by decide) (fun _ => ?_) (fun c9 => absurd (by decide) c9)
                refine lv_iconst (v := 1) hx hb dL_law_1311 (by decide) ?_
                refine va_forget (fun q hq => hFs _ (hS.2.2 q hq)) ?_
                refine W.widen (k := 600002) (n := 7302232) (Nat.le_of_ble_eq_true rfl) (Nat.le_of_ble_eq_true rfl) ?_
                exact lw_ret hx hb hr hlocks dL_law_1312
        · refine lv_tableIn (off := 1128) (tgt := 1167) hx hb dL_law_39 (by decide) (by decide) (by decide) (by decide) ?_
          refine lv_aload_n hx hb dL_law_1167 rfl (lv_at hl9 3 rfl) ?_
          refine lv_aload_n hx hb dL_law_1168 rfl (lv_at hl9 4 rfl) ?_
          refine lv_iload hx hb dL_law_1169 (lv_at hl9 0 rfl) ?_
          refine lv_iconst (v := 1) hx hb dL_law_1171 (by decide) ?_
          refine lv_iadd hx hb dL_law_1172 ?_
          refine hp_c (v := 1) (by decide) ?_
          refine va_sld hx hb hX hbl hbA hS (by unfold vp_in; decide) dL_law_1173 ?_
          refine hp_c (v := xs 1) rfl ?_
          refine lv_aload_n hx hb dL_law_1174 rfl (lv_at hl9 1 rfl) ?_
          have h1855 : f27 q1 = some (.inr (4, [.ref ez, .ref eo, .ref bu])) := by rw [ef27, va_up_ne _ _ (hnew h6 w26)]; exact h6
          have n1857 : q1 ≠ q25 := hnew h6 w26
          have h1856 : f29 q1 = some (.inr (4, [.ref ez, .ref eo, .ref bu])) := k53 _ _ h1855 (ninc n1857 nin0)
          have h1858 : f56 q1 = some (.inr (4, [.ref ez, .ref eo, .ref bu])) := by rw [ef56, va_up_ne _ _ (hnew h1856 w55)]; exact h1856
          have h1859 : f27 ez = some (.inr (1, [.ref nw0, .ref na0, .ref nq0, .ref nr0, .int 1, .int 0, .int 0, .int 0, .int (-1), .int 0, .int 0])) := by rw [ef27, va_up_ne _ _ (hnew h7 w26)]; exact h7
          have n1861 : ez ≠ q25 := hnew h7 w26
          have h1860 : f29 ez = some (.inr (1, [.ref nw0, .ref na0, .ref nq0, .ref nr0, .int 1, .int 0, .int 0, .int 0, .int (-1), .int 0, .int 0])) := k53 _ _ h1859 (ninc n1861 nin0)
          have h1862 : f56 ez = some (.inr (1, [.ref nw0, .ref na0, .ref nq0, .ref nr0, .int 1, .int 0, .int 0, .int 0, .int (-1), .int 0, .int 0])) := by rw [ef56, va_up_ne _ _ (hnew h1860 w55)]; exact h1860
          have h1863 : f27 nw0 = some (.inl (cI G, 6, .inl (fun j => if j < 6 then (-1) else (fun _ => 0) j))) := by rw [ef27, va_up_ne _ _ (hnew h8 w26)]; exact h8
          have n1865 : nw0 ≠ q25 := hnew h8 w26
          have h1864 : f29 nw0 = some (.inl (cI G, 6, .inl (fun j => if j < 6 then (-1) else (fun _ => 0) j))) := k53 _ _ h1863 (ninc n1865 nin0)
          have h1866 : f56 nw0 = some (.inl (cI G, 6, .inl (fun j => if j < 6 then (-1) else (fun _ => 0) j))) := by rw [ef56, va_up_ne _ _ (hnew h1864 w55)]; exact h1864
          have h1867 : f27 na0 = some (.inl (cI G, 6, .inl (fun _ => 0))) := by rw [ef27, va_up_ne _ _ (hnew h9 w26)]; exact h9
          have n1869 : na0 ≠ q25 := hnew h9 w26
          have h1868 : f29 na0 = some (.inl (cI G, 6, .inl (fun _ => 0))) := k53 _ _ h1867 (ninc n1869 nin0)
          have h1870 : f56 na0 = some (.inl (cI G, 6, .inl (fun _ => 0))) := by rw [ef56, va_up_ne _ _ (hnew h1868 w55)]; exact h1868
          have h1871 : f27 nq0 = some (.inl (cI G, 6, .inl (fun j => if j < 6 then (-1) else (fun _ => 0) j))) := by rw [ef27, va_up_ne _ _ (hnew h10 w26)]; exact h10
          have n1873 : nq0 ≠ q25 := hnew h10 w26
          have h1872 : f29 nq0 = some (.inl (cI G, 6, .inl (fun j => if j < 6 then (-1) else (fun _ => 0) j))) := k53 _ _ h1871 (ninc n1873 nin0)
          have h1874 : f56 nq0 = some (.inl (cI G, 6, .inl (fun j => if j < 6 then (-1) else (fun _ => 0) j))) := by rw [ef56, va_up_ne _ _ (hnew h1872 w55)]; exact h1872
          have h1875 : f27 nr0 = some (.inr (3, [.null, .null, .int 0])) := by rw [ef27, va_up_ne _ _ (hnew h11 w26)]; exact h11
          have n1877 : nr0 ≠ q25 := hnew h11 w26
          have h1876 : f29 nr0 = some (.inr (3, [.null, .null, .int 0])) := k53 _ _ h1875 (ninc n1877 nin0)
          have h1878 : f56 nr0 = some (.inr (3, [.null, .null, .int 0])) := by rw [ef56, va_up_ne _ _ (hnew h1876 w55)]; exact h1876
          have h1879 : f27 eo = some (.inr (1, [.ref nw1, .ref na1, .ref nq1, .ref nr1, .int 2, .int 0, .int 0, .int 0, .int (-1), .int 0, .int 0])) := by rw [ef27, va_up_ne _ _ (hnew h12 w26)]; exact h12
          have n1881 : eo ≠ q25 := hnew h12 w26
          have h1880 : f29 eo = some (.inr (1, [.ref nw1, .ref na1, .ref nq1, .ref nr1, .int 2, .int 0, .int 0, .int 0, .int (-1), .int 0, .int 0])) := k53 _ _ h1879 (ninc n1881 nin0)
          have h1882 : f56 eo = some (.inr (1, [.ref nw1, .ref na1, .ref nq1, .ref nr1, .int 2, .int 0, .int 0, .int 0, .int (-1), .int 0, .int 0])) := by rw [ef56, va_up_ne _ _ (hnew h1880 w55)]; exact h1880
          have h1883 : f27 nw1 = some (.inl (cI G, 6, .inl (fun j => if j < 6 then (-1) else (fun _ => 0) j))) := by rw [ef27, va_up_ne _ _ (hnew h13 w26)]; exact h13
          have n1885 : nw1 ≠ q25 := hnew h13 w26
          have h1884 : f29 nw1 = some (.inl (cI G, 6, .inl (fun j => if j < 6 then (-1) else (fun _ => 0) j))) := k53 _ _ h1883 (ninc n1885 nin0)
          have h1886 : f56 nw1 = some (.inl (cI G, 6, .inl (fun j => if j < 6 then (-1) else (fun _ => 0) j))) := by rw [ef56, va_up_ne _ _ (hnew h1884 w55)]; exact h1884
          have h1887 : f27 na1 = some (.inl (cI G, 6, .inl (fun _ => 0))) := by rw [ef27, va_up_ne _ _ (hnew h14 w26)]; exact h14
          have n1889 : na1 ≠ q25 := hnew h14 w26
          have h1888 : f29 na1 = some (.inl (cI G, 6, .inl (fun _ => 0))) := k53 _ _ h1887 (ninc n1889 nin0)
          have h1890 : f56 na1 = some (.inl (cI G, 6, .inl (fun _ => 0))) := by rw [ef56, va_up_ne _ _ (hnew h1888 w55)]; exact h1888
          have h1891 : f27 nq1 = some (.inl (cI G, 6, .inl (fun j => if j < 6 then (-1) else (fun _ => 0) j))) := by rw [ef27, va_up_ne _ _ (hnew h15 w26)]; exact h15
          have n1893 : nq1 ≠ q25 := hnew h15 w26
          have h1892 : f29 nq1 = some (.inl (cI G, 6, .inl (fun j => if j < 6 then (-1) else (fun _ => 0) j))) := k53 _ _ h1891 (ninc n1893 nin0)
          have h1894 : f56 nq1 = some (.inl (cI G, 6, .inl (fun j => if j < 6 then (-1) else (fun _ => 0) j))) := by rw [ef56, va_up_ne _ _ (hnew h1892 w55)]; exact h1892
          have h1895 : f27 nr1 = some (.inr (3, [.null, .null, .int 0])) := by rw [ef27, va_up_ne _ _ (hnew h16 w26)]; exact h16
          have n1897 : nr1 ≠ q25 := hnew h16 w26
          have h1896 : f29 nr1 = some (.inr (3, [.null, .null, .int 0])) := k53 _ _ h1895 (ninc n1897 nin0)
          have h1898 : f56 nr1 = some (.inr (3, [.null, .null, .int 0])) := by rw [ef56, va_up_ne _ _ (hnew h1896 w55)]; exact h1896
          have h1899 : f27 bu = some (.inr (0, [.ref bs, .ref bp, .ref bh, .ref bf, .ref bl, .ref bg, .int 0, .int 0, .int 0])) := by rw [ef27, va_up_ne _ _ (hnew h17 w26)]; exact h17
          have n1901 : bu ≠ q25 := hnew h17 w26
          have h1900 : f29 bu = some (.inr (0, [.ref bs, .ref bp, .ref bh, .ref bf, .ref bl, .ref bg, .int 0, .int 0, .int 0])) := k53 _ _ h1899 (ninc n1901 nin0)
          have h1902 : f56 bu = some (.inr (0, [.ref bs, .ref bp, .ref bh, .ref bf, .ref bl, .ref bg, .int 0, .int 0, .int 0])) := by rw [ef56, va_up_ne _ _ (hnew h1900 w55)]; exact h1900
          have h1903 : f27 bs = some (.inl (cI G, 61, .inl (fun _ => 0))) := by rw [ef27, va_up_ne _ _ (hnew h18 w26)]; exact h18
          have n1905 : bs ≠ q25 := hnew h18 w26
          have h1904 : f29 bs = some (.inl (cI G, 61, .inl (fun _ => 0))) := k53 _ _ h1903 (ninc n1905 nin0)
          have h1906 : f56 bs = some (.inl (cI G, 61, .inl (fun _ => 0))) := by rw [ef56, va_up_ne _ _ (hnew h1904 w55)]; exact h1904
          have h1907 : f27 bp = some (.inl (cI G, 240, .inl (fun _ => 0))) := by rw [ef27, va_up_ne _ _ (hnew h19 w26)]; exact h19
          have n1909 : bp ≠ q25 := hnew h19 w26
          have h1908 : f29 bp = some (.inl (cI G, 240, .inl (fun _ => 0))) := k53 _ _ h1907 (ninc n1909 nin0)
          have h1910 : f56 bp = some (.inl (cI G, 240, .inl (fun _ => 0))) := by rw [ef56, va_up_ne _ _ (hnew h1908 w55)]; exact h1908
          have h1911 : f27 bh = some (.inl (cZ G, 240, .inl (fun _ => 0))) := by rw [ef27, va_up_ne _ _ (hnew h20 w26)]; exact h20
          have n1913 : bh ≠ q25 := hnew h20 w26
          have h1912 : f29 bh = some (.inl (cZ G, 240, .inl (fun _ => 0))) := k53 _ _ h1911 (ninc n1913 nin0)
          have h1914 : f56 bh = some (.inl (cZ G, 240, .inl (fun _ => 0))) := by rw [ef56, va_up_ne _ _ (hnew h1912 w55)]; exact h1912
          have h1915 : f27 bf = some (.inl (cI G, 3, .inl (upd (upd (upd (fun _ => 0) (0 : Int32).toNatClampNeg 0) (1 : Int32).toNatClampNeg 1) (2 : Int32).toNatClampNeg 2))) := by rw [ef27, va_up_ne _ _ (hnew h21 w26)]; exact h21
          have n1917 : bf ≠ q25 := hnew h21 w26
          have h1916 : f29 bf = some (.inl (cI G, 3, .inl (upd (upd (upd (fun _ => 0) (0 : Int32).toNatClampNeg 0) (1 : Int32).toNatClampNeg 1) (2 : Int32).toNatClampNeg 2))) := k53 _ _ h1915 (ninc n1917 nin0)
          have h1918 : f56 bf = some (.inl (cI G, 3, .inl (upd (upd (upd (fun _ => 0) (0 : Int32).toNatClampNeg 0) (1 : Int32).toNatClampNeg 1) (2 : Int32).toNatClampNeg 2))) := by rw [ef56, va_up_ne _ _ (hnew h1916 w55)]; exact h1916
          have h1919 : f27 bl = some (.inl (cI G, 3, .inl (fun j => if j < 3 then (-1) else (fun _ => 0) j))) := by rw [ef27, va_up_ne _ _ (hnew h22 w26)]; exact h22
          have n1921 : bl ≠ q25 := hnew h22 w26
          have h1920 : f29 bl = some (.inl (cI G, 3, .inl (fun j => if j < 3 then (-1) else (fun _ => 0) j))) := k53 _ _ h1919 (ninc n1921 nin0)
          have h1922 : f56 bl = some (.inl (cI G, 3, .inl (fun j => if j < 3 then (-1) else (fun _ => 0) j))) := by rw [ef56, va_up_ne _ _ (hnew h1920 w55)]; exact h1920
          have h1923 : f27 bg = some (.inl (cI G, 60, .inl (fun _ => 0))) := by rw [ef27, va_up_ne _ _ (hnew h23 w26)]; exact h23
          have n1925 : bg ≠ q25 := hnew h23 w26
          have h1924 : f29 bg = some (.inl (cI G, 60, .inl (fun _ => 0))) := k53 _ _ h1923 (ninc n1925 nin0)
          have h1926 : f56 bg = some (.inl (cI G, 60, .inl (fun _ => 0))) := by rw [ef56, va_up_ne _ _ (hnew h1924 w55)]; exact h1924
          have n1927 : bp ≠ q54 := hnew h1908 w55
          have n1928 : bs ≠ q54 := hnew h1904 w55
          have n1929 : nq1 ≠ q54 := hnew h1892 w55
          have n1930 : nq0 ≠ q54 := hnew h1872 w55
          have n1931 : na1 ≠ q54 := hnew h1888 w55
          have n1932 : na0 ≠ q54 := hnew h1868 w55
          have n1933 : nw1 ≠ q54 := hnew h1884 w55
          have n1934 : nw0 ≠ q54 := hnew h1864 w55
          refine hp_SH (As := [.ref q1, .int (xs 1), .ref q54]) (rest := []) B0 hw hS (c_L_drop hl G f56 q1 ez eo bu nw0 na0 nq0 nr0 nw1 na1 nq1 nr1 bs bp bh bf bl bg q54 ⟨h1858, h1862, h1866, h1870, h1874, h1878, h1882, h1886, h1890, h1894, h1898, h1902, h1906, h1910, h1914, h1918, h1922, h1926, n_wq0, n_wq1, n_sp⟩ (ninc (Ne.symm n1934) (ninc (Ne.symm n1933) (ninc (Ne.symm n1932) (ninc (Ne.symm n1931) (ninc (Ne.symm n1930) (ninc (Ne.symm n1929) (ninc (Ne.symm n1928) (ninc (Ne.symm n1927) nin0)))))))) h57 (xs 1)) mH_L_drop qM_L_140 rfl rfl hl9.1 (Nat.le_of_ble_eq_true rfl) ⟨⟨Nat.le_of_ble_eq_true rfl, Nat.le_of_ble_eq_true rfl⟩, Nat.le_of_ble_eq_true rfl, Nat.le_of_ble_eq_true rfl⟩ dL_law_1175 (fun E ce q9 f1935 H locs hPX hw hS hce hcv hcl => ?_) (fun v f1935 H locs hP hw hS => ?_)
          · exact hPX.elim
          · obtain ⟨ev9, h1936, k1937⟩ := hP
            subst ev9
            refine W.eq (g2 := F0 m 1178 ls [.int (spc (sL (xs 1)) False)]) rfl ?_
            refine lv_istore (lv' := [(5, .int (spc (sL (xs 1)) False)), (4, .int 0), (3, .ref q54), (2, .ref q25), (1, .ref q1), (0, .ref b)]) hx hb dL_law_1178 hl9 (by decide) rfl (fun ls hl9 => ?_)
            refine lv_aload_n hx hb dL_law_1180 rfl (lv_at hl9 3 rfl) ?_
            refine lv_aload_n hx hb dL_law_1181 rfl (lv_at hl9 5 rfl) ?_
            refine lv_iload hx hb dL_law_1182 (lv_at hl9 1 rfl) ?_
            refine lv_iconst (v := 1) hx hb dL_law_1184 (by decide) ?_
            refine lv_iadd hx hb dL_law_1185 ?_
            refine hp_c (v := 1) (by decide) ?_
            refine va_sld hx hb hX hbl hbA hS (by unfold vp_in; decide) dL_law_1186 ?_
            refine hp_c (v := xs 1) rfl ?_
            have h1938 : f56 q25 = some (.inr (5, [.int 0, .ref dW, .ref dA, .ref dQ, .ref dM, .ref dS, .ref dL, .ref dR, .ref dT, .ref dZ, .ref dI, .ref dH, .ref dN, .ref dK, .ref dJ, .ref dU, .ref dO, .int 0, .int 0, .ref dF, .ref dP, .ref dE, .ref dX, .ref dY, .int 0, .int 0, .ref dG])) := by rw [ef56, va_up_ne _ _ (hnew h30 w55)]; exact h30
            have n1940 : q25 ≠ q54 := hnew h30 w55
            have h1939 : f1935 q25 = some (.inr (5, [.int 0, .ref dW, .ref dA, .ref dQ, .ref dM, .ref dS, .ref dL, .ref dR, .ref dT, .ref dZ, .ref dI, .ref dH, .ref dN, .ref dK, .ref dJ, .ref dU, .ref dO, .int 0, .int 0, .ref dF, .ref dP, .ref dE, .ref dX, .ref dY, .int 0, .int 0, .ref dG])) := k1937 _ _ h1938 (ninc n1940 nin0)
            have h1941 : f56 dX = some (.inl (cI G, 3, .inl (mA3 0 1 2))) := by rw [ef56, va_up_ne _ _ (hnew h50 w55)]; exact h50
            have n1943 : dX ≠ q54 := hnew h50 w55
            have h1942 : f1935 dX = some (.inl (cI G, 3, .inl (mA3 0 1 2))) := k1937 _ _ h1941 (ninc n1943 nin0)
            refine hp_V (ci := 5) (As := [.int (xs 1)]) (rest := []) B0 hw hS (c_X5_drop0 hl G f1935 q25 dW dA dQ dM dS dL dR dT dZ dI dH dN dK dJ dU dO dF dP dE dX dY dG 0 h1939 h1942  (xs 1)) mV_X5_drop qM_L_142 rfl h1939 rfl rfl hl9.1 (Nat.le_of_ble_eq_true rfl) ⟨⟨Nat.le_of_ble_eq_true rfl, Nat.le_of_ble_eq_true rfl⟩, Nat.le_of_ble_eq_true rfl, Nat.le_of_ble_eq_true rfl⟩ dL_law_1187 (fun E ce q9 f1944 H locs hPX hw hS hce hcv hcl => ?_) (fun v f1944 H locs hP hw hS => ?_)
            · exact hPX.elim
            · obtain ⟨⟨r1945, ev9, h1946⟩, ⟨c1947, h1948⟩, k1949⟩ := hP
              subst ev9
              refine W.eq (g2 := F0 m 1190 ls [.int r1945]) rfl ?_
              refine lv_istore (lv' := [(6, .int r1945), (5, .int (spc (sL (xs 1)) False)), (4, .int 0), (3, .ref q54), (2, .ref q25), (1, .ref q1), (0, .ref b)]) hx hb dL_law_1190 hl9 (by decide) rfl (fun ls hl9 => ?_)
              refine lv_aload_n hx hb dL_law_1192 rfl (lv_at hl9 4 rfl) ?_
              refine hp_V (ci := 5) (As := []) (rest := []) B0 hw hS (c_X5_thrown hl G f1944 q25 (spc (sL (xs 1)) False) c1947 h1948) mV_X5_thrown qM_L_86 rfl h1948 rfl rfl hl9.1 (Nat.le_of_ble_eq_true rfl) ⟨⟨Nat.le_of_ble_eq_true rfl, Nat.le_of_ble_eq_true rfl⟩, Nat.le_of_ble_eq_true rfl, Nat.le_of_ble_eq_true rfl⟩ dL_law_1193 (fun E ce q9 f1950 H locs hPX hw hS hce hcv hcl => ?_) (fun v f1950 H locs hP hw hS => ?_)
              · exact hPX.elim
              · obtain ⟨ev9, ef9⟩ := hP
                rw [ef9] at hw
                subst ev9
                refine W.eq (g2 := F0 m 1196 ls [.int (spc (sL (xs 1)) False)]) rfl ?_
                refine lv_iload hx hb dL_law_1196 (lv_at hl9 1 rfl) ?_
                refine lv_icmp_eq (tgt := 1203) hx hb dL_law_1198 (by decide) (fun _ => ?_) (fun c9 => absurd rfl c9)
                refine lv_iload hx hb dL_law_1203 (lv_at hl9 1 rfl) ?_
                refine lv_if_ne (tgt := 1220) hx hb dL_law_1205 (by decide) (fun _ => ?_) (fun c9 => absurd c9 spc_F)
                refine lv_goto (tgt := 1305) hx hb dL_law_1220 (by decide) ?_
                refine lv_iinc (v := 4) (lv' := [(4, .int 4), (6, .int r1945), (5, .int (spc (sL (xs 1)) False)), (3, .ref q54), (2, .ref q25), (1, .ref q1), (0, .ref b)]) hx hb dL_law_1305 hl9 (k := 2) rfl (by decide) (by decide) rfl (fun ls hl9 => ?_)
                refine lv_goto (tgt := 23) hx hb dL_law_1308 (by decide) ?_
                refine lv_iload hx hb dL_law_23 (lv_at hl9 0 rfl) ?_
                refine lv_aload_n hx hb dL_law_25 rfl (lv_at hl9 6 rfl) ?_
                refine va_slen hx hb hX hbl hbA hS dL_law_26 ?_
                refine hp_c (v := 4) rfl ?_
                refine lv_iconst (v := 4) hx hb dL_law_27 (by decide) ?_
                refine lv_isub hx hb dL_law_28 ?_
                refine hp_c (v := 0) (by decide) ?_
                refine lv_icmp_gt (tgt := 1311) hx hb dL_law_29 (by decide) (fun _ => ?_) (fun c9 => absurd (by decide) c9)
                refine lv_iconst (v := 1) hx hb dL_law_1311 (by decide) ?_
                refine va_forget (fun q hq => hFs _ (hS.2.2 q hq)) ?_
                refine W.widen (k := 600002) (n := 7302232) (Nat.le_of_ble_eq_true rfl) (Nat.le_of_ble_eq_true rfl) ?_
                exact lw_ret hx hb hr hlocks dL_law_1312
        · refine lv_tableIn (off := 1184) (tgt := 1223) hx hb dL_law_39 (by decide) (by decide) (by decide) (by decide) ?_
          refine lv_aload_n hx hb dL_law_1223 rfl (lv_at hl9 3 rfl) ?_
          have h1951 : f27 q1 = some (.inr (4, [.ref ez, .ref eo, .ref bu])) := by rw [ef27, va_up_ne _ _ (hnew h6 w26)]; exact h6
          have n1953 : q1 ≠ q25 := hnew h6 w26
          have h1952 : f29 q1 = some (.inr (4, [.ref ez, .ref eo, .ref bu])) := k53 _ _ h1951 (ninc n1953 nin0)
          have h1954 : f56 q1 = some (.inr (4, [.ref ez, .ref eo, .ref bu])) := by rw [ef56, va_up_ne _ _ (hnew h1952 w55)]; exact h1952
          have h1955 : f27 bu = some (.inr (0, [.ref bs, .ref bp, .ref bh, .ref bf, .ref bl, .ref bg, .int 0, .int 0, .int 0])) := by rw [ef27, va_up_ne _ _ (hnew h17 w26)]; exact h17
          have n1957 : bu ≠ q25 := hnew h17 w26
          have h1956 : f29 bu = some (.inr (0, [.ref bs, .ref bp, .ref bh, .ref bf, .ref bl, .ref bg, .int 0, .int 0, .int 0])) := k53 _ _ h1955 (ninc n1957 nin0)
          have h1958 : f56 bu = some (.inr (0, [.ref bs, .ref bp, .ref bh, .ref bf, .ref bl, .ref bg, .int 0, .int 0, .int 0])) := by rw [ef56, va_up_ne _ _ (hnew h1956 w55)]; exact h1956
          refine hp_V (ci := 4) (As := []) (rest := []) B0 hw hS (c_X4_given0 hl G f56 q1 ez eo bu h1954 bs bp bh bf bl bg h1958) mV_X4_given qM_L_143 rfl h1954 rfl rfl hl9.1 (Nat.le_of_ble_eq_true rfl) ⟨⟨Nat.le_of_ble_eq_true rfl, Nat.le_of_ble_eq_true rfl⟩, Nat.le_of_ble_eq_true rfl, Nat.le_of_ble_eq_true rfl⟩ dL_law_1224 (fun E ce q9 f1959 H locs hPX hw hS hce hcv hcl => ?_) (fun v f1959 H locs hP hw hS => ?_)
          · exact hPX.elim
          · obtain ⟨ev9, ef9⟩ := hP
            rw [ef9] at hw
            subst ev9
            refine W.eq (g2 := F0 m 1227 ls [.int 0]) rfl ?_
            refine lv_aload_n hx hb dL_law_1227 rfl (lv_at hl9 2 rfl) ?_
            have h1960 : f56 q25 = some (.inr (5, [.int 0, .ref dW, .ref dA, .ref dQ, .ref dM, .ref dS, .ref dL, .ref dR, .ref dT, .ref dZ, .ref dI, .ref dH, .ref dN, .ref dK, .ref dJ, .ref dU, .ref dO, .int 0, .int 0, .ref dF, .ref dP, .ref dE, .ref dX, .ref dY, .int 0, .int 0, .ref dG])) := by rw [ef56, va_up_ne _ _ (hnew h30 w55)]; exact h30
            refine hp_V (ci := 5) (As := []) (rest := [.int 0]) B0 hw hS (c_X5_given0 hl G f56 q25 dW dA dQ dM dS dL dR dT dZ dI dH dN dK dJ dU dO dF dP dE dX dY dG 0 h1960) mV_X5_given qM_L_146 rfl h1960 rfl rfl hl9.1 (Nat.le_of_ble_eq_true rfl) ⟨⟨Nat.le_of_ble_eq_true rfl, Nat.le_of_ble_eq_true rfl⟩, Nat.le_of_ble_eq_true rfl, Nat.le_of_ble_eq_true rfl⟩ dL_law_1228 (fun E ce q9 f1961 H locs hPX hw hS hce hcv hcl => ?_) (fun v f1961 H locs hP hw hS => ?_)
            · exact hPX.elim
            · obtain ⟨ev9, k1962⟩ := hP
              subst ev9
              refine W.eq (g2 := F0 m 1231 ls [.int 0, .int 0]) rfl ?_
              refine lv_icmp_eq (tgt := 1305) hx hb dL_law_1231 (by decide) (fun _ => ?_) (fun c9 => absurd (by decide) c9)
              refine lv_iinc (v := 4) (lv' := [(4, .int 4), (3, .ref q54), (2, .ref q25), (1, .ref q1), (0, .ref b)]) hx hb dL_law_1305 hl9 (k := 0) rfl (by decide) (by decide) rfl (fun ls hl9 => ?_)
              refine lv_goto (tgt := 23) hx hb dL_law_1308 (by decide) ?_
              refine lv_iload hx hb dL_law_23 (lv_at hl9 0 rfl) ?_
              refine lv_aload_n hx hb dL_law_25 rfl (lv_at hl9 4 rfl) ?_
              refine va_slen hx hb hX hbl hbA hS dL_law_26 ?_
              refine hp_c (v := 4) rfl ?_
              refine lv_iconst (v := 4) hx hb dL_law_27 (by decide) ?_
              refine lv_isub hx hb dL_law_28 ?_
              refine hp_c (v := 0) (by decide) ?_
              refine lv_icmp_gt (tgt := 1311) hx hb dL_law_29 (by decide) (fun _ => ?_) (fun c9 => absurd (by decide) c9)
              refine lv_iconst (v := 1) hx hb dL_law_1311 (by decide) ?_
              refine va_forget (fun q hq => hFs _ (hS.2.2 q hq)) ?_
              refine W.widen (k := 600002) (n := 7302232) (Nat.le_of_ble_eq_true rfl) (Nat.le_of_ble_eq_true rfl) ?_
              exact lw_ret hx hb hr hlocks dL_law_1312
        · refine lv_tableIn (off := 1197) (tgt := 1236) hx hb dL_law_39 (by decide) (by decide) (by decide) (by decide) ?_
          refine lv_aload_n hx hb dL_law_1236 rfl (lv_at hl9 3 rfl) ?_
          refine lv_aload_n hx hb dL_law_1237 rfl (lv_at hl9 4 rfl) ?_
          refine lv_iload hx hb dL_law_1238 (lv_at hl9 0 rfl) ?_
          refine lv_iconst (v := 1) hx hb dL_law_1240 (by decide) ?_
          refine lv_iadd hx hb dL_law_1241 ?_
          refine hp_c (v := 1) (by decide) ?_
          refine va_sld hx hb hX hbl hbA hS (by unfold vp_in; decide) dL_law_1242 ?_
          refine hp_c (v := xs 1) rfl ?_
          refine lv_aload_n hx hb dL_law_1243 rfl (lv_at hl9 1 rfl) ?_
          have h1963 : f27 q1 = some (.inr (4, [.ref ez, .ref eo, .ref bu])) := by rw [ef27, va_up_ne _ _ (hnew h6 w26)]; exact h6
          have n1965 : q1 ≠ q25 := hnew h6 w26
          have h1964 : f29 q1 = some (.inr (4, [.ref ez, .ref eo, .ref bu])) := k53 _ _ h1963 (ninc n1965 nin0)
          have h1966 : f56 q1 = some (.inr (4, [.ref ez, .ref eo, .ref bu])) := by rw [ef56, va_up_ne _ _ (hnew h1964 w55)]; exact h1964
          have h1967 : f27 ez = some (.inr (1, [.ref nw0, .ref na0, .ref nq0, .ref nr0, .int 1, .int 0, .int 0, .int 0, .int (-1), .int 0, .int 0])) := by rw [ef27, va_up_ne _ _ (hnew h7 w26)]; exact h7
          have n1969 : ez ≠ q25 := hnew h7 w26
          have h1968 : f29 ez = some (.inr (1, [.ref nw0, .ref na0, .ref nq0, .ref nr0, .int 1, .int 0, .int 0, .int 0, .int (-1), .int 0, .int 0])) := k53 _ _ h1967 (ninc n1969 nin0)
          have h1970 : f56 ez = some (.inr (1, [.ref nw0, .ref na0, .ref nq0, .ref nr0, .int 1, .int 0, .int 0, .int 0, .int (-1), .int 0, .int 0])) := by rw [ef56, va_up_ne _ _ (hnew h1968 w55)]; exact h1968
          have h1971 : f27 nw0 = some (.inl (cI G, 6, .inl (fun j => if j < 6 then (-1) else (fun _ => 0) j))) := by rw [ef27, va_up_ne _ _ (hnew h8 w26)]; exact h8
          have n1973 : nw0 ≠ q25 := hnew h8 w26
          have h1972 : f29 nw0 = some (.inl (cI G, 6, .inl (fun j => if j < 6 then (-1) else (fun _ => 0) j))) := k53 _ _ h1971 (ninc n1973 nin0)
          have h1974 : f56 nw0 = some (.inl (cI G, 6, .inl (fun j => if j < 6 then (-1) else (fun _ => 0) j))) := by rw [ef56, va_up_ne _ _ (hnew h1972 w55)]; exact h1972
          have h1975 : f27 na0 = some (.inl (cI G, 6, .inl (fun _ => 0))) := by rw [ef27, va_up_ne _ _ (hnew h9 w26)]; exact h9
          have n1977 : na0 ≠ q25 := hnew h9 w26
          have h1976 : f29 na0 = some (.inl (cI G, 6, .inl (fun _ => 0))) := k53 _ _ h1975 (ninc n1977 nin0)
          have h1978 : f56 na0 = some (.inl (cI G, 6, .inl (fun _ => 0))) := by rw [ef56, va_up_ne _ _ (hnew h1976 w55)]; exact h1976
          have h1979 : f27 nq0 = some (.inl (cI G, 6, .inl (fun j => if j < 6 then (-1) else (fun _ => 0) j))) := by rw [ef27, va_up_ne _ _ (hnew h10 w26)]; exact h10
          have n1981 : nq0 ≠ q25 := hnew h10 w26
          have h1980 : f29 nq0 = some (.inl (cI G, 6, .inl (fun j => if j < 6 then (-1) else (fun _ => 0) j))) := k53 _ _ h1979 (ninc n1981 nin0)
          have h1982 : f56 nq0 = some (.inl (cI G, 6, .inl (fun j => if j < 6 then (-1) else (fun _ => 0) j))) := by rw [ef56, va_up_ne _ _ (hnew h1980 w55)]; exact h1980
          have h1983 : f27 nr0 = some (.inr (3, [.null, .null, .int 0])) := by rw [ef27, va_up_ne _ _ (hnew h11 w26)]; exact h11
          have n1985 : nr0 ≠ q25 := hnew h11 w26
          have h1984 : f29 nr0 = some (.inr (3, [.null, .null, .int 0])) := k53 _ _ h1983 (ninc n1985 nin0)
          have h1986 : f56 nr0 = some (.inr (3, [.null, .null, .int 0])) := by rw [ef56, va_up_ne _ _ (hnew h1984 w55)]; exact h1984
          have h1987 : f27 eo = some (.inr (1, [.ref nw1, .ref na1, .ref nq1, .ref nr1, .int 2, .int 0, .int 0, .int 0, .int (-1), .int 0, .int 0])) := by rw [ef27, va_up_ne _ _ (hnew h12 w26)]; exact h12
          have n1989 : eo ≠ q25 := hnew h12 w26
          have h1988 : f29 eo = some (.inr (1, [.ref nw1, .ref na1, .ref nq1, .ref nr1, .int 2, .int 0, .int 0, .int 0, .int (-1), .int 0, .int 0])) := k53 _ _ h1987 (ninc n1989 nin0)
          have h1990 : f56 eo = some (.inr (1, [.ref nw1, .ref na1, .ref nq1, .ref nr1, .int 2, .int 0, .int 0, .int 0, .int (-1), .int 0, .int 0])) := by rw [ef56, va_up_ne _ _ (hnew h1988 w55)]; exact h1988
          have h1991 : f27 nw1 = some (.inl (cI G, 6, .inl (fun j => if j < 6 then (-1) else (fun _ => 0) j))) := by rw [ef27, va_up_ne _ _ (hnew h13 w26)]; exact h13
          have n1993 : nw1 ≠ q25 := hnew h13 w26
          have h1992 : f29 nw1 = some (.inl (cI G, 6, .inl (fun j => if j < 6 then (-1) else (fun _ => 0) j))) := k53 _ _ h1991 (ninc n1993 nin0)
          have h1994 : f56 nw1 = some (.inl (cI G, 6, .inl (fun j => if j < 6 then (-1) else (fun _ => 0) j))) := by rw [ef56, va_up_ne _ _ (hnew h1992 w55)]; exact h1992
          have h1995 : f27 na1 = some (.inl (cI G, 6, .inl (fun _ => 0))) := by rw [ef27, va_up_ne _ _ (hnew h14 w26)]; exact h14
          have n1997 : na1 ≠ q25 := hnew h14 w26
          have h1996 : f29 na1 = some (.inl (cI G, 6, .inl (fun _ => 0))) := k53 _ _ h1995 (ninc n1997 nin0)
          have h1998 : f56 na1 = some (.inl (cI G, 6, .inl (fun _ => 0))) := by rw [ef56, va_up_ne _ _ (hnew h1996 w55)]; exact h1996
          have h1999 : f27 nq1 = some (.inl (cI G, 6, .inl (fun j => if j < 6 then (-1) else (fun _ => 0) j))) := by rw [ef27, va_up_ne _ _ (hnew h15 w26)]; exact h15
          have n2001 : nq1 ≠ q25 := hnew h15 w26
          have h2000 : f29 nq1 = some (.inl (cI G, 6, .inl (fun j => if j < 6 then (-1) else (fun _ => 0) j))) := k53 _ _ h1999 (ninc n2001 nin0)
          have h2002 : f56 nq1 = some (.inl (cI G, 6, .inl (fun j => if j < 6 then (-1) else (fun _ => 0) j))) := by rw [ef56, va_up_ne _ _ (hnew h2000 w55)]; exact h2000
          have h2003 : f27 nr1 = some (.inr (3, [.null, .null, .int 0])) := by rw [ef27, va_up_ne _ _ (hnew h16 w26)]; exact h16
          have n2005 : nr1 ≠ q25 := hnew h16 w26
          have h2004 : f29 nr1 = some (.inr (3, [.null, .null, .int 0])) := k53 _ _ h2003 (ninc n2005 nin0)
          have h2006 : f56 nr1 = some (.inr (3, [.null, .null, .int 0])) := by rw [ef56, va_up_ne _ _ (hnew h2004 w55)]; exact h2004
          have h2007 : f27 bu = some (.inr (0, [.ref bs, .ref bp, .ref bh, .ref bf, .ref bl, .ref bg, .int 0, .int 0, .int 0])) := by rw [ef27, va_up_ne _ _ (hnew h17 w26)]; exact h17
          have n2009 : bu ≠ q25 := hnew h17 w26
          have h2008 : f29 bu = some (.inr (0, [.ref bs, .ref bp, .ref bh, .ref bf, .ref bl, .ref bg, .int 0, .int 0, .int 0])) := k53 _ _ h2007 (ninc n2009 nin0)
          have h2010 : f56 bu = some (.inr (0, [.ref bs, .ref bp, .ref bh, .ref bf, .ref bl, .ref bg, .int 0, .int 0, .int 0])) := by rw [ef56, va_up_ne _ _ (hnew h2008 w55)]; exact h2008
          have h2011 : f27 bs = some (.inl (cI G, 61, .inl (fun _ => 0))) := by rw [ef27, va_up_ne _ _ (hnew h18 w26)]; exact h18
          have n2013 : bs ≠ q25 := hnew h18 w26
          have h2012 : f29 bs = some (.inl (cI G, 61, .inl (fun _ => 0))) := k53 _ _ h2011 (ninc n2013 nin0)
          have h2014 : f56 bs = some (.inl (cI G, 61, .inl (fun _ => 0))) := by rw [ef56, va_up_ne _ _ (hnew h2012 w55)]; exact h2012
          have h2015 : f27 bp = some (.inl (cI G, 240, .inl (fun _ => 0))) := by rw [ef27, va_up_ne _ _ (hnew h19 w26)]; exact h19
          have n2017 : bp ≠ q25 := hnew h19 w26
          have h2016 : f29 bp = some (.inl (cI G, 240, .inl (fun _ => 0))) := k53 _ _ h2015 (ninc n2017 nin0)
          have h2018 : f56 bp = some (.inl (cI G, 240, .inl (fun _ => 0))) := by rw [ef56, va_up_ne _ _ (hnew h2016 w55)]; exact h2016
          have h2019 : f27 bh = some (.inl (cZ G, 240, .inl (fun _ => 0))) := by rw [ef27, va_up_ne _ _ (hnew h20 w26)]; exact h20
          have n2021 : bh ≠ q25 := hnew h20 w26
          have h2020 : f29 bh = some (.inl (cZ G, 240, .inl (fun _ => 0))) := k53 _ _ h2019 (ninc n2021 nin0)
          have h2022 : f56 bh = some (.inl (cZ G, 240, .inl (fun _ => 0))) := by rw [ef56, va_up_ne _ _ (hnew h2020 w55)]; exact h2020
          have h2023 : f27 bf = some (.inl (cI G, 3, .inl (upd (upd (upd (fun _ => 0) (0 : Int32).toNatClampNeg 0) (1 : Int32).toNatClampNeg 1) (2 : Int32).toNatClampNeg 2))) := by rw [ef27, va_up_ne _ _ (hnew h21 w26)]; exact h21
          have n2025 : bf ≠ q25 := hnew h21 w26
          have h2024 : f29 bf = some (.inl (cI G, 3, .inl (upd (upd (upd (fun _ => 0) (0 : Int32).toNatClampNeg 0) (1 : Int32).toNatClampNeg 1) (2 : Int32).toNatClampNeg 2))) := k53 _ _ h2023 (ninc n2025 nin0)
          have h2026 : f56 bf = some (.inl (cI G, 3, .inl (upd (upd (upd (fun _ => 0) (0 : Int32).toNatClampNeg 0) (1 : Int32).toNatClampNeg 1) (2 : Int32).toNatClampNeg 2))) := by rw [ef56, va_up_ne _ _ (hnew h2024 w55)]; exact h2024
          have h2027 : f27 bl = some (.inl (cI G, 3, .inl (fun j => if j < 3 then (-1) else (fun _ => 0) j))) := by rw [ef27, va_up_ne _ _ (hnew h22 w26)]; exact h22
          have n2029 : bl ≠ q25 := hnew h22 w26
          have h2028 : f29 bl = some (.inl (cI G, 3, .inl (fun j => if j < 3 then (-1) else (fun _ => 0) j))) := k53 _ _ h2027 (ninc n2029 nin0)
          have h2030 : f56 bl = some (.inl (cI G, 3, .inl (fun j => if j < 3 then (-1) else (fun _ => 0) j))) := by rw [ef56, va_up_ne _ _ (hnew h2028 w55)]; exact h2028
          have h2031 : f27 bg = some (.inl (cI G, 60, .inl (fun _ => 0))) := by rw [ef27, va_up_ne _ _ (hnew h23 w26)]; exact h23
          have n2033 : bg ≠ q25 := hnew h23 w26
          have h2032 : f29 bg = some (.inl (cI G, 60, .inl (fun _ => 0))) := k53 _ _ h2031 (ninc n2033 nin0)
          have h2034 : f56 bg = some (.inl (cI G, 60, .inl (fun _ => 0))) := by rw [ef56, va_up_ne _ _ (hnew h2032 w55)]; exact h2032
          have n2035 : bp ≠ q54 := hnew h2016 w55
          have n2036 : bs ≠ q54 := hnew h2012 w55
          have n2037 : nq1 ≠ q54 := hnew h2000 w55
          have n2038 : nq0 ≠ q54 := hnew h1980 w55
          have n2039 : na1 ≠ q54 := hnew h1996 w55
          have n2040 : na0 ≠ q54 := hnew h1976 w55
          have n2041 : nw1 ≠ q54 := hnew h1992 w55
          have n2042 : nw0 ≠ q54 := hnew h1972 w55
          refine hp_SH (As := [.ref q1, .int (xs 1), .ref q54]) (rest := []) B0 hw hS (c_L_givenAt hl G f56 q1 ez eo bu nw0 na0 nq0 nr0 nw1 na1 nq1 nr1 bs bp bh bf bl bg q54 ⟨h1966, h1970, h1974, h1978, h1982, h1986, h1990, h1994, h1998, h2002, h2006, h2010, h2014, h2018, h2022, h2026, h2030, h2034, n_wq0, n_wq1, n_sp⟩ (ninc (Ne.symm n2042) (ninc (Ne.symm n2041) (ninc (Ne.symm n2040) (ninc (Ne.symm n2039) (ninc (Ne.symm n2038) (ninc (Ne.symm n2037) (ninc (Ne.symm n2036) (ninc (Ne.symm n2035) nin0)))))))) h57 (xs 1)) mH_L_givenAt qM_L_147 rfl rfl hl9.1 (Nat.le_of_ble_eq_true rfl) ⟨⟨Nat.le_of_ble_eq_true rfl, Nat.le_of_ble_eq_true rfl⟩, Nat.le_of_ble_eq_true rfl, Nat.le_of_ble_eq_true rfl⟩ dL_law_1244 (fun E ce q9 f2043 H locs hPX hw hS hce hcv hcl => ?_) (fun v f2043 H locs hP hw hS => ?_)
          · exact hPX.elim
          · obtain ⟨ev9, h2044, k2045⟩ := hP
            subst ev9
            refine W.eq (g2 := F0 m 1247 ls [.int (spc False True)]) rfl ?_
            refine lv_istore (lv' := [(5, .int (spc False True)), (4, .int 0), (3, .ref q54), (2, .ref q25), (1, .ref q1), (0, .ref b)]) hx hb dL_law_1247 hl9 (by decide) rfl (fun ls hl9 => ?_)
            refine lv_aload_n hx hb dL_law_1249 rfl (lv_at hl9 3 rfl) ?_
            refine lv_aload_n hx hb dL_law_1250 rfl (lv_at hl9 5 rfl) ?_
            refine lv_iload hx hb dL_law_1251 (lv_at hl9 1 rfl) ?_
            refine lv_iconst (v := 1) hx hb dL_law_1253 (by decide) ?_
            refine lv_iadd hx hb dL_law_1254 ?_
            refine hp_c (v := 1) (by decide) ?_
            refine va_sld hx hb hX hbl hbA hS (by unfold vp_in; decide) dL_law_1255 ?_
            refine hp_c (v := xs 1) rfl ?_
            have h2046 : f56 q25 = some (.inr (5, [.int 0, .ref dW, .ref dA, .ref dQ, .ref dM, .ref dS, .ref dL, .ref dR, .ref dT, .ref dZ, .ref dI, .ref dH, .ref dN, .ref dK, .ref dJ, .ref dU, .ref dO, .int 0, .int 0, .ref dF, .ref dP, .ref dE, .ref dX, .ref dY, .int 0, .int 0, .ref dG])) := by rw [ef56, va_up_ne _ _ (hnew h30 w55)]; exact h30
            have n2048 : q25 ≠ q54 := hnew h30 w55
            have h2047 : f2043 q25 = some (.inr (5, [.int 0, .ref dW, .ref dA, .ref dQ, .ref dM, .ref dS, .ref dL, .ref dR, .ref dT, .ref dZ, .ref dI, .ref dH, .ref dN, .ref dK, .ref dJ, .ref dU, .ref dO, .int 0, .int 0, .ref dF, .ref dP, .ref dE, .ref dX, .ref dY, .int 0, .int 0, .ref dG])) := k2045 _ _ h2046 (ninc n2048 nin0)
            refine hp_V (ci := 5) (As := [.int (xs 1)]) (rest := []) B0 hw hS (c_X5_givenAt0 hl G f2043 q25 dW dA dQ dM dS dL dR dT dZ dI dH dN dK dJ dU dO dF dP dE dX dY dG 0 h2047   (xs 1)) mV_X5_givenAt qM_L_149 rfl h2047 rfl rfl hl9.1 (Nat.le_of_ble_eq_true rfl) ⟨⟨Nat.le_of_ble_eq_true rfl, Nat.le_of_ble_eq_true rfl⟩, Nat.le_of_ble_eq_true rfl, Nat.le_of_ble_eq_true rfl⟩ dL_law_1256 (fun E ce q9 f2049 H locs hPX hw hS hce hcv hcl => ?_) (fun v f2049 H locs hP hw hS => ?_)
            · exact hPX.elim
            · obtain ⟨⟨r2050, ev9, h2051⟩, ⟨c2052, h2053⟩, k2054⟩ := hP
              subst ev9
              refine W.eq (g2 := F0 m 1259 ls [.int r2050]) rfl ?_
              refine lv_istore (lv' := [(6, .int r2050), (5, .int (spc False True)), (4, .int 0), (3, .ref q54), (2, .ref q25), (1, .ref q1), (0, .ref b)]) hx hb dL_law_1259 hl9 (by decide) rfl (fun ls hl9 => ?_)
              refine lv_aload_n hx hb dL_law_1261 rfl (lv_at hl9 4 rfl) ?_
              refine hp_V (ci := 5) (As := []) (rest := []) B0 hw hS (c_X5_thrown hl G f2049 q25 (spc False True) c2052 h2053) mV_X5_thrown qM_L_86 rfl h2053 rfl rfl hl9.1 (Nat.le_of_ble_eq_true rfl) ⟨⟨Nat.le_of_ble_eq_true rfl, Nat.le_of_ble_eq_true rfl⟩, Nat.le_of_ble_eq_true rfl, Nat.le_of_ble_eq_true rfl⟩ dL_law_1262 (fun E ce q9 f2055 H locs hPX hw hS hce hcv hcl => ?_) (fun v f2055 H locs hP hw hS => ?_)
              · exact hPX.elim
              · obtain ⟨ev9, ef9⟩ := hP
                rw [ef9] at hw
                subst ev9
                refine W.eq (g2 := F0 m 1265 ls [.int (spc False True)]) rfl ?_
                refine lv_iload hx hb dL_law_1265 (lv_at hl9 1 rfl) ?_
                refine lv_icmp_eq (tgt := 1272) hx hb dL_law_1267 (by decide) (fun _ => ?_) (fun c9 => absurd rfl c9)
                refine lv_iload hx hb dL_law_1272 (lv_at hl9 1 rfl) ?_
                refine lv_if_ne (tgt := 1289) hx hb dL_law_1274 (by decide) (fun _ => ?_) (fun c9 => absurd c9 (by rw [spc_1 id]; decide))
                refine lv_goto (tgt := 1305) hx hb dL_law_1289 (by decide) ?_
                refine lv_iinc (v := 4) (lv' := [(4, .int 4), (6, .int r2050), (5, .int (spc False True)), (3, .ref q54), (2, .ref q25), (1, .ref q1), (0, .ref b)]) hx hb dL_law_1305 hl9 (k := 2) rfl (by decide) (by decide) rfl (fun ls hl9 => ?_)
                refine lv_goto (tgt := 23) hx hb dL_law_1308 (by decide) ?_
                refine lv_iload hx hb dL_law_23 (lv_at hl9 0 rfl) ?_
                refine lv_aload_n hx hb dL_law_25 rfl (lv_at hl9 6 rfl) ?_
                refine va_slen hx hb hX hbl hbA hS dL_law_26 ?_
                refine hp_c (v := 4) rfl ?_
                refine lv_iconst (v := 4) hx hb dL_law_27 (by decide) ?_
                refine lv_isub hx hb dL_law_28 ?_
                refine hp_c (v := 0) (by decide) ?_
                refine lv_icmp_gt (tgt := 1311) hx hb dL_law_29 (by decide) (fun _ => ?_) (fun c9 => absurd (by decide) c9)
                refine lv_iconst (v := 1) hx hb dL_law_1311 (by decide) ?_
                refine va_forget (fun q hq => hFs _ (hS.2.2 q hq)) ?_
                refine W.widen (k := 600002) (n := 7302232) (Nat.le_of_ble_eq_true rfl) (Nat.le_of_ble_eq_true rfl) ?_
                exact lw_ret hx hb hr hlocks dL_law_1312
        · refine lv_tableIn (off := 1253) (tgt := 1292) hx hb dL_law_39 (by decide) (by decide) (by decide) (by decide) ?_
          refine lv_aload_n hx hb dL_law_1292 rfl (lv_at hl9 3 rfl) ?_
          have h2056 : f27 q1 = some (.inr (4, [.ref ez, .ref eo, .ref bu])) := by rw [ef27, va_up_ne _ _ (hnew h6 w26)]; exact h6
          have n2058 : q1 ≠ q25 := hnew h6 w26
          have h2057 : f29 q1 = some (.inr (4, [.ref ez, .ref eo, .ref bu])) := k53 _ _ h2056 (ninc n2058 nin0)
          have h2059 : f56 q1 = some (.inr (4, [.ref ez, .ref eo, .ref bu])) := by rw [ef56, va_up_ne _ _ (hnew h2057 w55)]; exact h2057
          have h2060 : f27 bu = some (.inr (0, [.ref bs, .ref bp, .ref bh, .ref bf, .ref bl, .ref bg, .int 0, .int 0, .int 0])) := by rw [ef27, va_up_ne _ _ (hnew h17 w26)]; exact h17
          have n2062 : bu ≠ q25 := hnew h17 w26
          have h2061 : f29 bu = some (.inr (0, [.ref bs, .ref bp, .ref bh, .ref bf, .ref bl, .ref bg, .int 0, .int 0, .int 0])) := k53 _ _ h2060 (ninc n2062 nin0)
          have h2063 : f56 bu = some (.inr (0, [.ref bs, .ref bp, .ref bh, .ref bf, .ref bl, .ref bg, .int 0, .int 0, .int 0])) := by rw [ef56, va_up_ne _ _ (hnew h2061 w55)]; exact h2061
          refine hp_V (ci := 4) (As := []) (rest := []) B0 hw hS (c_X4_next0 hl G f56 q1 ez eo bu h2059 bs bp bh bf bl bg h2063) mV_X4_next qM_L_150 rfl h2059 rfl rfl hl9.1 (Nat.le_of_ble_eq_true rfl) ⟨⟨Nat.le_of_ble_eq_true rfl, Nat.le_of_ble_eq_true rfl⟩, Nat.le_of_ble_eq_true rfl, Nat.le_of_ble_eq_true rfl⟩ dL_law_1293 (fun E ce q9 f2064 H locs hPX hw hS hce hcv hcl => ?_) (fun v f2064 H locs hP hw hS => ?_)
          · exact hPX.elim
          · obtain ⟨ev9, ef9⟩ := hP
            rw [ef9] at hw
            subst ev9
            refine W.eq (g2 := F0 m 1296 ls [.int 0]) rfl ?_
            refine lv_aload_n hx hb dL_law_1296 rfl (lv_at hl9 2 rfl) ?_
            have h2065 : f56 q25 = some (.inr (5, [.int 0, .ref dW, .ref dA, .ref dQ, .ref dM, .ref dS, .ref dL, .ref dR, .ref dT, .ref dZ, .ref dI, .ref dH, .ref dN, .ref dK, .ref dJ, .ref dU, .ref dO, .int 0, .int 0, .ref dF, .ref dP, .ref dE, .ref dX, .ref dY, .int 0, .int 0, .ref dG])) := by rw [ef56, va_up_ne _ _ (hnew h30 w55)]; exact h30
            refine hp_V (ci := 5) (As := []) (rest := [.int 0]) B0 hw hS (c_X5_next0 hl G f56 q25 dW dA dQ dM dS dL dR dT dZ dI dH dN dK dJ dU dO dF dP dE dX dY dG 0 h2065) mV_X5_next qM_L_153 rfl h2065 rfl rfl hl9.1 (Nat.le_of_ble_eq_true rfl) ⟨⟨Nat.le_of_ble_eq_true rfl, Nat.le_of_ble_eq_true rfl⟩, Nat.le_of_ble_eq_true rfl, Nat.le_of_ble_eq_true rfl⟩ dL_law_1297 (fun E ce q9 f2066 H locs hPX hw hS hce hcv hcl => ?_) (fun v f2066 H locs hP hw hS => ?_)
            · exact hPX.elim
            · obtain ⟨ev9, k2067⟩ := hP
              subst ev9
              refine W.eq (g2 := F0 m 1300 ls [.int 0, .int 0]) rfl ?_
              refine lv_icmp_eq (tgt := 1305) hx hb dL_law_1300 (by decide) (fun _ => ?_) (fun c9 => absurd (by decide) c9)
              refine lv_iinc (v := 4) (lv' := [(4, .int 4), (3, .ref q54), (2, .ref q25), (1, .ref q1), (0, .ref b)]) hx hb dL_law_1305 hl9 (k := 0) rfl (by decide) (by decide) rfl (fun ls hl9 => ?_)
              refine lv_goto (tgt := 23) hx hb dL_law_1308 (by decide) ?_
              refine lv_iload hx hb dL_law_23 (lv_at hl9 0 rfl) ?_
              refine lv_aload_n hx hb dL_law_25 rfl (lv_at hl9 4 rfl) ?_
              refine va_slen hx hb hX hbl hbA hS dL_law_26 ?_
              refine hp_c (v := 4) rfl ?_
              refine lv_iconst (v := 4) hx hb dL_law_27 (by decide) ?_
              refine lv_isub hx hb dL_law_28 ?_
              refine hp_c (v := 0) (by decide) ?_
              refine lv_icmp_gt (tgt := 1311) hx hb dL_law_29 (by decide) (fun _ => ?_) (fun c9 => absurd (by decide) c9)
              refine lv_iconst (v := 1) hx hb dL_law_1311 (by decide) ?_
              refine va_forget (fun q hq => hFs _ (hS.2.2 q hq)) ?_
              refine W.widen (k := 600002) (n := 7302232) (Nat.le_of_ble_eq_true rfl) (Nat.le_of_ble_eq_true rfl) ?_
              exact lw_ret hx hb hr hlocks dL_law_1312
        · refine lv_tableOut (tgt := 1305) hx hb dL_law_39 (Or.inr (by rw [nI_toInt (by omega)]; omega)) (by decide) ?_
          refine lv_iinc (v := 4) (lv' := [(4, .int 4), (3, .ref q54), (2, .ref q25), (1, .ref q1), (0, .ref b)]) hx hb dL_law_1305 hl9 (k := 0) rfl (by decide) (by decide) rfl (fun ls hl9 => ?_)
          refine lv_goto (tgt := 23) hx hb dL_law_1308 (by decide) ?_
          refine lv_iload hx hb dL_law_23 (lv_at hl9 0 rfl) ?_
          refine lv_aload_n hx hb dL_law_25 rfl (lv_at hl9 4 rfl) ?_
          refine va_slen hx hb hX hbl hbA hS dL_law_26 ?_
          refine hp_c (v := 4) rfl ?_
          refine lv_iconst (v := 4) hx hb dL_law_27 (by decide) ?_
          refine lv_isub hx hb dL_law_28 ?_
          refine hp_c (v := 0) (by decide) ?_
          refine lv_icmp_gt (tgt := 1311) hx hb dL_law_29 (by decide) (fun _ => ?_) (fun c9 => absurd (by decide) c9)
          refine lv_iconst (v := 1) hx hb dL_law_1311 (by decide) ?_
          refine va_forget (fun q hq => hFs _ (hS.2.2 q hq)) ?_
          refine W.widen (k := 600002) (n := 7302232) (Nat.le_of_ble_eq_true rfl) (Nat.le_of_ble_eq_true rfl) ?_
          exact lw_ret hx hb hr hlocks dL_law_1312

