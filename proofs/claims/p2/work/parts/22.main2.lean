theorem hW_0 {G : hG} {H : Heap} : hW G (fun _ => none) H := ⟨[], fun _ => .inr (0, []), (fun a e h => nomatch h), (fun k q h => by simp [va_pl] at h), ⟨fun i j p q h => by simp [va_pl] at h, fun k q h => by simp [va_pl] at h⟩⟩
theorem arr_of {ty : FieldType} {args : Array Value} {s : State} (h : (Cond.arrayClass ty).before args s = true) (hp : ∀ C, ty ≠ .object C) : ∃ cA, ArrOfT s cA ty ∧ va_RA s cA ty := by
  obtain ⟨c, k, comp, h1, h2, h3⟩ := Cond.arrayClass_spec h
  refine ⟨c, fun n z => ⟨fun k h => (by cases h), k, h2, comp, h3⟩, ?_⟩
  cases ty <;> first | exact absurd rfl (hp _) | exact h1
theorem hstr_all : hStr.all (fun q => decide (Cond.exactly (.string q.1 q.2.1) "java/lang/String" ∈ flatC (Jvm.Cond.and given_1 narrow_1))) = true := by decide +kernel
theorem hnc_all : hNcs.all (fun q => decide (Cond.not (.castable q.1 q.2) ∈ flatC (Jvm.Cond.and given_1 narrow_1))) = true := by decide +kernel
theorem hisU : Cond.isRef (.static Bundle.tN "UNASSIGNED_STACK" Bundle.steD) ∈ flatC (Jvm.Cond.and given_1 narrow_1) := by decide +kernel
theorem hisN : Cond.isRef (.static Bundle.tN "SUPPRESSED_SENTINEL" Bundle.listD) ∈ flatC (Jvm.Cond.and given_1 narrow_1) := by decide +kernel
theorem hlyU : Cond.laysStatic Bundle.tN "UNASSIGNED_STACK" Bundle.steD ∈ lw_tbl := List.mem_of_getElem? (i := 223) (by decide +kernel)
theorem hlyN : Cond.laysStatic Bundle.tN "SUPPRESSED_SENTINEL" Bundle.listD ∈ lw_tbl := List.mem_of_getElem? (i := 225) (by decide +kernel)
set_option maxHeartbeats 4000000 in
theorem hK_0 {b : Nat} {s : State} (hts : ∀ w ∈ lw_tbl, w.before #[Value.ref b] s = true) (hgv : (Jvm.Cond.and given_1 narrow_1).before #[Value.ref b] s = true) : ∃ (dC : Nat → ClassId) (dI : Nat → Nat → Nat) (c1 c2 c3 : ClassId), hK ((dC, dI), (c1, c2, c3), s.heap.size) s := by
  have hs := flat_of_before _ hgv
  have htg : ∀ w ∈ gW, w.before #[Value.ref b] s = true := fun w h => hts w (List.mem_filter.mp h).1
  obtain ⟨c0, i0, hn0⟩ := u_known (C := RX0) (T := TX0) (N := 9) (n := 9) htg in_X0 (htg _ qI_X0)
  obtain ⟨c1, i1, hn1⟩ := u_known (C := RX1) (T := TX1) (N := 11) (n := 11) htg in_X1 (htg _ qI_X1)
  obtain ⟨c2, i2, hn2⟩ := u_known (C := RX2) (T := TX2) (N := 5) (n := 5) htg in_X2 (htg _ qI_X2)
  obtain ⟨c3, i3, hn3⟩ := u_known (C := RX3) (T := TX3) (N := 3) (n := 3) htg in_X3 (htg _ qI_X3)
  obtain ⟨c4, i4, hn4⟩ := u_known (C := RX4) (T := TX4) (N := 3) (n := 3) htg in_X4 (htg _ qI_X4)
  obtain ⟨c5, i5, hn5⟩ := u_known (C := RX5) (T := TX5) (N := 27) (n := 27) htg in_X5 (htg _ qI_X5)
  obtain ⟨cI1, hI1, hI2⟩ := arr_of (htg _ qA_int) (fun C h => by cases h)
  obtain ⟨cZ1, hZ1, hZ2⟩ := arr_of (htg _ qA_boolean) (fun C h => by cases h)
  obtain ⟨cJ1, hJ1, hJ2⟩ := arr_of (htg _ qA_long) (fun C h => by cases h)
  have hA : ∀ a : Nat, a < s.heap.size → ¬ s.heap.size ≤ a := fun a h => Nat.not_le.mpr h
  refine ⟨fun k => if k = 0 then c0 else if k = 1 then c1 else if k = 2 then c2 else if k = 3 then c3 else if k = 4 then c4 else c5, fun k => if k = 0 then i0 else if k = 1 then i1 else if k = 2 then i2 else if k = 3 then i3 else if k = 4 then i4 else i5, cI1, cZ1, cJ1, ⟨?_, ?_⟩, ?_, ?_, ?_, ?_, ?_, Nat.le_refl _⟩
  · intro k q hq
    match k, hq with
    | 0, hq => cases hq; exact hn0
    | 1, hq => cases hq; exact hn1
    | 2, hq => cases hq; exact hn2
    | 3, hq => cases hq; exact hn3
    | 4, hq => cases hq; exact hn4
    | 5, hq => cases hq; exact hn5
    | k + 6, hq => simp at hq
  · intro k q hq
    match k, hq with
    | 0, hq => cases hq; exact ⟨hI1, hI2⟩
    | 1, hq => cases hq; exact ⟨hZ1, hZ2⟩
    | 2, hq => cases hq; exact ⟨hJ1, hJ2⟩
    | k + 3, hq => simp at hq
  · exact vx_Zqof (hts _ hlyU) (htg _ qN_java_lang_Throwable) (hs _ hisU) hA
  · exact vx_Zqof (hts _ hlyN) (htg _ qN_java_lang_Throwable) (hs _ hisN) hA
  · exact fun w hw => va_Nw.of (hOw_tabs (List.mem_filter.mp hw).2) (hts w (List.mem_filter.mp hw).1)
  · intro q hq
    have h2 := hs _ (of_decide_eq_true (List.all_eq_true.mp hstr_all q hq))
    obtain ⟨a, c, cell, k, h3, -⟩ := Cond.exactly_spec h2
    refine ⟨a, ?_⟩
    unfold hStr at hq
    obtain ⟨w, hw1, hw2⟩ := List.mem_filterMap.mp hq
    cases w <;> first | (cases hw2; exact vk_R.of (hts _ hw1) h3) | (cases hw2)
  · exact fun q hq => va_Nc.of (hs _ (of_decide_eq_true (List.all_eq_true.mp hnc_all q hq)))
def fl0 : Nat → Nat := fun j => if j = 2 then 2 else if j = 1 then 1 else 0
theorem F3_fl : ((upd (upd (upd (fun _ => 0) (0 : Int32).toNatClampNeg 0) (1 : Int32).toNatClampNeg 1) (2 : Int32).toNatClampNeg 2) : Nat → Int32) = nf fl0 := by
  funext j
  simp only [upd, cl0, cl1, cl2, nf, fl0]
  by_cases h2 : j = 2
  · rw [if_pos h2, if_pos h2]; rfl
  · rw [if_neg h2, if_neg h2]
    by_cases h1 : j = 1
    · rw [if_pos h1, if_pos h1]; rfl
    · rw [if_neg h1, if_neg h1]
      by_cases h0 : j = 0
      · rw [if_pos h0]; rfl
      · rw [if_neg h0]; rfl
theorem mA3_fl : mA3 0 1 2 = nf fl0 := by
  funext j
  simp only [mA3, nf, fl0]
  by_cases h2 : j = 2
  · rw [if_pos h2, if_pos h2]; rfl
  · rw [if_neg h2, if_neg h2]
    by_cases h1 : j = 1
    · rw [if_pos h1, if_pos h1]; rfl
    · rw [if_neg h1, if_neg h1]
      by_cases h0 : j = 0
      · rw [if_pos h0]; rfl
      · rw [if_neg h0]; rfl
theorem mA3_L : mA3 (-1) (-1) (-1) = ((fun j => if j < 3 then (-1) else (fun _ => 0) j) : Nat → Int32) := by
  funext j
  simp only [mA3]
  by_cases h : j < 3
  · rw [if_pos h]
    rcases (show j = 0 ∨ j = 1 ∨ j = 2 by omega) with rfl | rfl | rfl <;> rfl
  · rw [if_neg h, if_neg (show ¬ j = 2 by omega), if_neg (show ¬ j = 1 by omega), if_neg (show ¬ j = 0 by omega)]
theorem jn_W : mA12 = jn (fun j => if j < 6 then (-1) else (fun _ => 0) j) (fun j => if j < 6 then (-1) else (fun _ => 0) j) := by
  funext j
  simp only [mA12, jn]
  by_cases h : j < 6
  · rw [if_pos (show j < 12 by omega), if_pos h, if_pos h]
  · rw [if_neg h]
    by_cases h2 : j < 12
    · rw [if_pos h2, if_pos (show j - 6 < 6 by omega)]
    · rw [if_neg h2, if_neg (show ¬ j - 6 < 6 by omega)]
theorem jn_0 : (fun _ => 0 : Nat → Int32) = jn (fun _ => 0) (fun _ => 0) := by
  funext j
  simp only [jn]
  split <;> rfl
theorem BOK_0 : BOK 0 0 0 0 (fun _ => 0) (fun _ => 0) := ⟨by decide, rfl, rfl, fun i h => absurd h (Nat.not_lt_zero _), fun j h => absurd h (Nat.not_lt_zero _), Nat.le_refl _, 0, Nat.le_refl _, Nat.le_refl _, Nat.le_refl _⟩
theorem fl0_ok : ∀ k, k < 3 → fl0 k < 243 := by decide
theorem hHd_0 : hHd (fun _ => 0) := fun i hi => ⟨0, rfl, by decide⟩
theorem hMn_0 : hMn (fun _ => 0) (100 * 0) := fun i hi => ⟨0, rfl, by decide⟩
theorem nI_m4 {n : Nat} (h : n < 2 ^ 31) : (nI n - 4).toInt = (n : Int) - 4 := by
  by_cases h4 : n < 4
  · rcases (show n = 0 ∨ n = 1 ∨ n = 2 ∨ n = 3 by omega) with rfl | rfl | rfl | rfl <;> decide
  · obtain ⟨q, rfl⟩ : ∃ q, n = q + 4 := ⟨n - 4, by omega⟩
    rw [show nI (q + 4) - 4 = nI q from by rw [← nI_add]; exact Int32.add_sub_cancel _ _, nI_toInt (by omega)]
    omega
theorem MW.mono {G : hG} {f : hM} {mo dW dA dQ dM dS dL dR dT dZ dI dH dN dK dJ dU dO dF dP dE dX dY dG : Nat} {th : Int32} {B B2 : Nat} {gw0 : Nat → Int32} {ga0 : Nat → Int32} {gw1 : Nat → Int32} {ga1 : Nat → Int32} {mg0 : Int32} {mg1 : Int32} {n : Nat} {a : Nat} {cg : Nat} {x : Nat} {sa : Nat → Nat} {pk : Nat → Nat} {fl : Nat → Nat} {gv : Nat → Nat} {gh : Nat → Int32} {gl : Nat → Int32} (h : MW G f mo dW dA dQ dM dS dL dR dT dZ dI dH dN dK dJ dU dO dF dP dE dX dY dG th B gw0 ga0 gw1 ga1 mg0 mg1 n a cg x sa pk fl gv gh gl) (hB : B ≤ B2) : MW G f mo dW dA dQ dM dS dL dR dT dZ dI dH dN dK dJ dU dO dF dP dE dX dY dG th B2 gw0 ga0 gw1 ga1 mg0 mg1 n a cg x sa pk fl gv gh gl := by
  obtain ⟨k_mo, hND, ⟨_, _, _, _, _, _, _, _, _, _, _, _, _, k_dQ, k_dS, k_dL, k_dR, k_dT, k_dZ, k_dI, k_dH, k_dN, k_dK, k_dJ, k_dU, k_dO, hH9, hN9⟩, hr⟩ := h
  exact ⟨k_mo, hND, ⟨_, _, _, _, _, _, _, _, _, _, _, _, _, k_dQ, k_dS, k_dL, k_dR, k_dT, k_dZ, k_dI, k_dH, k_dN, k_dK, k_dJ, k_dU, k_dO, hH9, hN9.mono hB⟩, hr⟩
set_option maxHeartbeats 40000000 in
set_option maxRecDepth 100000 in
theorem whole_start {p : Program} {e : Env} {s : State} {m : MethodId} {below : List Frame} {meth : Method} {c : Code} (l : Launch) (hflags : l.flags = flags0) {b L : Nat} {xs : Nat → Int32} (hL : L ≤ 2048) (C0 : lw_At p s m meth c b L xs) : W p l e room_1 s m #[Value.ref b] below meth c s.heap [] 0 0 (lw_Z below #[Value.ref b] s) (entryFrame m ([Value.ref b] : List Value).toArray 7) := by
  obtain ⟨hx, hb, hr, hml, hown, hts, hX, hbl, hlocks, hgv⟩ := id C0
  have hl : l.stackTraces = false := by unfold Launch.stackTraces; rw [hflags]; decide
  obtain ⟨dC, dI, cI9, cZ9, cJ9, hk⟩ := hK_0 hts hgv
  obtain ⟨G, hGe⟩ : ∃ G : hG, G = ((dC, dI), (cI9, cZ9, cJ9), s.heap.size) := ⟨_, rfl⟩
  rw [← hGe] at hk
  have B0 : hB p l s m #[Value.ref b] meth c code 7 RL G := ⟨hx, hb, hml, hown, fun w h => hts w (List.mem_filter.mp h).1, hlocks, hk, hl⟩
  have hFs : ∀ q : Nat, hFr G q → s.heap.size ≤ q := by rw [hGe]; exact fun _ h => h
  have hbA : ¬ hFr G b := fun h => absurd (hFs b h) (Nat.not_le.mpr hbl)
  have hS : va_S (hFr G) s.heap s.heap [] := va_S.rf
  obtain ⟨f, hf0⟩ : ∃ f : hM, f = fun _ => none := ⟨_, rfl⟩
  have hw : hW G f s.heap := by rw [hf0]; exact hW_0
  have hf0 : ∀ a k, f a ≠ some (.inr (2, k)) := fun a k h => by rw [hf0] at h; cases h
  have hl9 := lv_entry ([.ref b]) (n := 7) (Nat.le_of_ble_eq_true rfl)
  rw [lg_entry_eq]
  generalize (lg_sl ([.ref b]) ++ List.replicate (7 - (lg_sl ([.ref b])).length) Slot.unset).toArray = ls at hl9 ⊢
  have hl9 : lv_has ls 7 [(0, .ref b)] := hl9
  refine hp_new (fs := [.null, .null, .null]) B0 hw hS 4 rfl in_X4 tyX4 tyX4_ok qC_L_8 qI_X4 qN_X4 (fun j hj => by rcases (show j = 0 ∨ j = 1 ∨ j = 2 by omega) with rfl | rfl | rfl <;> rfl) (Nat.le_of_ble_eq_true rfl) (Nat.le_of_ble_eq_true rfl) dL_law_0 (fun xo H f2 w1 ef2 hw hS => ?_)
  have h3 : f2 xo = some (.inr (4, [.null, .null, .null])) := by rw [ef2, va_up_self]
  refine lv_dup hx hb dL_law_3 rfl ?_
  refine hp_I (As := []) (rest := [.ref xo]) (b := xo) B0 hw hS (c_X4_init hl G f2 xo h3) mI_X4_init qM_L_76 rfl rfl hl9.1 (Nat.le_of_ble_eq_true rfl) ⟨⟨Nat.le_of_ble_eq_true rfl, Nat.le_of_ble_eq_true rfl⟩, (by first | omega | (dsimp only; omega) | (show (_ : Nat) ≤ _; simp only [room_1]; omega)), (by first | omega | (dsimp only; omega) | (show (_ : Nat) ≤ _; simp only [room_1]; omega))⟩ dL_law_4 (fun E ce q9 f4 H locs hPX hw hS hce hcv hcl => ?_) (fun v f4 H locs hP hw hS => ?_)
  · exact hPX.elim
  · obtain ⟨ev9, ez, eo, bu, nw0, na0, nq0, nr0, nw1, na1, nq1, nr1, bs, bp, bh, bf, bl, bg, wez, weo, wbu, wnw0, wna0, wnq0, wnr0, wnw1, wna1, wnq1, wnr1, wbs, wbp, wbh, wbf, wbl, wbg, h5, h6, h7, h8, h9, h10, h11, h12, h13, h14, h15, h16, h17, h18, h19, h20, h21, h22, nd_ez_eo, nd_nr0_nr1, nd_nw0_na0, nd_nw0_nq0, nd_nw0_nw1, nd_nw0_na1, nd_nw0_nq1, nd_na0_nq0, nd_na0_nw1, nd_na0_na1, nd_na0_nq1, nd_nq0_nw1, nd_nq0_na1, nd_nq0_nq1, nd_nw1_na1, nd_nw1_nq1, nd_na1_nq1, nd_bh_bp, nd_bf_bl, k23, znf4⟩ := hP
    subst ev9
    refine W.eq (g2 := F0 m 7 ls [.ref xo]) rfl ?_
    refine lv_astore_n (lv' := [(1, .ref xo), (0, .ref b)]) hx hb dL_law_7 rfl hl9 (by decide) rfl (fun ls hl9 => ?_)
    refine hp_new (fs := [.int 0, .null, .null, .null, .null, .null, .null, .null, .null, .null, .null, .null, .null, .null, .null, .null, .null, .int 0, .int 0, .null, .null, .null, .null, .null, .int 0, .int 0, .null]) B0 hw hS 5 rfl in_X5 tyX5 tyX5_ok qC_L_77 qI_X5 qN_X5 (fun j hj => by rcases (show j = 0 ∨ j = 1 ∨ j = 2 ∨ j = 3 ∨ j = 4 ∨ j = 5 ∨ j = 6 ∨ j = 7 ∨ j = 8 ∨ j = 9 ∨ j = 10 ∨ j = 11 ∨ j = 12 ∨ j = 13 ∨ j = 14 ∨ j = 15 ∨ j = 16 ∨ j = 17 ∨ j = 18 ∨ j = 19 ∨ j = 20 ∨ j = 21 ∨ j = 22 ∨ j = 23 ∨ j = 24 ∨ j = 25 ∨ j = 26 by omega) with rfl | rfl | rfl | rfl | rfl | rfl | rfl | rfl | rfl | rfl | rfl | rfl | rfl | rfl | rfl | rfl | rfl | rfl | rfl | rfl | rfl | rfl | rfl | rfl | rfl | rfl | rfl <;> rfl) (Nat.le_of_ble_eq_true rfl) (Nat.le_of_ble_eq_true rfl) dL_law_8 (fun mo H f25 w24 ef25 hw hS => ?_)
    have h26 : f25 mo = some (.inr (5, [.int 0, .null, .null, .null, .null, .null, .null, .null, .null, .null, .null, .null, .null, .null, .null, .null, .null, .int 0, .int 0, .null, .null, .null, .null, .null, .int 0, .int 0, .null])) := by rw [ef25, va_up_self]
    refine lv_dup hx hb dL_law_11 rfl ?_
    refine hp_I (As := []) (rest := [.ref mo]) (b := mo) B0 hw hS (c_X5_init hl G f25 mo h26) mI_X5_init qM_L_79 rfl rfl hl9.1 (Nat.le_of_ble_eq_true rfl) ⟨⟨Nat.le_of_ble_eq_true rfl, Nat.le_of_ble_eq_true rfl⟩, (by first | omega | (dsimp only; omega) | (show (_ : Nat) ≤ _; simp only [room_1]; omega)), (by first | omega | (dsimp only; omega) | (show (_ : Nat) ≤ _; simp only [room_1]; omega))⟩ dL_law_12 (fun E ce q9 f27 H locs hPX hw hS hce hcv hcl => ?_) (fun v f27 H locs hP hw hS => ?_)
    · exact hPX.elim
    · obtain ⟨ev9, dW, dA, dQ, dM, dS, dL, dR, dT, dZ, dI, dH, dN, dK, dJ, dU, dO, dF, dP, dE, dX, dY, dG, wdW, wdA, wdQ, wdM, wdS, wdL, wdR, wdT, wdZ, wdI, wdH, wdN, wdK, wdJ, wdU, wdO, wdF, wdP, wdE, wdX, wdY, wdG, h28, h29, h30, h31, h32, h33, h34, h35, h36, h37, h38, h39, h40, h41, h42, h43, h44, h45, h46, h47, h48, h49, h50, nd_dW_dA, nd_dW_dQ, nd_dA_dQ, nd_dM_dS, nd_dM_dL, nd_dM_dR, nd_dM_dT, nd_dM_dZ, nd_dM_dI, nd_dM_dH, nd_dM_dN, nd_dS_dL, nd_dS_dR, nd_dS_dT, nd_dS_dZ, nd_dS_dI, nd_dS_dH, nd_dS_dN, nd_dL_dR, nd_dL_dT, nd_dL_dZ, nd_dL_dI, nd_dL_dH, nd_dL_dN, nd_dR_dT, nd_dR_dZ, nd_dR_dI, nd_dR_dH, nd_dR_dN, nd_dT_dZ, nd_dT_dI, nd_dT_dH, nd_dT_dN, nd_dZ_dI, nd_dZ_dH, nd_dZ_dN, nd_dI_dH, nd_dI_dN, nd_dH_dN, nd_dK_dJ, nd_dK_dU, nd_dK_dO, nd_dJ_dU, nd_dJ_dO, nd_dU_dO, nd_dP_dE, nd_dX_dY, k51, znf5⟩ := hP
      subst ev9
      refine W.eq (g2 := F0 m 15 ls [.ref mo]) rfl ?_
      refine lv_astore_n (lv' := [(2, .ref mo), (1, .ref xo), (0, .ref b)]) hx hb dL_law_15 rfl hl9 (by decide) rfl (fun ls hl9 => ?_)
      refine lv_iconst (v := 1) hx hb dL_law_16 (by decide) ?_
      refine hp_newaJ (N' := 1) B0 hw hS qA_long (by decide) (by decide) (Nat.le_of_ble_eq_true rfl) (Nat.le_of_ble_eq_true rfl) (Nat.le_of_ble_eq_true rfl) dL_law_17 (fun out H f53 w52 ef53 hw hS => ?_)
      have h54 : f53 out = some (.inl (cJ G, 1, .inr (.inl (fun _ => 0)))) := by rw [ef53, va_up_self]
      refine lv_astore_n (lv' := [(3, .ref out), (2, .ref mo), (1, .ref xo), (0, .ref b)]) hx hb dL_law_19 rfl hl9 (by decide) rfl (fun ls hl9 => ?_)
      refine lv_iconst (v := 0) hx hb dL_law_20 (by decide) ?_
      refine lv_istore (lv' := [(4, .int 0), (3, .ref out), (2, .ref mo), (1, .ref xo), (0, .ref b)]) hx hb dL_law_21 hl9 (by decide) rfl (fun ls hl9 => ?_)
      have n55 : xo ≠ mo := hnew h5 w24
      have h56 : f25 xo = some (.inr (4, [.ref ez, .ref eo, .ref bu])) := by rw [ef25, va_up_ne _ _ (hnew h5 w24)]; exact h5
      have n57 : xo ≠ dW := hnew h56 wdW
      have n58 : xo ≠ dA := hnew h56 wdA
      have n59 : xo ≠ dQ := hnew h56 wdQ
      have n60 : xo ≠ dM := hnew h56 wdM
      have n61 : xo ≠ dS := hnew h56 wdS
      have n62 : xo ≠ dL := hnew h56 wdL
      have n63 : xo ≠ dR := hnew h56 wdR
      have n64 : xo ≠ dT := hnew h56 wdT
      have n65 : xo ≠ dZ := hnew h56 wdZ
      have n66 : xo ≠ dI := hnew h56 wdI
      have n67 : xo ≠ dH := hnew h56 wdH
      have n68 : xo ≠ dN := hnew h56 wdN
      have n69 : xo ≠ dK := hnew h56 wdK
      have n70 : xo ≠ dJ := hnew h56 wdJ
      have n71 : xo ≠ dU := hnew h56 wdU
      have n72 : xo ≠ dO := hnew h56 wdO
      have n73 : xo ≠ dF := hnew h56 wdF
      have n74 : xo ≠ dP := hnew h56 wdP
      have n75 : xo ≠ dE := hnew h56 wdE
      have n76 : xo ≠ dX := hnew h56 wdX
      have n77 : xo ≠ dY := hnew h56 wdY
      have n78 : xo ≠ dG := hnew h56 wdG
      have n79 : ez ≠ mo := hnew h6 w24
      have h80 : f25 ez = some (.inr (1, [.ref nw0, .ref na0, .ref nq0, .ref nr0, .int 1, .int 0, .int 0, .int 0, .int (-1), .int 0, .int 0])) := by rw [ef25, va_up_ne _ _ (hnew h6 w24)]; exact h6
      have n81 : ez ≠ dW := hnew h80 wdW
      have n82 : ez ≠ dA := hnew h80 wdA
      have n83 : ez ≠ dQ := hnew h80 wdQ
      have n84 : ez ≠ dM := hnew h80 wdM
      have n85 : ez ≠ dS := hnew h80 wdS
      have n86 : ez ≠ dL := hnew h80 wdL
      have n87 : ez ≠ dR := hnew h80 wdR
      have n88 : ez ≠ dT := hnew h80 wdT
      have n89 : ez ≠ dZ := hnew h80 wdZ
      have n90 : ez ≠ dI := hnew h80 wdI
      have n91 : ez ≠ dH := hnew h80 wdH
      have n92 : ez ≠ dN := hnew h80 wdN
      have n93 : ez ≠ dK := hnew h80 wdK
      have n94 : ez ≠ dJ := hnew h80 wdJ
      have n95 : ez ≠ dU := hnew h80 wdU
      have n96 : ez ≠ dO := hnew h80 wdO
      have n97 : ez ≠ dF := hnew h80 wdF
      have n98 : ez ≠ dP := hnew h80 wdP
      have n99 : ez ≠ dE := hnew h80 wdE
      have n100 : ez ≠ dX := hnew h80 wdX
      have n101 : ez ≠ dY := hnew h80 wdY
      have n102 : ez ≠ dG := hnew h80 wdG
      have n103 : eo ≠ mo := hnew h11 w24
      have h104 : f25 eo = some (.inr (1, [.ref nw1, .ref na1, .ref nq1, .ref nr1, .int 2, .int 0, .int 0, .int 0, .int (-1), .int 0, .int 0])) := by rw [ef25, va_up_ne _ _ (hnew h11 w24)]; exact h11
      have n105 : eo ≠ dW := hnew h104 wdW
      have n106 : eo ≠ dA := hnew h104 wdA
      have n107 : eo ≠ dQ := hnew h104 wdQ
      have n108 : eo ≠ dM := hnew h104 wdM
      have n109 : eo ≠ dS := hnew h104 wdS
      have n110 : eo ≠ dL := hnew h104 wdL
      have n111 : eo ≠ dR := hnew h104 wdR
      have n112 : eo ≠ dT := hnew h104 wdT
      have n113 : eo ≠ dZ := hnew h104 wdZ
      have n114 : eo ≠ dI := hnew h104 wdI
      have n115 : eo ≠ dH := hnew h104 wdH
      have n116 : eo ≠ dN := hnew h104 wdN
      have n117 : eo ≠ dK := hnew h104 wdK
      have n118 : eo ≠ dJ := hnew h104 wdJ
      have n119 : eo ≠ dU := hnew h104 wdU
      have n120 : eo ≠ dO := hnew h104 wdO
      have n121 : eo ≠ dF := hnew h104 wdF
      have n122 : eo ≠ dP := hnew h104 wdP
      have n123 : eo ≠ dE := hnew h104 wdE
      have n124 : eo ≠ dX := hnew h104 wdX
      have n125 : eo ≠ dY := hnew h104 wdY
      have n126 : eo ≠ dG := hnew h104 wdG
      have n127 : bu ≠ mo := hnew h16 w24
      have h128 : f25 bu = some (.inr (0, [.ref bs, .ref bp, .ref bh, .ref bf, .ref bl, .ref bg, .int 0, .int 0, .int 0])) := by rw [ef25, va_up_ne _ _ (hnew h16 w24)]; exact h16
      have n129 : bu ≠ dW := hnew h128 wdW
      have n130 : bu ≠ dA := hnew h128 wdA
      have n131 : bu ≠ dQ := hnew h128 wdQ
      have n132 : bu ≠ dM := hnew h128 wdM
      have n133 : bu ≠ dS := hnew h128 wdS
      have n134 : bu ≠ dL := hnew h128 wdL
      have n135 : bu ≠ dR := hnew h128 wdR
      have n136 : bu ≠ dT := hnew h128 wdT
      have n137 : bu ≠ dZ := hnew h128 wdZ
      have n138 : bu ≠ dI := hnew h128 wdI
      have n139 : bu ≠ dH := hnew h128 wdH
      have n140 : bu ≠ dN := hnew h128 wdN
      have n141 : bu ≠ dK := hnew h128 wdK
      have n142 : bu ≠ dJ := hnew h128 wdJ
      have n143 : bu ≠ dU := hnew h128 wdU
      have n144 : bu ≠ dO := hnew h128 wdO
      have n145 : bu ≠ dF := hnew h128 wdF
      have n146 : bu ≠ dP := hnew h128 wdP
      have n147 : bu ≠ dE := hnew h128 wdE
      have n148 : bu ≠ dX := hnew h128 wdX
      have n149 : bu ≠ dY := hnew h128 wdY
      have n150 : bu ≠ dG := hnew h128 wdG
      have n151 : nw0 ≠ mo := hnew h7 w24
      have h152 : f25 nw0 = some (.inl (cI G, 6, .inl (fun j => if j < 6 then (-1) else (fun _ => 0) j))) := by rw [ef25, va_up_ne _ _ (hnew h7 w24)]; exact h7
      have n153 : nw0 ≠ dW := hnew h152 wdW
      have n154 : nw0 ≠ dA := hnew h152 wdA
      have n155 : nw0 ≠ dQ := hnew h152 wdQ
      have n156 : nw0 ≠ dM := hnew h152 wdM
      have n157 : nw0 ≠ dS := hnew h152 wdS
      have n158 : nw0 ≠ dL := hnew h152 wdL
      have n159 : nw0 ≠ dR := hnew h152 wdR
      have n160 : nw0 ≠ dT := hnew h152 wdT
      have n161 : nw0 ≠ dZ := hnew h152 wdZ
      have n162 : nw0 ≠ dI := hnew h152 wdI
      have n163 : nw0 ≠ dH := hnew h152 wdH
      have n164 : nw0 ≠ dN := hnew h152 wdN
      have n165 : nw0 ≠ dK := hnew h152 wdK
      have n166 : nw0 ≠ dJ := hnew h152 wdJ
      have n167 : nw0 ≠ dU := hnew h152 wdU
      have n168 : nw0 ≠ dO := hnew h152 wdO
      have n169 : nw0 ≠ dF := hnew h152 wdF
      have n170 : nw0 ≠ dP := hnew h152 wdP
      have n171 : nw0 ≠ dE := hnew h152 wdE
      have n172 : nw0 ≠ dX := hnew h152 wdX
      have n173 : nw0 ≠ dY := hnew h152 wdY
      have n174 : nw0 ≠ dG := hnew h152 wdG
      have n175 : na0 ≠ mo := hnew h8 w24
      have h176 : f25 na0 = some (.inl (cI G, 6, .inl (fun _ => 0))) := by rw [ef25, va_up_ne _ _ (hnew h8 w24)]; exact h8
      have n177 : na0 ≠ dW := hnew h176 wdW
      have n178 : na0 ≠ dA := hnew h176 wdA
      have n179 : na0 ≠ dQ := hnew h176 wdQ
      have n180 : na0 ≠ dM := hnew h176 wdM
      have n181 : na0 ≠ dS := hnew h176 wdS
      have n182 : na0 ≠ dL := hnew h176 wdL
      have n183 : na0 ≠ dR := hnew h176 wdR
      have n184 : na0 ≠ dT := hnew h176 wdT
      have n185 : na0 ≠ dZ := hnew h176 wdZ
      have n186 : na0 ≠ dI := hnew h176 wdI
      have n187 : na0 ≠ dH := hnew h176 wdH
      have n188 : na0 ≠ dN := hnew h176 wdN
      have n189 : na0 ≠ dK := hnew h176 wdK
      have n190 : na0 ≠ dJ := hnew h176 wdJ
      have n191 : na0 ≠ dU := hnew h176 wdU
      have n192 : na0 ≠ dO := hnew h176 wdO
      have n193 : na0 ≠ dF := hnew h176 wdF
      have n194 : na0 ≠ dP := hnew h176 wdP
      have n195 : na0 ≠ dE := hnew h176 wdE
      have n196 : na0 ≠ dX := hnew h176 wdX
      have n197 : na0 ≠ dY := hnew h176 wdY
      have n198 : na0 ≠ dG := hnew h176 wdG
      have n199 : nq0 ≠ mo := hnew h9 w24
      have h200 : f25 nq0 = some (.inl (cI G, 6, .inl (fun j => if j < 6 then (-1) else (fun _ => 0) j))) := by rw [ef25, va_up_ne _ _ (hnew h9 w24)]; exact h9
      have n201 : nq0 ≠ dW := hnew h200 wdW
      have n202 : nq0 ≠ dA := hnew h200 wdA
      have n203 : nq0 ≠ dQ := hnew h200 wdQ
      have n204 : nq0 ≠ dM := hnew h200 wdM
      have n205 : nq0 ≠ dS := hnew h200 wdS
      have n206 : nq0 ≠ dL := hnew h200 wdL
      have n207 : nq0 ≠ dR := hnew h200 wdR
      have n208 : nq0 ≠ dT := hnew h200 wdT
      have n209 : nq0 ≠ dZ := hnew h200 wdZ
      have n210 : nq0 ≠ dI := hnew h200 wdI
      have n211 : nq0 ≠ dH := hnew h200 wdH
      have n212 : nq0 ≠ dN := hnew h200 wdN
      have n213 : nq0 ≠ dK := hnew h200 wdK
      have n214 : nq0 ≠ dJ := hnew h200 wdJ
      have n215 : nq0 ≠ dU := hnew h200 wdU
      have n216 : nq0 ≠ dO := hnew h200 wdO
      have n217 : nq0 ≠ dF := hnew h200 wdF
      have n218 : nq0 ≠ dP := hnew h200 wdP
      have n219 : nq0 ≠ dE := hnew h200 wdE
      have n220 : nq0 ≠ dX := hnew h200 wdX
      have n221 : nq0 ≠ dY := hnew h200 wdY
      have n222 : nq0 ≠ dG := hnew h200 wdG
      have n223 : nr0 ≠ mo := hnew h10 w24
      have h224 : f25 nr0 = some (.inr (3, [.null, .null, .int 0])) := by rw [ef25, va_up_ne _ _ (hnew h10 w24)]; exact h10
      have n225 : nr0 ≠ dW := hnew h224 wdW
      have n226 : nr0 ≠ dA := hnew h224 wdA
      have n227 : nr0 ≠ dQ := hnew h224 wdQ
      have n228 : nr0 ≠ dM := hnew h224 wdM
      have n229 : nr0 ≠ dS := hnew h224 wdS
      have n230 : nr0 ≠ dL := hnew h224 wdL
      have n231 : nr0 ≠ dR := hnew h224 wdR
      have n232 : nr0 ≠ dT := hnew h224 wdT
      have n233 : nr0 ≠ dZ := hnew h224 wdZ
      have n234 : nr0 ≠ dI := hnew h224 wdI
      have n235 : nr0 ≠ dH := hnew h224 wdH
      have n236 : nr0 ≠ dN := hnew h224 wdN
      have n237 : nr0 ≠ dK := hnew h224 wdK
      have n238 : nr0 ≠ dJ := hnew h224 wdJ
      have n239 : nr0 ≠ dU := hnew h224 wdU
      have n240 : nr0 ≠ dO := hnew h224 wdO
      have n241 : nr0 ≠ dF := hnew h224 wdF
      have n242 : nr0 ≠ dP := hnew h224 wdP
      have n243 : nr0 ≠ dE := hnew h224 wdE
      have n244 : nr0 ≠ dX := hnew h224 wdX
      have n245 : nr0 ≠ dY := hnew h224 wdY
      have n246 : nr0 ≠ dG := hnew h224 wdG
      have n247 : nw1 ≠ mo := hnew h12 w24
      have h248 : f25 nw1 = some (.inl (cI G, 6, .inl (fun j => if j < 6 then (-1) else (fun _ => 0) j))) := by rw [ef25, va_up_ne _ _ (hnew h12 w24)]; exact h12
      have n249 : nw1 ≠ dW := hnew h248 wdW
      have n250 : nw1 ≠ dA := hnew h248 wdA
      have n251 : nw1 ≠ dQ := hnew h248 wdQ
      have n252 : nw1 ≠ dM := hnew h248 wdM
      have n253 : nw1 ≠ dS := hnew h248 wdS
      have n254 : nw1 ≠ dL := hnew h248 wdL
      have n255 : nw1 ≠ dR := hnew h248 wdR
      have n256 : nw1 ≠ dT := hnew h248 wdT
      have n257 : nw1 ≠ dZ := hnew h248 wdZ
      have n258 : nw1 ≠ dI := hnew h248 wdI
      have n259 : nw1 ≠ dH := hnew h248 wdH
      have n260 : nw1 ≠ dN := hnew h248 wdN
      have n261 : nw1 ≠ dK := hnew h248 wdK
      have n262 : nw1 ≠ dJ := hnew h248 wdJ
      have n263 : nw1 ≠ dU := hnew h248 wdU
      have n264 : nw1 ≠ dO := hnew h248 wdO
      have n265 : nw1 ≠ dF := hnew h248 wdF
      have n266 : nw1 ≠ dP := hnew h248 wdP
      have n267 : nw1 ≠ dE := hnew h248 wdE
      have n268 : nw1 ≠ dX := hnew h248 wdX
      have n269 : nw1 ≠ dY := hnew h248 wdY
      have n270 : nw1 ≠ dG := hnew h248 wdG
      have n271 : na1 ≠ mo := hnew h13 w24
      have h272 : f25 na1 = some (.inl (cI G, 6, .inl (fun _ => 0))) := by rw [ef25, va_up_ne _ _ (hnew h13 w24)]; exact h13
      have n273 : na1 ≠ dW := hnew h272 wdW
      have n274 : na1 ≠ dA := hnew h272 wdA
      have n275 : na1 ≠ dQ := hnew h272 wdQ
      have n276 : na1 ≠ dM := hnew h272 wdM
      have n277 : na1 ≠ dS := hnew h272 wdS
      have n278 : na1 ≠ dL := hnew h272 wdL
      have n279 : na1 ≠ dR := hnew h272 wdR
      have n280 : na1 ≠ dT := hnew h272 wdT
      have n281 : na1 ≠ dZ := hnew h272 wdZ
      have n282 : na1 ≠ dI := hnew h272 wdI
      have n283 : na1 ≠ dH := hnew h272 wdH
      have n284 : na1 ≠ dN := hnew h272 wdN
      have n285 : na1 ≠ dK := hnew h272 wdK
      have n286 : na1 ≠ dJ := hnew h272 wdJ
      have n287 : na1 ≠ dU := hnew h272 wdU
      have n288 : na1 ≠ dO := hnew h272 wdO
      have n289 : na1 ≠ dF := hnew h272 wdF
      have n290 : na1 ≠ dP := hnew h272 wdP
      have n291 : na1 ≠ dE := hnew h272 wdE
      have n292 : na1 ≠ dX := hnew h272 wdX
      have n293 : na1 ≠ dY := hnew h272 wdY
      have n294 : na1 ≠ dG := hnew h272 wdG
      have n295 : nq1 ≠ mo := hnew h14 w24
      have h296 : f25 nq1 = some (.inl (cI G, 6, .inl (fun j => if j < 6 then (-1) else (fun _ => 0) j))) := by rw [ef25, va_up_ne _ _ (hnew h14 w24)]; exact h14
      have n297 : nq1 ≠ dW := hnew h296 wdW
      have n298 : nq1 ≠ dA := hnew h296 wdA
      have n299 : nq1 ≠ dQ := hnew h296 wdQ
      have n300 : nq1 ≠ dM := hnew h296 wdM
      have n301 : nq1 ≠ dS := hnew h296 wdS
      have n302 : nq1 ≠ dL := hnew h296 wdL
      have n303 : nq1 ≠ dR := hnew h296 wdR
      have n304 : nq1 ≠ dT := hnew h296 wdT
      have n305 : nq1 ≠ dZ := hnew h296 wdZ
      have n306 : nq1 ≠ dI := hnew h296 wdI
      have n307 : nq1 ≠ dH := hnew h296 wdH
      have n308 : nq1 ≠ dN := hnew h296 wdN
      have n309 : nq1 ≠ dK := hnew h296 wdK
      have n310 : nq1 ≠ dJ := hnew h296 wdJ
      have n311 : nq1 ≠ dU := hnew h296 wdU
      have n312 : nq1 ≠ dO := hnew h296 wdO
      have n313 : nq1 ≠ dF := hnew h296 wdF
      have n314 : nq1 ≠ dP := hnew h296 wdP
      have n315 : nq1 ≠ dE := hnew h296 wdE
      have n316 : nq1 ≠ dX := hnew h296 wdX
      have n317 : nq1 ≠ dY := hnew h296 wdY
      have n318 : nq1 ≠ dG := hnew h296 wdG
      have n319 : nr1 ≠ mo := hnew h15 w24
      have h320 : f25 nr1 = some (.inr (3, [.null, .null, .int 0])) := by rw [ef25, va_up_ne _ _ (hnew h15 w24)]; exact h15
      have n321 : nr1 ≠ dW := hnew h320 wdW
      have n322 : nr1 ≠ dA := hnew h320 wdA
      have n323 : nr1 ≠ dQ := hnew h320 wdQ
      have n324 : nr1 ≠ dM := hnew h320 wdM
      have n325 : nr1 ≠ dS := hnew h320 wdS
      have n326 : nr1 ≠ dL := hnew h320 wdL
      have n327 : nr1 ≠ dR := hnew h320 wdR
      have n328 : nr1 ≠ dT := hnew h320 wdT
      have n329 : nr1 ≠ dZ := hnew h320 wdZ
      have n330 : nr1 ≠ dI := hnew h320 wdI
      have n331 : nr1 ≠ dH := hnew h320 wdH
      have n332 : nr1 ≠ dN := hnew h320 wdN
      have n333 : nr1 ≠ dK := hnew h320 wdK
      have n334 : nr1 ≠ dJ := hnew h320 wdJ
      have n335 : nr1 ≠ dU := hnew h320 wdU
      have n336 : nr1 ≠ dO := hnew h320 wdO
      have n337 : nr1 ≠ dF := hnew h320 wdF
      have n338 : nr1 ≠ dP := hnew h320 wdP
      have n339 : nr1 ≠ dE := hnew h320 wdE
      have n340 : nr1 ≠ dX := hnew h320 wdX
      have n341 : nr1 ≠ dY := hnew h320 wdY
      have n342 : nr1 ≠ dG := hnew h320 wdG
      have n343 : bs ≠ mo := hnew h17 w24
      have h344 : f25 bs = some (.inl (cI G, 61, .inl (fun _ => 0))) := by rw [ef25, va_up_ne _ _ (hnew h17 w24)]; exact h17
      have n345 : bs ≠ dW := hnew h344 wdW
      have n346 : bs ≠ dA := hnew h344 wdA
      have n347 : bs ≠ dQ := hnew h344 wdQ
      have n348 : bs ≠ dM := hnew h344 wdM
      have n349 : bs ≠ dS := hnew h344 wdS
      have n350 : bs ≠ dL := hnew h344 wdL
      have n351 : bs ≠ dR := hnew h344 wdR
      have n352 : bs ≠ dT := hnew h344 wdT
      have n353 : bs ≠ dZ := hnew h344 wdZ
      have n354 : bs ≠ dI := hnew h344 wdI
      have n355 : bs ≠ dH := hnew h344 wdH
      have n356 : bs ≠ dN := hnew h344 wdN
      have n357 : bs ≠ dK := hnew h344 wdK
      have n358 : bs ≠ dJ := hnew h344 wdJ
      have n359 : bs ≠ dU := hnew h344 wdU
      have n360 : bs ≠ dO := hnew h344 wdO
      have n361 : bs ≠ dF := hnew h344 wdF
      have n362 : bs ≠ dP := hnew h344 wdP
      have n363 : bs ≠ dE := hnew h344 wdE
      have n364 : bs ≠ dX := hnew h344 wdX
      have n365 : bs ≠ dY := hnew h344 wdY
      have n366 : bs ≠ dG := hnew h344 wdG
      have n367 : bp ≠ mo := hnew h18 w24
      have h368 : f25 bp = some (.inl (cI G, 240, .inl (fun _ => 0))) := by rw [ef25, va_up_ne _ _ (hnew h18 w24)]; exact h18
      have n369 : bp ≠ dW := hnew h368 wdW
      have n370 : bp ≠ dA := hnew h368 wdA
      have n371 : bp ≠ dQ := hnew h368 wdQ
      have n372 : bp ≠ dM := hnew h368 wdM
      have n373 : bp ≠ dS := hnew h368 wdS
      have n374 : bp ≠ dL := hnew h368 wdL
      have n375 : bp ≠ dR := hnew h368 wdR
      have n376 : bp ≠ dT := hnew h368 wdT
      have n377 : bp ≠ dZ := hnew h368 wdZ
      have n378 : bp ≠ dI := hnew h368 wdI
      have n379 : bp ≠ dH := hnew h368 wdH
      have n380 : bp ≠ dN := hnew h368 wdN
      have n381 : bp ≠ dK := hnew h368 wdK
      have n382 : bp ≠ dJ := hnew h368 wdJ
      have n383 : bp ≠ dU := hnew h368 wdU
      have n384 : bp ≠ dO := hnew h368 wdO
      have n385 : bp ≠ dF := hnew h368 wdF
      have n386 : bp ≠ dP := hnew h368 wdP
      have n387 : bp ≠ dE := hnew h368 wdE
      have n388 : bp ≠ dX := hnew h368 wdX
      have n389 : bp ≠ dY := hnew h368 wdY
      have n390 : bp ≠ dG := hnew h368 wdG
      have n391 : bh ≠ mo := hnew h19 w24
      have h392 : f25 bh = some (.inl (cZ G, 240, .inl (fun _ => 0))) := by rw [ef25, va_up_ne _ _ (hnew h19 w24)]; exact h19
      have n393 : bh ≠ dW := hnew h392 wdW
      have n394 : bh ≠ dA := hnew h392 wdA
      have n395 : bh ≠ dQ := hnew h392 wdQ
      have n396 : bh ≠ dM := hnew h392 wdM
      have n397 : bh ≠ dS := hnew h392 wdS
      have n398 : bh ≠ dL := hnew h392 wdL
      have n399 : bh ≠ dR := hnew h392 wdR
      have n400 : bh ≠ dT := hnew h392 wdT
      have n401 : bh ≠ dZ := hnew h392 wdZ
      have n402 : bh ≠ dI := hnew h392 wdI
      have n403 : bh ≠ dH := hnew h392 wdH
      have n404 : bh ≠ dN := hnew h392 wdN
      have n405 : bh ≠ dK := hnew h392 wdK
      have n406 : bh ≠ dJ := hnew h392 wdJ
      have n407 : bh ≠ dU := hnew h392 wdU
      have n408 : bh ≠ dO := hnew h392 wdO
      have n409 : bh ≠ dF := hnew h392 wdF
      have n410 : bh ≠ dP := hnew h392 wdP
      have n411 : bh ≠ dE := hnew h392 wdE
      have n412 : bh ≠ dX := hnew h392 wdX
      have n413 : bh ≠ dY := hnew h392 wdY
      have n414 : bh ≠ dG := hnew h392 wdG
      have n415 : bf ≠ mo := hnew h20 w24
      have h416 : f25 bf = some (.inl (cI G, 3, .inl (upd (upd (upd (fun _ => 0) (0 : Int32).toNatClampNeg 0) (1 : Int32).toNatClampNeg 1) (2 : Int32).toNatClampNeg 2))) := by rw [ef25, va_up_ne _ _ (hnew h20 w24)]; exact h20
      have n417 : bf ≠ dW := hnew h416 wdW
      have n418 : bf ≠ dA := hnew h416 wdA
      have n419 : bf ≠ dQ := hnew h416 wdQ
      have n420 : bf ≠ dM := hnew h416 wdM
      have n421 : bf ≠ dS := hnew h416 wdS
      have n422 : bf ≠ dL := hnew h416 wdL
      have n423 : bf ≠ dR := hnew h416 wdR
      have n424 : bf ≠ dT := hnew h416 wdT
      have n425 : bf ≠ dZ := hnew h416 wdZ
      have n426 : bf ≠ dI := hnew h416 wdI
      have n427 : bf ≠ dH := hnew h416 wdH
      have n428 : bf ≠ dN := hnew h416 wdN
      have n429 : bf ≠ dK := hnew h416 wdK
      have n430 : bf ≠ dJ := hnew h416 wdJ
      have n431 : bf ≠ dU := hnew h416 wdU
      have n432 : bf ≠ dO := hnew h416 wdO
      have n433 : bf ≠ dF := hnew h416 wdF
      have n434 : bf ≠ dP := hnew h416 wdP
      have n435 : bf ≠ dE := hnew h416 wdE
      have n436 : bf ≠ dX := hnew h416 wdX
      have n437 : bf ≠ dY := hnew h416 wdY
      have n438 : bf ≠ dG := hnew h416 wdG
      have n439 : bl ≠ mo := hnew h21 w24
      have h440 : f25 bl = some (.inl (cI G, 3, .inl (fun j => if j < 3 then (-1) else (fun _ => 0) j))) := by rw [ef25, va_up_ne _ _ (hnew h21 w24)]; exact h21
      have n441 : bl ≠ dW := hnew h440 wdW
      have n442 : bl ≠ dA := hnew h440 wdA
      have n443 : bl ≠ dQ := hnew h440 wdQ
      have n444 : bl ≠ dM := hnew h440 wdM
      have n445 : bl ≠ dS := hnew h440 wdS
      have n446 : bl ≠ dL := hnew h440 wdL
      have n447 : bl ≠ dR := hnew h440 wdR
      have n448 : bl ≠ dT := hnew h440 wdT
      have n449 : bl ≠ dZ := hnew h440 wdZ
      have n450 : bl ≠ dI := hnew h440 wdI
      have n451 : bl ≠ dH := hnew h440 wdH
      have n452 : bl ≠ dN := hnew h440 wdN
      have n453 : bl ≠ dK := hnew h440 wdK
      have n454 : bl ≠ dJ := hnew h440 wdJ
      have n455 : bl ≠ dU := hnew h440 wdU
      have n456 : bl ≠ dO := hnew h440 wdO
      have n457 : bl ≠ dF := hnew h440 wdF
      have n458 : bl ≠ dP := hnew h440 wdP
      have n459 : bl ≠ dE := hnew h440 wdE
      have n460 : bl ≠ dX := hnew h440 wdX
      have n461 : bl ≠ dY := hnew h440 wdY
      have n462 : bl ≠ dG := hnew h440 wdG
      have n463 : bg ≠ mo := hnew h22 w24
      have h464 : f25 bg = some (.inl (cI G, 60, .inl (fun _ => 0))) := by rw [ef25, va_up_ne _ _ (hnew h22 w24)]; exact h22
      have n465 : bg ≠ dW := hnew h464 wdW
      have n466 : bg ≠ dA := hnew h464 wdA
      have n467 : bg ≠ dQ := hnew h464 wdQ
      have n468 : bg ≠ dM := hnew h464 wdM
      have n469 : bg ≠ dS := hnew h464 wdS
      have n470 : bg ≠ dL := hnew h464 wdL
      have n471 : bg ≠ dR := hnew h464 wdR
      have n472 : bg ≠ dT := hnew h464 wdT
      have n473 : bg ≠ dZ := hnew h464 wdZ
      have n474 : bg ≠ dI := hnew h464 wdI
      have n475 : bg ≠ dH := hnew h464 wdH
      have n476 : bg ≠ dN := hnew h464 wdN
      have n477 : bg ≠ dK := hnew h464 wdK
      have n478 : bg ≠ dJ := hnew h464 wdJ
      have n479 : bg ≠ dU := hnew h464 wdU
      have n480 : bg ≠ dO := hnew h464 wdO
      have n481 : bg ≠ dF := hnew h464 wdF
      have n482 : bg ≠ dP := hnew h464 wdP
      have n483 : bg ≠ dE := hnew h464 wdE
      have n484 : bg ≠ dX := hnew h464 wdX
      have n485 : bg ≠ dY := hnew h464 wdY
      have n486 : bg ≠ dG := hnew h464 wdG
      have h487 : f27 xo = some (.inr (4, [.ref ez, .ref eo, .ref bu])) := k51 _ _ h56 (ninc n55 nin0)
      have n488 : xo ≠ out := hnew h487 w52
      have h489 : f27 ez = some (.inr (1, [.ref nw0, .ref na0, .ref nq0, .ref nr0, .int 1, .int 0, .int 0, .int 0, .int (-1), .int 0, .int 0])) := k51 _ _ h80 (ninc n79 nin0)
      have n490 : ez ≠ out := hnew h489 w52
      have h491 : f27 eo = some (.inr (1, [.ref nw1, .ref na1, .ref nq1, .ref nr1, .int 2, .int 0, .int 0, .int 0, .int (-1), .int 0, .int 0])) := k51 _ _ h104 (ninc n103 nin0)
      have n492 : eo ≠ out := hnew h491 w52
      have h493 : f27 bu = some (.inr (0, [.ref bs, .ref bp, .ref bh, .ref bf, .ref bl, .ref bg, .int 0, .int 0, .int 0])) := k51 _ _ h128 (ninc n127 nin0)
      have n494 : bu ≠ out := hnew h493 w52
      have h495 : f27 nw0 = some (.inl (cI G, 6, .inl (fun j => if j < 6 then (-1) else (fun _ => 0) j))) := k51 _ _ h152 (ninc n151 nin0)
      have n496 : nw0 ≠ out := hnew h495 w52
      have h497 : f27 na0 = some (.inl (cI G, 6, .inl (fun _ => 0))) := k51 _ _ h176 (ninc n175 nin0)
      have n498 : na0 ≠ out := hnew h497 w52
      have h499 : f27 nq0 = some (.inl (cI G, 6, .inl (fun j => if j < 6 then (-1) else (fun _ => 0) j))) := k51 _ _ h200 (ninc n199 nin0)
      have n500 : nq0 ≠ out := hnew h499 w52
      have h501 : f27 nr0 = some (.inr (3, [.null, .null, .int 0])) := k51 _ _ h224 (ninc n223 nin0)
      have n502 : nr0 ≠ out := hnew h501 w52
      have h503 : f27 nw1 = some (.inl (cI G, 6, .inl (fun j => if j < 6 then (-1) else (fun _ => 0) j))) := k51 _ _ h248 (ninc n247 nin0)
      have n504 : nw1 ≠ out := hnew h503 w52
      have h505 : f27 na1 = some (.inl (cI G, 6, .inl (fun _ => 0))) := k51 _ _ h272 (ninc n271 nin0)
      have n506 : na1 ≠ out := hnew h505 w52
      have h507 : f27 nq1 = some (.inl (cI G, 6, .inl (fun j => if j < 6 then (-1) else (fun _ => 0) j))) := k51 _ _ h296 (ninc n295 nin0)
      have n508 : nq1 ≠ out := hnew h507 w52
      have h509 : f27 nr1 = some (.inr (3, [.null, .null, .int 0])) := k51 _ _ h320 (ninc n319 nin0)
      have n510 : nr1 ≠ out := hnew h509 w52
      have h511 : f27 bs = some (.inl (cI G, 61, .inl (fun _ => 0))) := k51 _ _ h344 (ninc n343 nin0)
      have n512 : bs ≠ out := hnew h511 w52
      have h513 : f27 bp = some (.inl (cI G, 240, .inl (fun _ => 0))) := k51 _ _ h368 (ninc n367 nin0)
      have n514 : bp ≠ out := hnew h513 w52
      have h515 : f27 bh = some (.inl (cZ G, 240, .inl (fun _ => 0))) := k51 _ _ h392 (ninc n391 nin0)
      have n516 : bh ≠ out := hnew h515 w52
      have h517 : f27 bf = some (.inl (cI G, 3, .inl (upd (upd (upd (fun _ => 0) (0 : Int32).toNatClampNeg 0) (1 : Int32).toNatClampNeg 1) (2 : Int32).toNatClampNeg 2))) := k51 _ _ h416 (ninc n415 nin0)
      have n518 : bf ≠ out := hnew h517 w52
      have h519 : f27 bl = some (.inl (cI G, 3, .inl (fun j => if j < 3 then (-1) else (fun _ => 0) j))) := k51 _ _ h440 (ninc n439 nin0)
      have n520 : bl ≠ out := hnew h519 w52
      have h521 : f27 bg = some (.inl (cI G, 60, .inl (fun _ => 0))) := k51 _ _ h464 (ninc n463 nin0)
      have n522 : bg ≠ out := hnew h521 w52
      have n523 : mo ≠ out := hnew h28 w52
      have n524 : dW ≠ out := hnew h29 w52
      have n525 : dA ≠ out := hnew h30 w52
      have n526 : dQ ≠ out := hnew h31 w52
      have n527 : dM ≠ out := hnew h32 w52
      have n528 : dS ≠ out := hnew h33 w52
      have n529 : dL ≠ out := hnew h34 w52
      have n530 : dR ≠ out := hnew h35 w52
      have n531 : dT ≠ out := hnew h36 w52
      have n532 : dZ ≠ out := hnew h37 w52
      have n533 : dI ≠ out := hnew h38 w52
      have n534 : dH ≠ out := hnew h39 w52
      have n535 : dN ≠ out := hnew h40 w52
      have n536 : dK ≠ out := hnew h41 w52
      have n537 : dJ ≠ out := hnew h42 w52
      have n538 : dU ≠ out := hnew h43 w52
      have n539 : dO ≠ out := hnew h44 w52
      have n540 : dF ≠ out := hnew h45 w52
      have n541 : dP ≠ out := hnew h46 w52
      have n542 : dE ≠ out := hnew h47 w52
      have n543 : dX ≠ out := hnew h48 w52
      have n544 : dY ≠ out := hnew h49 w52
      have n545 : dG ≠ out := hnew h50 w52
      have hdis : ∀ p, p ∈ [xo, ez, eo, bu, nw0, na0, nq0, nr0, nw1, na1, nq1, nr1, bs, bp, bh, bf, bl, bg] → p ∉ [mo, dW, dA, dQ, dM, dS, dL, dR, dT, dZ, dI, dH, dN, dK, dJ, dU, dO, dF, dP, dE, dX, dY, dG] := by
        intro p hp
        simp only [List.mem_cons, List.not_mem_nil, or_false] at hp
        rcases hp with hp | hp | hp | hp | hp | hp | hp | hp | hp | hp | hp | hp | hp | hp | hp | hp | hp | hp
        · rw [hp]; exact (ninc n55 (ninc n57 (ninc n58 (ninc n59 (ninc n60 (ninc n61 (ninc n62 (ninc n63 (ninc n64 (ninc n65 (ninc n66 (ninc n67 (ninc n68 (ninc n69 (ninc n70 (ninc n71 (ninc n72 (ninc n73 (ninc n74 (ninc n75 (ninc n76 (ninc n77 (ninc n78 nin0)))))))))))))))))))))))
        · rw [hp]; exact (ninc n79 (ninc n81 (ninc n82 (ninc n83 (ninc n84 (ninc n85 (ninc n86 (ninc n87 (ninc n88 (ninc n89 (ninc n90 (ninc n91 (ninc n92 (ninc n93 (ninc n94 (ninc n95 (ninc n96 (ninc n97 (ninc n98 (ninc n99 (ninc n100 (ninc n101 (ninc n102 nin0)))))))))))))))))))))))
        · rw [hp]; exact (ninc n103 (ninc n105 (ninc n106 (ninc n107 (ninc n108 (ninc n109 (ninc n110 (ninc n111 (ninc n112 (ninc n113 (ninc n114 (ninc n115 (ninc n116 (ninc n117 (ninc n118 (ninc n119 (ninc n120 (ninc n121 (ninc n122 (ninc n123 (ninc n124 (ninc n125 (ninc n126 nin0)))))))))))))))))))))))
        · rw [hp]; exact (ninc n127 (ninc n129 (ninc n130 (ninc n131 (ninc n132 (ninc n133 (ninc n134 (ninc n135 (ninc n136 (ninc n137 (ninc n138 (ninc n139 (ninc n140 (ninc n141 (ninc n142 (ninc n143 (ninc n144 (ninc n145 (ninc n146 (ninc n147 (ninc n148 (ninc n149 (ninc n150 nin0)))))))))))))))))))))))
        · rw [hp]; exact (ninc n151 (ninc n153 (ninc n154 (ninc n155 (ninc n156 (ninc n157 (ninc n158 (ninc n159 (ninc n160 (ninc n161 (ninc n162 (ninc n163 (ninc n164 (ninc n165 (ninc n166 (ninc n167 (ninc n168 (ninc n169 (ninc n170 (ninc n171 (ninc n172 (ninc n173 (ninc n174 nin0)))))))))))))))))))))))
        · rw [hp]; exact (ninc n175 (ninc n177 (ninc n178 (ninc n179 (ninc n180 (ninc n181 (ninc n182 (ninc n183 (ninc n184 (ninc n185 (ninc n186 (ninc n187 (ninc n188 (ninc n189 (ninc n190 (ninc n191 (ninc n192 (ninc n193 (ninc n194 (ninc n195 (ninc n196 (ninc n197 (ninc n198 nin0)))))))))))))))))))))))
        · rw [hp]; exact (ninc n199 (ninc n201 (ninc n202 (ninc n203 (ninc n204 (ninc n205 (ninc n206 (ninc n207 (ninc n208 (ninc n209 (ninc n210 (ninc n211 (ninc n212 (ninc n213 (ninc n214 (ninc n215 (ninc n216 (ninc n217 (ninc n218 (ninc n219 (ninc n220 (ninc n221 (ninc n222 nin0)))))))))))))))))))))))
        · rw [hp]; exact (ninc n223 (ninc n225 (ninc n226 (ninc n227 (ninc n228 (ninc n229 (ninc n230 (ninc n231 (ninc n232 (ninc n233 (ninc n234 (ninc n235 (ninc n236 (ninc n237 (ninc n238 (ninc n239 (ninc n240 (ninc n241 (ninc n242 (ninc n243 (ninc n244 (ninc n245 (ninc n246 nin0)))))))))))))))))))))))
        · rw [hp]; exact (ninc n247 (ninc n249 (ninc n250 (ninc n251 (ninc n252 (ninc n253 (ninc n254 (ninc n255 (ninc n256 (ninc n257 (ninc n258 (ninc n259 (ninc n260 (ninc n261 (ninc n262 (ninc n263 (ninc n264 (ninc n265 (ninc n266 (ninc n267 (ninc n268 (ninc n269 (ninc n270 nin0)))))))))))))))))))))))
        · rw [hp]; exact (ninc n271 (ninc n273 (ninc n274 (ninc n275 (ninc n276 (ninc n277 (ninc n278 (ninc n279 (ninc n280 (ninc n281 (ninc n282 (ninc n283 (ninc n284 (ninc n285 (ninc n286 (ninc n287 (ninc n288 (ninc n289 (ninc n290 (ninc n291 (ninc n292 (ninc n293 (ninc n294 nin0)))))))))))))))))))))))
        · rw [hp]; exact (ninc n295 (ninc n297 (ninc n298 (ninc n299 (ninc n300 (ninc n301 (ninc n302 (ninc n303 (ninc n304 (ninc n305 (ninc n306 (ninc n307 (ninc n308 (ninc n309 (ninc n310 (ninc n311 (ninc n312 (ninc n313 (ninc n314 (ninc n315 (ninc n316 (ninc n317 (ninc n318 nin0)))))))))))))))))))))))
        · rw [hp]; exact (ninc n319 (ninc n321 (ninc n322 (ninc n323 (ninc n324 (ninc n325 (ninc n326 (ninc n327 (ninc n328 (ninc n329 (ninc n330 (ninc n331 (ninc n332 (ninc n333 (ninc n334 (ninc n335 (ninc n336 (ninc n337 (ninc n338 (ninc n339 (ninc n340 (ninc n341 (ninc n342 nin0)))))))))))))))))))))))
        · rw [hp]; exact (ninc n343 (ninc n345 (ninc n346 (ninc n347 (ninc n348 (ninc n349 (ninc n350 (ninc n351 (ninc n352 (ninc n353 (ninc n354 (ninc n355 (ninc n356 (ninc n357 (ninc n358 (ninc n359 (ninc n360 (ninc n361 (ninc n362 (ninc n363 (ninc n364 (ninc n365 (ninc n366 nin0)))))))))))))))))))))))
        · rw [hp]; exact (ninc n367 (ninc n369 (ninc n370 (ninc n371 (ninc n372 (ninc n373 (ninc n374 (ninc n375 (ninc n376 (ninc n377 (ninc n378 (ninc n379 (ninc n380 (ninc n381 (ninc n382 (ninc n383 (ninc n384 (ninc n385 (ninc n386 (ninc n387 (ninc n388 (ninc n389 (ninc n390 nin0)))))))))))))))))))))))
        · rw [hp]; exact (ninc n391 (ninc n393 (ninc n394 (ninc n395 (ninc n396 (ninc n397 (ninc n398 (ninc n399 (ninc n400 (ninc n401 (ninc n402 (ninc n403 (ninc n404 (ninc n405 (ninc n406 (ninc n407 (ninc n408 (ninc n409 (ninc n410 (ninc n411 (ninc n412 (ninc n413 (ninc n414 nin0)))))))))))))))))))))))
        · rw [hp]; exact (ninc n415 (ninc n417 (ninc n418 (ninc n419 (ninc n420 (ninc n421 (ninc n422 (ninc n423 (ninc n424 (ninc n425 (ninc n426 (ninc n427 (ninc n428 (ninc n429 (ninc n430 (ninc n431 (ninc n432 (ninc n433 (ninc n434 (ninc n435 (ninc n436 (ninc n437 (ninc n438 nin0)))))))))))))))))))))))
        · rw [hp]; exact (ninc n439 (ninc n441 (ninc n442 (ninc n443 (ninc n444 (ninc n445 (ninc n446 (ninc n447 (ninc n448 (ninc n449 (ninc n450 (ninc n451 (ninc n452 (ninc n453 (ninc n454 (ninc n455 (ninc n456 (ninc n457 (ninc n458 (ninc n459 (ninc n460 (ninc n461 (ninc n462 nin0)))))))))))))))))))))))
        · rw [hp]; exact (ninc n463 (ninc n465 (ninc n466 (ninc n467 (ninc n468 (ninc n469 (ninc n470 (ninc n471 (ninc n472 (ninc n473 (ninc n474 (ninc n475 (ninc n476 (ninc n477 (ninc n478 (ninc n479 (ninc n480 (ninc n481 (ninc n482 (ninc n483 (ninc n484 (ninc n485 (ninc n486 nin0)))))))))))))))))))))))
      have hdos : ∀ p, p ∈ [mo, dW, dA, dQ, dM, dS, dL, dR, dT, dZ, dI, dH, dN, dK, dJ, dU, dO, dF, dP, dE, dX, dY, dG] → p ∉ [out, xo, ez, eo, bu, nw0, na0, nq0, nr0, nw1, na1, nq1, nr1, bs, bp, bh, bf, bl, bg] := by
        intro p hp
        simp only [List.mem_cons, List.not_mem_nil, or_false] at hp
        rcases hp with hp | hp | hp | hp | hp | hp | hp | hp | hp | hp | hp | hp | hp | hp | hp | hp | hp | hp | hp | hp | hp | hp | hp
        · rw [hp]; exact (ninc n523 (ninc (Ne.symm n55) (ninc (Ne.symm n79) (ninc (Ne.symm n103) (ninc (Ne.symm n127) (ninc (Ne.symm n151) (ninc (Ne.symm n175) (ninc (Ne.symm n199) (ninc (Ne.symm n223) (ninc (Ne.symm n247) (ninc (Ne.symm n271) (ninc (Ne.symm n295) (ninc (Ne.symm n319) (ninc (Ne.symm n343) (ninc (Ne.symm n367) (ninc (Ne.symm n391) (ninc (Ne.symm n415) (ninc (Ne.symm n439) (ninc (Ne.symm n463) nin0)))))))))))))))))))
        · rw [hp]; exact (ninc n524 (ninc (Ne.symm n57) (ninc (Ne.symm n81) (ninc (Ne.symm n105) (ninc (Ne.symm n129) (ninc (Ne.symm n153) (ninc (Ne.symm n177) (ninc (Ne.symm n201) (ninc (Ne.symm n225) (ninc (Ne.symm n249) (ninc (Ne.symm n273) (ninc (Ne.symm n297) (ninc (Ne.symm n321) (ninc (Ne.symm n345) (ninc (Ne.symm n369) (ninc (Ne.symm n393) (ninc (Ne.symm n417) (ninc (Ne.symm n441) (ninc (Ne.symm n465) nin0)))))))))))))))))))
        · rw [hp]; exact (ninc n525 (ninc (Ne.symm n58) (ninc (Ne.symm n82) (ninc (Ne.symm n106) (ninc (Ne.symm n130) (ninc (Ne.symm n154) (ninc (Ne.symm n178) (ninc (Ne.symm n202) (ninc (Ne.symm n226) (ninc (Ne.symm n250) (ninc (Ne.symm n274) (ninc (Ne.symm n298) (ninc (Ne.symm n322) (ninc (Ne.symm n346) (ninc (Ne.symm n370) (ninc (Ne.symm n394) (ninc (Ne.symm n418) (ninc (Ne.symm n442) (ninc (Ne.symm n466) nin0)))))))))))))))))))
        · rw [hp]; exact (ninc n526 (ninc (Ne.symm n59) (ninc (Ne.symm n83) (ninc (Ne.symm n107) (ninc (Ne.symm n131) (ninc (Ne.symm n155) (ninc (Ne.symm n179) (ninc (Ne.symm n203) (ninc (Ne.symm n227) (ninc (Ne.symm n251) (ninc (Ne.symm n275) (ninc (Ne.symm n299) (ninc (Ne.symm n323) (ninc (Ne.symm n347) (ninc (Ne.symm n371) (ninc (Ne.symm n395) (ninc (Ne.symm n419) (ninc (Ne.symm n443) (ninc (Ne.symm n467) nin0)))))))))))))))))))
        · rw [hp]; exact (ninc n527 (ninc (Ne.symm n60) (ninc (Ne.symm n84) (ninc (Ne.symm n108) (ninc (Ne.symm n132) (ninc (Ne.symm n156) (ninc (Ne.symm n180) (ninc (Ne.symm n204) (ninc (Ne.symm n228) (ninc (Ne.symm n252) (ninc (Ne.symm n276) (ninc (Ne.symm n300) (ninc (Ne.symm n324) (ninc (Ne.symm n348) (ninc (Ne.symm n372) (ninc (Ne.symm n396) (ninc (Ne.symm n420) (ninc (Ne.symm n444) (ninc (Ne.symm n468) nin0)))))))))))))))))))
        · rw [hp]; exact (ninc n528 (ninc (Ne.symm n61) (ninc (Ne.symm n85) (ninc (Ne.symm n109) (ninc (Ne.symm n133) (ninc (Ne.symm n157) (ninc (Ne.symm n181) (ninc (Ne.symm n205) (ninc (Ne.symm n229) (ninc (Ne.symm n253) (ninc (Ne.symm n277) (ninc (Ne.symm n301) (ninc (Ne.symm n325) (ninc (Ne.symm n349) (ninc (Ne.symm n373) (ninc (Ne.symm n397) (ninc (Ne.symm n421) (ninc (Ne.symm n445) (ninc (Ne.symm n469) nin0)))))))))))))))))))
        · rw [hp]; exact (ninc n529 (ninc (Ne.symm n62) (ninc (Ne.symm n86) (ninc (Ne.symm n110) (ninc (Ne.symm n134) (ninc (Ne.symm n158) (ninc (Ne.symm n182) (ninc (Ne.symm n206) (ninc (Ne.symm n230) (ninc (Ne.symm n254) (ninc (Ne.symm n278) (ninc (Ne.symm n302) (ninc (Ne.symm n326) (ninc (Ne.symm n350) (ninc (Ne.symm n374) (ninc (Ne.symm n398) (ninc (Ne.symm n422) (ninc (Ne.symm n446) (ninc (Ne.symm n470) nin0)))))))))))))))))))
        · rw [hp]; exact (ninc n530 (ninc (Ne.symm n63) (ninc (Ne.symm n87) (ninc (Ne.symm n111) (ninc (Ne.symm n135) (ninc (Ne.symm n159) (ninc (Ne.symm n183) (ninc (Ne.symm n207) (ninc (Ne.symm n231) (ninc (Ne.symm n255) (ninc (Ne.symm n279) (ninc (Ne.symm n303) (ninc (Ne.symm n327) (ninc (Ne.symm n351) (ninc (Ne.symm n375) (ninc (Ne.symm n399) (ninc (Ne.symm n423) (ninc (Ne.symm n447) (ninc (Ne.symm n471) nin0)))))))))))))))))))
        · rw [hp]; exact (ninc n531 (ninc (Ne.symm n64) (ninc (Ne.symm n88) (ninc (Ne.symm n112) (ninc (Ne.symm n136) (ninc (Ne.symm n160) (ninc (Ne.symm n184) (ninc (Ne.symm n208) (ninc (Ne.symm n232) (ninc (Ne.symm n256) (ninc (Ne.symm n280) (ninc (Ne.symm n304) (ninc (Ne.symm n328) (ninc (Ne.symm n352) (ninc (Ne.symm n376) (ninc (Ne.symm n400) (ninc (Ne.symm n424) (ninc (Ne.symm n448) (ninc (Ne.symm n472) nin0)))))))))))))))))))
        · rw [hp]; exact (ninc n532 (ninc (Ne.symm n65) (ninc (Ne.symm n89) (ninc (Ne.symm n113) (ninc (Ne.symm n137) (ninc (Ne.symm n161) (ninc (Ne.symm n185) (ninc (Ne.symm n209) (ninc (Ne.symm n233) (ninc (Ne.symm n257) (ninc (Ne.symm n281) (ninc (Ne.symm n305) (ninc (Ne.symm n329) (ninc (Ne.symm n353) (ninc (Ne.symm n377) (ninc (Ne.symm n401) (ninc (Ne.symm n425) (ninc (Ne.symm n449) (ninc (Ne.symm n473) nin0)))))))))))))))))))
        · rw [hp]; exact (ninc n533 (ninc (Ne.symm n66) (ninc (Ne.symm n90) (ninc (Ne.symm n114) (ninc (Ne.symm n138) (ninc (Ne.symm n162) (ninc (Ne.symm n186) (ninc (Ne.symm n210) (ninc (Ne.symm n234) (ninc (Ne.symm n258) (ninc (Ne.symm n282) (ninc (Ne.symm n306) (ninc (Ne.symm n330) (ninc (Ne.symm n354) (ninc (Ne.symm n378) (ninc (Ne.symm n402) (ninc (Ne.symm n426) (ninc (Ne.symm n450) (ninc (Ne.symm n474) nin0)))))))))))))))))))
        · rw [hp]; exact (ninc n534 (ninc (Ne.symm n67) (ninc (Ne.symm n91) (ninc (Ne.symm n115) (ninc (Ne.symm n139) (ninc (Ne.symm n163) (ninc (Ne.symm n187) (ninc (Ne.symm n211) (ninc (Ne.symm n235) (ninc (Ne.symm n259) (ninc (Ne.symm n283) (ninc (Ne.symm n307) (ninc (Ne.symm n331) (ninc (Ne.symm n355) (ninc (Ne.symm n379) (ninc (Ne.symm n403) (ninc (Ne.symm n427) (ninc (Ne.symm n451) (ninc (Ne.symm n475) nin0)))))))))))))))))))
        · rw [hp]; exact (ninc n535 (ninc (Ne.symm n68) (ninc (Ne.symm n92) (ninc (Ne.symm n116) (ninc (Ne.symm n140) (ninc (Ne.symm n164) (ninc (Ne.symm n188) (ninc (Ne.symm n212) (ninc (Ne.symm n236) (ninc (Ne.symm n260) (ninc (Ne.symm n284) (ninc (Ne.symm n308) (ninc (Ne.symm n332) (ninc (Ne.symm n356) (ninc (Ne.symm n380) (ninc (Ne.symm n404) (ninc (Ne.symm n428) (ninc (Ne.symm n452) (ninc (Ne.symm n476) nin0)))))))))))))))))))
        · rw [hp]; exact (ninc n536 (ninc (Ne.symm n69) (ninc (Ne.symm n93) (ninc (Ne.symm n117) (ninc (Ne.symm n141) (ninc (Ne.symm n165) (ninc (Ne.symm n189) (ninc (Ne.symm n213) (ninc (Ne.symm n237) (ninc (Ne.symm n261) (ninc (Ne.symm n285) (ninc (Ne.symm n309) (ninc (Ne.symm n333) (ninc (Ne.symm n357) (ninc (Ne.symm n381) (ninc (Ne.symm n405) (ninc (Ne.symm n429) (ninc (Ne.symm n453) (ninc (Ne.symm n477) nin0)))))))))))))))))))
        · rw [hp]; exact (ninc n537 (ninc (Ne.symm n70) (ninc (Ne.symm n94) (ninc (Ne.symm n118) (ninc (Ne.symm n142) (ninc (Ne.symm n166) (ninc (Ne.symm n190) (ninc (Ne.symm n214) (ninc (Ne.symm n238) (ninc (Ne.symm n262) (ninc (Ne.symm n286) (ninc (Ne.symm n310) (ninc (Ne.symm n334) (ninc (Ne.symm n358) (ninc (Ne.symm n382) (ninc (Ne.symm n406) (ninc (Ne.symm n430) (ninc (Ne.symm n454) (ninc (Ne.symm n478) nin0)))))))))))))))))))
        · rw [hp]; exact (ninc n538 (ninc (Ne.symm n71) (ninc (Ne.symm n95) (ninc (Ne.symm n119) (ninc (Ne.symm n143) (ninc (Ne.symm n167) (ninc (Ne.symm n191) (ninc (Ne.symm n215) (ninc (Ne.symm n239) (ninc (Ne.symm n263) (ninc (Ne.symm n287) (ninc (Ne.symm n311) (ninc (Ne.symm n335) (ninc (Ne.symm n359) (ninc (Ne.symm n383) (ninc (Ne.symm n407) (ninc (Ne.symm n431) (ninc (Ne.symm n455) (ninc (Ne.symm n479) nin0)))))))))))))))))))
        · rw [hp]; exact (ninc n539 (ninc (Ne.symm n72) (ninc (Ne.symm n96) (ninc (Ne.symm n120) (ninc (Ne.symm n144) (ninc (Ne.symm n168) (ninc (Ne.symm n192) (ninc (Ne.symm n216) (ninc (Ne.symm n240) (ninc (Ne.symm n264) (ninc (Ne.symm n288) (ninc (Ne.symm n312) (ninc (Ne.symm n336) (ninc (Ne.symm n360) (ninc (Ne.symm n384) (ninc (Ne.symm n408) (ninc (Ne.symm n432) (ninc (Ne.symm n456) (ninc (Ne.symm n480) nin0)))))))))))))))))))
        · rw [hp]; exact (ninc n540 (ninc (Ne.symm n73) (ninc (Ne.symm n97) (ninc (Ne.symm n121) (ninc (Ne.symm n145) (ninc (Ne.symm n169) (ninc (Ne.symm n193) (ninc (Ne.symm n217) (ninc (Ne.symm n241) (ninc (Ne.symm n265) (ninc (Ne.symm n289) (ninc (Ne.symm n313) (ninc (Ne.symm n337) (ninc (Ne.symm n361) (ninc (Ne.symm n385) (ninc (Ne.symm n409) (ninc (Ne.symm n433) (ninc (Ne.symm n457) (ninc (Ne.symm n481) nin0)))))))))))))))))))
        · rw [hp]; exact (ninc n541 (ninc (Ne.symm n74) (ninc (Ne.symm n98) (ninc (Ne.symm n122) (ninc (Ne.symm n146) (ninc (Ne.symm n170) (ninc (Ne.symm n194) (ninc (Ne.symm n218) (ninc (Ne.symm n242) (ninc (Ne.symm n266) (ninc (Ne.symm n290) (ninc (Ne.symm n314) (ninc (Ne.symm n338) (ninc (Ne.symm n362) (ninc (Ne.symm n386) (ninc (Ne.symm n410) (ninc (Ne.symm n434) (ninc (Ne.symm n458) (ninc (Ne.symm n482) nin0)))))))))))))))))))
        · rw [hp]; exact (ninc n542 (ninc (Ne.symm n75) (ninc (Ne.symm n99) (ninc (Ne.symm n123) (ninc (Ne.symm n147) (ninc (Ne.symm n171) (ninc (Ne.symm n195) (ninc (Ne.symm n219) (ninc (Ne.symm n243) (ninc (Ne.symm n267) (ninc (Ne.symm n291) (ninc (Ne.symm n315) (ninc (Ne.symm n339) (ninc (Ne.symm n363) (ninc (Ne.symm n387) (ninc (Ne.symm n411) (ninc (Ne.symm n435) (ninc (Ne.symm n459) (ninc (Ne.symm n483) nin0)))))))))))))))))))
        · rw [hp]; exact (ninc n543 (ninc (Ne.symm n76) (ninc (Ne.symm n100) (ninc (Ne.symm n124) (ninc (Ne.symm n148) (ninc (Ne.symm n172) (ninc (Ne.symm n196) (ninc (Ne.symm n220) (ninc (Ne.symm n244) (ninc (Ne.symm n268) (ninc (Ne.symm n292) (ninc (Ne.symm n316) (ninc (Ne.symm n340) (ninc (Ne.symm n364) (ninc (Ne.symm n388) (ninc (Ne.symm n412) (ninc (Ne.symm n436) (ninc (Ne.symm n460) (ninc (Ne.symm n484) nin0)))))))))))))))))))
        · rw [hp]; exact (ninc n544 (ninc (Ne.symm n77) (ninc (Ne.symm n101) (ninc (Ne.symm n125) (ninc (Ne.symm n149) (ninc (Ne.symm n173) (ninc (Ne.symm n197) (ninc (Ne.symm n221) (ninc (Ne.symm n245) (ninc (Ne.symm n269) (ninc (Ne.symm n293) (ninc (Ne.symm n317) (ninc (Ne.symm n341) (ninc (Ne.symm n365) (ninc (Ne.symm n389) (ninc (Ne.symm n413) (ninc (Ne.symm n437) (ninc (Ne.symm n461) (ninc (Ne.symm n485) nin0)))))))))))))))))))
        · rw [hp]; exact (ninc n545 (ninc (Ne.symm n78) (ninc (Ne.symm n102) (ninc (Ne.symm n126) (ninc (Ne.symm n150) (ninc (Ne.symm n174) (ninc (Ne.symm n198) (ninc (Ne.symm n222) (ninc (Ne.symm n246) (ninc (Ne.symm n270) (ninc (Ne.symm n294) (ninc (Ne.symm n318) (ninc (Ne.symm n342) (ninc (Ne.symm n366) (ninc (Ne.symm n390) (ninc (Ne.symm n414) (ninc (Ne.symm n438) (ninc (Ne.symm n462) (ninc (Ne.symm n486) nin0)))))))))))))))))))
      have hno : out ∉ [xo, ez, eo, bu, nw0, na0, nq0, nr0, nw1, na1, nq1, nr1, bs, bp, bh, bf, bl, bg] := (ninc (Ne.symm n488) (ninc (Ne.symm n490) (ninc (Ne.symm n492) (ninc (Ne.symm n494) (ninc (Ne.symm n496) (ninc (Ne.symm n498) (ninc (Ne.symm n500) (ninc (Ne.symm n502) (ninc (Ne.symm n504) (ninc (Ne.symm n506) (ninc (Ne.symm n508) (ninc (Ne.symm n510) (ninc (Ne.symm n512) (ninc (Ne.symm n514) (ninc (Ne.symm n516) (ninc (Ne.symm n518) (ninc (Ne.symm n520) (ninc (Ne.symm n522) nin0))))))))))))))))))
      have hno2 : out ∉ [mo, dW, dA, dQ, dM, dS, dL, dR, dT, dZ, dI, dH, dN, dK, dJ, dU, dO, dF, dP, dE, dX, dY, dG] := (ninc (Ne.symm n523) (ninc (Ne.symm n524) (ninc (Ne.symm n525) (ninc (Ne.symm n526) (ninc (Ne.symm n527) (ninc (Ne.symm n528) (ninc (Ne.symm n529) (ninc (Ne.symm n530) (ninc (Ne.symm n531) (ninc (Ne.symm n532) (ninc (Ne.symm n533) (ninc (Ne.symm n534) (ninc (Ne.symm n535) (ninc (Ne.symm n536) (ninc (Ne.symm n537) (ninc (Ne.symm n538) (ninc (Ne.symm n539) (ninc (Ne.symm n540) (ninc (Ne.symm n541) (ninc (Ne.symm n542) (ninc (Ne.symm n543) (ninc (Ne.symm n544) (ninc (Ne.symm n545) nin0)))))))))))))))))))))))
      have hnf : ∀ a k, f53 a ≠ some (.inr (2, k)) := fun a9 k9 h9 => hf0 a9 k9 (((show NF f f2 from (by rw [ef2]; exact NF.up (Nat.ne_of_beq_eq_false rfl))).tr (znf4.tr ((show NF f4 f25 from (by rw [ef25]; exact NF.up (Nat.ne_of_beq_eq_false rfl))).tr (znf5.tr (show NF f27 f53 from (by rw [ef53]; exact NF.up (Nat.ne_of_beq_eq_false rfl))))))) a9 k9 h9)
      have h546 : f53 xo = some (.inr (4, [.ref ez, .ref eo, .ref bu])) := by rw [ef53, va_up_ne _ _ (hnew h487 w52)]; exact h487
      have h547 : f53 ez = some (.inr (1, [.ref nw0, .ref na0, .ref nq0, .ref nr0, .int 1, .int 0, .int 0, .int 0, .int (-1), .int 0, .int 0])) := by rw [ef53, va_up_ne _ _ (hnew h489 w52)]; exact h489
      have h548 : f53 nq0 = some (.inl (cI G, 6, .inl (fun j => if j < 6 then (-1) else (fun _ => 0) j))) := by rw [ef53, va_up_ne _ _ (hnew h499 w52)]; exact h499
      have h549 : f53 nr0 = some (.inr (3, [.null, .null, .int 0])) := by rw [ef53, va_up_ne _ _ (hnew h501 w52)]; exact h501
      have h550 : f53 eo = some (.inr (1, [.ref nw1, .ref na1, .ref nq1, .ref nr1, .int 2, .int 0, .int 0, .int 0, .int (-1), .int 0, .int 0])) := by rw [ef53, va_up_ne _ _ (hnew h491 w52)]; exact h491
      have h551 : f53 nq1 = some (.inl (cI G, 6, .inl (fun j => if j < 6 then (-1) else (fun _ => 0) j))) := by rw [ef53, va_up_ne _ _ (hnew h507 w52)]; exact h507
      have h552 : f53 nr1 = some (.inr (3, [.null, .null, .int 0])) := by rw [ef53, va_up_ne _ _ (hnew h509 w52)]; exact h509
      have h553 : f53 nw0 = some (.inl (cI G, 6, .inl (fun j => if j < 6 then (-1) else (fun _ => 0) j))) := by rw [ef53, va_up_ne _ _ (hnew h495 w52)]; exact h495
      have h554 : f53 na0 = some (.inl (cI G, 6, .inl (fun _ => 0))) := by rw [ef53, va_up_ne _ _ (hnew h497 w52)]; exact h497
      have h555 : f53 nw1 = some (.inl (cI G, 6, .inl (fun j => if j < 6 then (-1) else (fun _ => 0) j))) := by rw [ef53, va_up_ne _ _ (hnew h503 w52)]; exact h503
      have h556 : f53 na1 = some (.inl (cI G, 6, .inl (fun _ => 0))) := by rw [ef53, va_up_ne _ _ (hnew h505 w52)]; exact h505
      have h557 : f53 bu = some (.inr (0, [.ref bs, .ref bp, .ref bh, .ref bf, .ref bl, .ref bg, .int 0, .int 0, .int 0])) := by rw [ef53, va_up_ne _ _ (hnew h493 w52)]; exact h493
      have h558 : f53 bs = some (.inl (cI G, 61, .inl (fun _ => 0))) := by rw [ef53, va_up_ne _ _ (hnew h511 w52)]; exact h511
      have h559 : f53 bp = some (.inl (cI G, 240, .inl (fun _ => 0))) := by rw [ef53, va_up_ne _ _ (hnew h513 w52)]; exact h513
      have h560 : f53 bh = some (.inl (cZ G, 240, .inl (fun _ => 0))) := by rw [ef53, va_up_ne _ _ (hnew h515 w52)]; exact h515
      have h561 : f53 bf = some (.inl (cI G, 3, .inl (upd (upd (upd (fun _ => 0) (0 : Int32).toNatClampNeg 0) (1 : Int32).toNatClampNeg 1) (2 : Int32).toNatClampNeg 2))) := by rw [ef53, va_up_ne _ _ (hnew h517 w52)]; exact h517
      have h562 : f53 bl = some (.inl (cI G, 3, .inl (fun j => if j < 3 then (-1) else (fun _ => 0) j))) := by rw [ef53, va_up_ne _ _ (hnew h519 w52)]; exact h519
      have h563 : f53 bg = some (.inl (cI G, 60, .inl (fun _ => 0))) := by rw [ef53, va_up_ne _ _ (hnew h521 w52)]; exact h521
      have hC0 : CW G f53 xo ez eo bu nw0 na0 nq0 nr0 nw1 na1 nq1 nr1 bs bp bh bf bl bg (fun j => if j < 6 then (-1) else (fun _ => 0) j) (fun _ => 0) (fun j => if j < 6 then (-1) else (fun _ => 0) j) (fun _ => 0) 1 2 0 0 0 0 (fun _ => 0) (fun _ => 0) fl0 (fun _ => 0) (fun _ => 0) (fun j => if j < 3 then (-1) else (fun _ => 0) j) := ⟨h546, ⟨0, 0, 0, -1, 0, 0, 0, (fun j => if j < 6 then (-1) else (fun _ => 0) j), .null, .null, h547, h548, h549, FRef.nul, FRef.nul, rfl⟩, ⟨0, 0, 0, -1, 0, 0, 0, (fun j => if j < 6 then (-1) else (fun _ => 0) j), .null, .null, h550, h551, h552, FRef.nul, FRef.nul, rfl⟩, h553, h554, h555, h556, h557, h558, h559, h560, (by rw [← F3_fl]; exact h561), h562, h563, (fun a9 k9 h9 _ => absurd h9 (hnf a9 k9)), BOK_0, fl0_ok, nd_ez_eo, nd_nr0_nr1, nd_nw0_na0, nd_nw0_nq0, nd_nw0_nw1, nd_nw0_na1, nd_nw0_nq1, nd_na0_nq0, nd_na0_nw1, nd_na0_na1, nd_na0_nq1, nd_nq0_nw1, nd_nq0_na1, nd_nq0_nq1, nd_nw1_na1, nd_nw1_nq1, nd_na1_nq1, nd_bh_bp, nd_bf_bl⟩
      have h564 : f53 mo = some (.inr (5, [.int 0, .ref dW, .ref dA, .ref dQ, .ref dM, .ref dS, .ref dL, .ref dR, .ref dT, .ref dZ, .ref dI, .ref dH, .ref dN, .ref dK, .ref dJ, .ref dU, .ref dO, .int 0, .int 0, .ref dF, .ref dP, .ref dE, .ref dX, .ref dY, .int 0, .int 0, .ref dG])) := by rw [ef53, va_up_ne _ _ (hnew h28 w52)]; exact h28
      have h565 : f53 dQ = some (.inl (cI G, 12, .inl mA12)) := by rw [ef53, va_up_ne _ _ (hnew h31 w52)]; exact h31
      have h566 : f53 dS = some (.inl (cI G, 2, .inl (fun _ => 0))) := by rw [ef53, va_up_ne _ _ (hnew h33 w52)]; exact h33
      have h567 : f53 dL = some (.inl (cI G, 2, .inl (mA2 (-1) (-1)))) := by rw [ef53, va_up_ne _ _ (hnew h34 w52)]; exact h34
      have h568 : f53 dR = some (.inl (cI G, 2, .inl (fun _ => 0))) := by rw [ef53, va_up_ne _ _ (hnew h35 w52)]; exact h35
      have h569 : f53 dT = some (.inl (cI G, 2, .inl (fun _ => 0))) := by rw [ef53, va_up_ne _ _ (hnew h36 w52)]; exact h36
      have h570 : f53 dZ = some (.inl (cZ G, 2, .inl (fun _ => 0))) := by rw [ef53, va_up_ne _ _ (hnew h37 w52)]; exact h37
      have h571 : f53 dI = some (.inl (cI G, 2, .inl (fun _ => 0))) := by rw [ef53, va_up_ne _ _ (hnew h38 w52)]; exact h38
      have h572 : f53 dH = some (.inl (cI G, 2, .inl (fun _ => 0))) := by rw [ef53, va_up_ne _ _ (hnew h39 w52)]; exact h39
      have h573 : f53 dN = some (.inl (cI G, 2, .inl (fun _ => 0))) := by rw [ef53, va_up_ne _ _ (hnew h40 w52)]; exact h40
      have h574 : f53 dK = some (.inl (cI G, 2048, .inl (fun _ => 0))) := by rw [ef53, va_up_ne _ _ (hnew h41 w52)]; exact h41
      have h575 : f53 dJ = some (.inl (cI G, 2048, .inl (fun _ => 0))) := by rw [ef53, va_up_ne _ _ (hnew h42 w52)]; exact h42
      have h576 : f53 dU = some (.inl (cI G, 2048, .inl (fun _ => 0))) := by rw [ef53, va_up_ne _ _ (hnew h43 w52)]; exact h43
      have h577 : f53 dO = some (.inl (cI G, 2048, .inl (fun _ => 0))) := by rw [ef53, va_up_ne _ _ (hnew h44 w52)]; exact h44
      have h578 : f53 dW = some (.inl (cI G, 12, .inl mA12)) := by rw [ef53, va_up_ne _ _ (hnew h29 w52)]; exact h29
      have h579 : f53 dA = some (.inl (cI G, 12, .inl (fun _ => 0))) := by rw [ef53, va_up_ne _ _ (hnew h30 w52)]; exact h30
      have h580 : f53 dM = some (.inl (cI G, 2, .inl (mA2 1 2))) := by rw [ef53, va_up_ne _ _ (hnew h32 w52)]; exact h32
      have h581 : f53 dF = some (.inl (cI G, 61, .inl (fun _ => 0))) := by rw [ef53, va_up_ne _ _ (hnew h45 w52)]; exact h45
      have h582 : f53 dP = some (.inl (cI G, 240, .inl (fun _ => 0))) := by rw [ef53, va_up_ne _ _ (hnew h46 w52)]; exact h46
      have h583 : f53 dE = some (.inl (cZ G, 240, .inl (fun _ => 0))) := by rw [ef53, va_up_ne _ _ (hnew h47 w52)]; exact h47
      have h584 : f53 dX = some (.inl (cI G, 3, .inl (mA3 0 1 2))) := by rw [ef53, va_up_ne _ _ (hnew h48 w52)]; exact h48
      have h585 : f53 dY = some (.inl (cI G, 3, .inl (mA3 (-1) (-1) (-1)))) := by rw [ef53, va_up_ne _ _ (hnew h49 w52)]; exact h49
      have h586 : f53 dG = some (.inl (cI G, 60, .inl (fun _ => 0))) := by rw [ef53, va_up_ne _ _ (hnew h50 w52)]; exact h50
      have hM0 : MW G f53 mo dW dA dQ dM dS dL dR dT dZ dI dH dN dK dJ dU dO dF dP dE dX dY dG 0 (100 * 0) (fun j => if j < 6 then (-1) else (fun _ => 0) j) (fun _ => 0) (fun j => if j < 6 then (-1) else (fun _ => 0) j) (fun _ => 0) 1 2 0 0 0 0 (fun _ => 0) (fun _ => 0) fl0 (fun _ => 0) (fun _ => 0) (fun j => if j < 3 then (-1) else (fun _ => 0) j) := ⟨h564, ⟨nd_dW_dA, nd_dW_dQ, nd_dA_dQ, nd_dM_dS, nd_dM_dL, nd_dM_dR, nd_dM_dT, nd_dM_dZ, nd_dM_dI, nd_dM_dH, nd_dM_dN, nd_dS_dL, nd_dS_dR, nd_dS_dT, nd_dS_dZ, nd_dS_dI, nd_dS_dH, nd_dS_dN, nd_dL_dR, nd_dL_dT, nd_dL_dZ, nd_dL_dI, nd_dL_dH, nd_dL_dN, nd_dR_dT, nd_dR_dZ, nd_dR_dI, nd_dR_dH, nd_dR_dN, nd_dT_dZ, nd_dT_dI, nd_dT_dH, nd_dT_dN, nd_dZ_dI, nd_dZ_dH, nd_dZ_dN, nd_dI_dH, nd_dI_dN, nd_dH_dN, nd_dK_dJ, nd_dK_dU, nd_dK_dO, nd_dJ_dU, nd_dJ_dO, nd_dU_dO, nd_dP_dE, nd_dX_dY⟩, ⟨_, _, _, _, _, _, _, _, _, _, _, _, _, h565, h566, h567, h568, h569, h570, h571, h572, h573, h574, h575, h576, h577, hHd_0, hMn_0⟩, (by rw [← jn_W]; exact h578), (by rw [← jn_0]; exact h579), h580, h581, h582, h583, (by rw [← mA3_fl]; exact h584), (by rw [← mA3_L]; exact h585), h586, (by rw [← jn_0]; intro j9 hj9; decide), BOK_0, fl0_ok⟩
      obtain ⟨T, hT1, hT2⟩ : ∃ T, 4 * T ≤ L ∧ L < 4 * T + 4 := ⟨L / 4, by omega, by omega⟩
      refine hp_cs (c2 := 42 + 0 * 201) (s2 := 9564 + 0 * 1101) (by rfl) (by rfl) ?_
      refine hp_forC (nL := 7) (pc := 23) (fun j f9 lv9 => ∃ (gw0 : Nat → Int32) (ga0 : Nat → Int32) (gw1 : Nat → Int32) (ga1 : Nat → Int32) (mg0 : Int32) (mg1 : Int32) (n : Nat) (a : Nat) (cg : Nat) (x : Nat) (sa : Nat → Nat) (pk : Nat → Nat) (fl : Nat → Nat) (gv : Nat → Nat) (gh : Nat → Int32) (gl : Nat → Int32), CW G f9 xo ez eo bu nw0 na0 nq0 nr0 nw1 na1 nq1 nr1 bs bp bh bf bl bg gw0 ga0 gw1 ga1 mg0 mg1 n a cg x sa pk fl gv gh gl ∧ (∃ th : Int32, MW G f9 mo dW dA dQ dM dS dL dR dT dZ dI dH dN dK dJ dU dO dF dP dE dX dY dG th (100 * j) gw0 ga0 gw1 ga1 mg0 mg1 n a cg x sa pk fl gv gh gl) ∧ (∃ go : Nat → Int64, f9 out = some (.inl (cJ G, 1, .inr (.inl go)))) ∧ lv9 = [(4, .int (nI (4 * j))), (0, .ref b), (1, .ref xo), (2, .ref mo), (3, .ref out)]) T 42 9564 201 1101 (fun j f9 lv9 H locs ls hj hI hw hS hl9 ih => ?_) (fun f9 lv9 H locs ls hI hw hS hl9 => ?_) T 0 (by omega) f53 _ _ _ ls ⟨_, _, _, _, _, _, _, _, _, _, _, _, _, _, _, _, hC0, ⟨_, hM0⟩, ⟨_, h54⟩, rfl⟩ hw hS (lv_sub hl9 [0, 4, 3, 2, 1] rfl)
      · obtain ⟨gw0, ga0, gw1, ga1, mg0, mg1, n, a, cg, x, sa, pk, fl, gv, gh, gl, hC, ⟨th, hM⟩, ⟨go, ho⟩, el9⟩ := hI
        rw [el9] at hl9
        refine lv_iload hx hb dL_law_23 (lv_at hl9 0 rfl) ?_
        refine lv_aload_n hx hb dL_law_25 rfl (lv_at hl9 1 rfl) ?_
        refine va_slen hx hb hX hbl hbA hS dL_law_26 ?_
        refine hp_c (v := nI L) rfl ?_
        refine lv_iconst (v := 4) hx hb dL_law_27 (by decide) ?_
        refine lv_isub hx hb dL_law_28 ?_
        refine lv_icmp_gt (tgt := 800) hx hb dL_law_29 (by decide) (fun c9 => absurd c9 (by rw [jlt, nI_m4 (by omega), nI_toInt (by omega)]; omega)) (fun _ => ?_)
        refine lv_aload_n hx hb dL_law_32 rfl (lv_at hl9 1 rfl) ?_
        refine lv_iload hx hb dL_law_33 (lv_at hl9 0 rfl) ?_
        refine va_sld hx hb hX hbl hbA hS (vp_in_nI (show 4 * j < L by omega) (by omega)) dL_law_35 ?_
        refine hp_c (v := xs (4 * j)) (congrArg xs (nI_clamp (by omega))) ?_
        refine lv_bipush (v := 31) hx hb dL_law_36 (by decide) ?_
        refine lv_iand hx hb dL_law_38 ?_
        obtain ⟨n9, hn9, en9⟩ := pk_andE (xs (4 * j)) (m := 31) 5 (by decide)
        refine hp_c (v := nI n9) en9 ?_
        rcases (show n9 = 0 ∨ n9 = 1 ∨ n9 = 2 ∨ n9 = 3 ∨ n9 = 4 ∨ n9 = 5 ∨ n9 = 6 ∨ n9 = 7 ∨ n9 = 8 ∨ n9 = 9 ∨ n9 = 10 ∨ n9 = 11 ∨ n9 = 12 ∨ n9 = 13 ∨ n9 = 14 ∨ n9 = 15 ∨ n9 = 16 ∨ n9 = 17 ∨ n9 = 18 ∨ n9 = 19 ∨ n9 = 20 ∨ 21 ≤ n9 by omega) with rfl | rfl | rfl | rfl | rfl | rfl | rfl | rfl | rfl | rfl | rfl | rfl | rfl | rfl | rfl | rfl | rfl | rfl | rfl | rfl | rfl | hb9
        · refine lv_tableIn (off := 97) (tgt := 136) hx hb dL_law_39 (by decide) (by decide) (by decide) (by decide) ?_
          refine lv_aload_n hx hb dL_law_136 rfl (lv_at hl9 2 rfl) ?_
          refine lv_aload_n hx hb dL_law_137 rfl (lv_at hl9 1 rfl) ?_
          refine lv_iload hx hb dL_law_138 (lv_at hl9 0 rfl) ?_
          refine lv_iconst (v := 1) hx hb dL_law_140 (by decide) ?_
          refine lv_iadd hx hb dL_law_141 ?_
          refine hp_c (v := (nI (4 * j + 1))) (nI_add (4 * j) 1) ?_
          refine va_sld hx hb hX hbl hbA hS (vp_in_nI (show 4 * j + 1 < L by omega) (by omega)) dL_law_142 ?_
          refine hp_c (v := xs (4 * j + 1)) (congrArg xs (nI_clamp (by omega))) ?_
          refine lv_aload_n hx hb dL_law_143 rfl (lv_at hl9 1 rfl) ?_
          refine lv_iload hx hb dL_law_144 (lv_at hl9 0 rfl) ?_
          refine lv_iconst (v := 2) hx hb dL_law_146 (by decide) ?_
          refine lv_iadd hx hb dL_law_147 ?_
          refine hp_c (v := (nI (4 * j + 2))) (nI_add (4 * j) 2) ?_
          refine va_sld hx hb hX hbl hbA hS (vp_in_nI (show 4 * j + 2 < L by omega) (by omega)) dL_law_148 ?_
          refine hp_c (v := xs (4 * j + 2)) (congrArg xs (nI_clamp (by omega))) ?_
          refine lv_aload_n hx hb dL_law_149 rfl (lv_at hl9 1 rfl) ?_
          refine lv_iload hx hb dL_law_150 (lv_at hl9 0 rfl) ?_
          refine lv_iconst (v := 3) hx hb dL_law_152 (by decide) ?_
          refine lv_iadd hx hb dL_law_153 ?_
          refine hp_c (v := (nI (4 * j + 3))) (nI_add (4 * j) 3) ?_
          refine va_sld hx hb hX hbl hbA hS (vp_in_nI (show 4 * j + 3 < L by omega) (by omega)) dL_law_154 ?_
          refine hp_c (v := xs (4 * j + 3)) (congrArg xs (nI_clamp (by omega))) ?_
          refine lv_aload_n hx hb dL_law_155 rfl (lv_at hl9 4 rfl) ?_
          refine hp_SH (As := [.ref xo, .int (xs (4 * j + 1)), .int (xs (4 * j + 2)), .int (xs (4 * j + 3)), .ref out]) (rest := []) B0 hw hS (c_L_wish hl G f9 xo ez eo bu nw0 na0 nq0 nr0 nw1 na1 nq1 nr1 bs bp bh bf bl bg gw0 ga0 gw1 ga1 mg0 mg1 n a cg x sa pk fl gv gh gl hC out go ho hno (xs (4 * j + 1)) (xs (4 * j + 2)) (xs (4 * j + 3))) mH_L_wish qM_L_80 rfl rfl hl9.1 (Nat.le_of_ble_eq_true rfl) ⟨⟨Nat.le_of_ble_eq_true rfl, Nat.le_of_ble_eq_true rfl⟩, (by first | omega | (dsimp only; omega) | (show (_ : Nat) ≤ _; simp only [room_1]; omega)), (by first | omega | (dsimp only; omega) | (show (_ : Nat) ≤ _; simp only [room_1]; omega))⟩ dL_law_156 (fun E ce q9 f587 H locs hPX hw hS hce hcv hcl => ?_) (fun v f587 H locs hP hw hS => ?_)
          · exact hPX.elim
          · obtain ⟨hP, hk592⟩ := hP
            rcases hP with ⟨hz588, ev9, hC589, ho591⟩ | ⟨hz588, ev9, hC589, g590, ho591⟩
            · subst ev9
              have hM593 := MW.kp hM hk592 hdos
              refine W.eq (g2 := F0 m 159 ls [.int 0]) rfl ?_
              refine lv_istore (lv' := [(5, .int 0), (4, .int (nI (4 * j))), (0, .ref b), (1, .ref xo), (2, .ref mo), (3, .ref out)]) hx hb dL_law_159 hl9 (by decide) rfl (fun ls hl9 => ?_)
              refine lv_aload_n hx hb dL_law_161 rfl (lv_at hl9 4 rfl) ?_
              refine lv_aload_n hx hb dL_law_162 rfl (lv_at hl9 2 rfl) ?_
              refine lv_iload hx hb dL_law_163 (lv_at hl9 1 rfl) ?_
              refine lv_iconst (v := 1) hx hb dL_law_165 (by decide) ?_
              refine lv_iadd hx hb dL_law_166 ?_
              refine hp_c (v := (nI (4 * j + 1))) (nI_add (4 * j) 1) ?_
              refine va_sld hx hb hX hbl hbA hS (vp_in_nI (show 4 * j + 1 < L by omega) (by omega)) dL_law_167 ?_
              refine hp_c (v := xs (4 * j + 1)) (congrArg xs (nI_clamp (by omega))) ?_
              refine lv_aload_n hx hb dL_law_168 rfl (lv_at hl9 2 rfl) ?_
              refine lv_iload hx hb dL_law_169 (lv_at hl9 1 rfl) ?_
              refine lv_iconst (v := 2) hx hb dL_law_171 (by decide) ?_
              refine lv_iadd hx hb dL_law_172 ?_
              refine hp_c (v := (nI (4 * j + 2))) (nI_add (4 * j) 2) ?_
              refine va_sld hx hb hX hbl hbA hS (vp_in_nI (show 4 * j + 2 < L by omega) (by omega)) dL_law_173 ?_
              refine hp_c (v := xs (4 * j + 2)) (congrArg xs (nI_clamp (by omega))) ?_
              refine lv_aload_n hx hb dL_law_174 rfl (lv_at hl9 2 rfl) ?_
              refine lv_iload hx hb dL_law_175 (lv_at hl9 1 rfl) ?_
              refine lv_iconst (v := 3) hx hb dL_law_177 (by decide) ?_
              refine lv_iadd hx hb dL_law_178 ?_
              refine hp_c (v := (nI (4 * j + 3))) (nI_add (4 * j) 3) ?_
              refine va_sld hx hb hX hbl hbA hS (vp_in_nI (show 4 * j + 3 < L by omega) (by omega)) dL_law_179 ?_
              refine hp_c (v := xs (4 * j + 3)) (congrArg xs (nI_clamp (by omega))) ?_
              refine hp_V (ci := 5) (As := [.int (xs (4 * j + 1)), .int (xs (4 * j + 2)), .int (xs (4 * j + 3))]) (rest := []) B0 hw hS (c_W5_wish hl G f587 mo dW dA dQ dM dS dL dR dT dZ dI dH dN dK dJ dU dO dF dP dE dX dY dG th (100 * j) gw0 ga0 gw1 ga1 mg0 mg1 n a cg x sa pk fl gv gh gl hM593 (by omega) (xs (4 * j + 1)) (xs (4 * j + 2)) (xs (4 * j + 3))) mV_X5_wish qM_L_85 rfl hM593.1 rfl rfl hl9.1 (Nat.le_of_ble_eq_true rfl) ⟨⟨Nat.le_of_ble_eq_true rfl, Nat.le_of_ble_eq_true rfl⟩, (by first | omega | (dsimp only; omega) | (show (_ : Nat) ≤ _; simp only [room_1]; omega)), (by first | omega | (dsimp only; omega) | (show (_ : Nat) ≤ _; simp only [room_1]; omega))⟩ dL_law_180 (fun E ce q9 f594 H locs hPX hw hS hce hcv hcl => ?_) (fun v f594 H locs hP hw hS => ?_)
              · exact hPX.elim
              · obtain ⟨hP, he597⟩ := hP
                rcases hP with ⟨hy595, ev9, hM596⟩ | ⟨hy595, ⟨r598, ev9⟩, hM596⟩
                · subst ev9
                  have hC599 := CW.eq hC589 he597 hdis (MW.fr hM593 hM596)
                  have ho600 := (he597 _ hno2).trans ho591
                  refine W.eq (g2 := F0 m 183 ls [.int ((selE (xs (4 * j + 1)) gw0 gw1 (xs (4 * j + 2)).toNatClampNeg))]) rfl ?_
                  refine lv_istore (lv' := [(6, .int ((selE (xs (4 * j + 1)) gw0 gw1 (xs (4 * j + 2)).toNatClampNeg))), (5, .int 0), (4, .int (nI (4 * j))), (0, .ref b), (1, .ref xo), (2, .ref mo), (3, .ref out)]) hx hb dL_law_183 hl9 (by decide) rfl (fun ls hl9 => ?_)
                  refine lv_aload_n hx hb dL_law_185 rfl (lv_at hl9 5 rfl) ?_
                  refine hp_V (ci := 5) (As := []) (rest := []) B0 hw hS (c_X5_thrown hl G f594 mo 0 _ hM596.1) mV_X5_thrown qM_L_86 rfl hM596.1 rfl rfl hl9.1 (Nat.le_of_ble_eq_true rfl) ⟨⟨Nat.le_of_ble_eq_true rfl, Nat.le_of_ble_eq_true rfl⟩, (by first | omega | (dsimp only; omega) | (show (_ : Nat) ≤ _; simp only [room_1]; omega)), (by first | omega | (dsimp only; omega) | (show (_ : Nat) ≤ _; simp only [room_1]; omega))⟩ dL_law_186 (fun E ce q9 f601 H locs hPX hw hS hce hcv hcl => ?_) (fun v f601 H locs hP hw hS => ?_)
                  · exact hPX.elim
                  · obtain ⟨ev9, ef9⟩ := hP
                    rw [ef9] at hw
                    subst ev9
                    refine W.eq (g2 := F0 m 189 ls [.int 0]) rfl ?_
                    refine lv_iload hx hb dL_law_189 (lv_at hl9 1 rfl) ?_
                    refine lv_icmp_eq (tgt := 196) hx hb dL_law_191 (by decide) (fun _ => ?_) (fun c9 => absurd (by decide) c9)
                    refine lv_iload hx hb dL_law_196 (lv_at hl9 1 rfl) ?_
                    refine lv_if_ne (tgt := 213) hx hb dL_law_198 (by decide) (fun c9 => absurd (by decide) c9) (fun _ => ?_)
                    refine lv_aload_n hx hb dL_law_201 rfl (lv_at hl9 6 rfl) ?_
                    refine lv_iconst (v := 0) hx hb dL_law_202 (by decide) ?_
                    refine hp_lald B0 hw ho600 (by unfold vp_in; decide) dL_law_203 ?_
                    refine lv_iload hx hb dL_law_204 (lv_at hl9 0 rfl) ?_
                    refine lv_i2l (v := (((selE (xs (4 * j + 1)) gw0 gw1 (xs (4 * j + 2)).toNatClampNeg)) : Int32).toInt64) hx hb dL_law_206 rfl ?_
                    refine W.lcmp hx hb dL_law_207 ?_
                    refine lv_if_eq (tgt := 213) hx hb dL_law_208 (by decide) (fun _ => ?_) (fun c9 => absurd (lg_eq0 rfl) c9)
                    refine lv_goto (tgt := 794) hx hb dL_law_213 (by decide) ?_
                    refine lv_iinc (v := (nI (4 * (j + 1)))) (lv' := [(4, .int (nI (4 * (j + 1)))), (6, .int ((selE (xs (4 * j + 1)) gw0 gw1 (xs (4 * j + 2)).toNatClampNeg))), (5, .int 0), (0, .ref b), (1, .ref xo), (2, .ref mo), (3, .ref out)]) hx hb dL_law_794 hl9 (k := 2) rfl (nI_add (4 * j) 4) (by decide) rfl (fun ls hl9 => ?_)
                    refine lv_goto (tgt := 23) hx hb dL_law_797 (by decide) ?_
                    exact W.widen (by omega) (by omega) (ih _ _ H locs ls ⟨_, _, _, _, _, _, _, _, _, _, _, _, _, _, _, _, hC599, ⟨_, (MW.mono hM596 (by omega))⟩, ⟨_, ho600⟩, rfl⟩ hw hS (lv_sub hl9 [0, 3, 4, 5, 6] rfl))
                · exact absurd hz588 hy595
            · subst ev9
              have hM602 := MW.kp hM hk592 hdos
              refine W.eq (g2 := F0 m 159 ls [.int (spc (sE (xs (4 * j + 1)) ∧ sO (xs (4 * j + 2))) (sV (xs (4 * j + 3))))]) rfl ?_
              refine lv_istore (lv' := [(5, .int (spc (sE (xs (4 * j + 1)) ∧ sO (xs (4 * j + 2))) (sV (xs (4 * j + 3))))), (4, .int (nI (4 * j))), (0, .ref b), (1, .ref xo), (2, .ref mo), (3, .ref out)]) hx hb dL_law_159 hl9 (by decide) rfl (fun ls hl9 => ?_)
              refine lv_aload_n hx hb dL_law_161 rfl (lv_at hl9 4 rfl) ?_
              refine lv_aload_n hx hb dL_law_162 rfl (lv_at hl9 2 rfl) ?_
              refine lv_iload hx hb dL_law_163 (lv_at hl9 1 rfl) ?_
              refine lv_iconst (v := 1) hx hb dL_law_165 (by decide) ?_
              refine lv_iadd hx hb dL_law_166 ?_
              refine hp_c (v := (nI (4 * j + 1))) (nI_add (4 * j) 1) ?_
              refine va_sld hx hb hX hbl hbA hS (vp_in_nI (show 4 * j + 1 < L by omega) (by omega)) dL_law_167 ?_
              refine hp_c (v := xs (4 * j + 1)) (congrArg xs (nI_clamp (by omega))) ?_
              refine lv_aload_n hx hb dL_law_168 rfl (lv_at hl9 2 rfl) ?_
              refine lv_iload hx hb dL_law_169 (lv_at hl9 1 rfl) ?_
              refine lv_iconst (v := 2) hx hb dL_law_171 (by decide) ?_
              refine lv_iadd hx hb dL_law_172 ?_
              refine hp_c (v := (nI (4 * j + 2))) (nI_add (4 * j) 2) ?_
              refine va_sld hx hb hX hbl hbA hS (vp_in_nI (show 4 * j + 2 < L by omega) (by omega)) dL_law_173 ?_
              refine hp_c (v := xs (4 * j + 2)) (congrArg xs (nI_clamp (by omega))) ?_
              refine lv_aload_n hx hb dL_law_174 rfl (lv_at hl9 2 rfl) ?_
              refine lv_iload hx hb dL_law_175 (lv_at hl9 1 rfl) ?_
              refine lv_iconst (v := 3) hx hb dL_law_177 (by decide) ?_
              refine lv_iadd hx hb dL_law_178 ?_
              refine hp_c (v := (nI (4 * j + 3))) (nI_add (4 * j) 3) ?_
              refine va_sld hx hb hX hbl hbA hS (vp_in_nI (show 4 * j + 3 < L by omega) (by omega)) dL_law_179 ?_
              refine hp_c (v := xs (4 * j + 3)) (congrArg xs (nI_clamp (by omega))) ?_
              refine hp_V (ci := 5) (As := [.int (xs (4 * j + 1)), .int (xs (4 * j + 2)), .int (xs (4 * j + 3))]) (rest := []) B0 hw hS (c_W5_wish hl G f587 mo dW dA dQ dM dS dL dR dT dZ dI dH dN dK dJ dU dO dF dP dE dX dY dG th (100 * j) gw0 ga0 gw1 ga1 mg0 mg1 n a cg x sa pk fl gv gh gl hM602 (by omega) (xs (4 * j + 1)) (xs (4 * j + 2)) (xs (4 * j + 3))) mV_X5_wish qM_L_85 rfl hM602.1 rfl rfl hl9.1 (Nat.le_of_ble_eq_true rfl) ⟨⟨Nat.le_of_ble_eq_true rfl, Nat.le_of_ble_eq_true rfl⟩, (by first | omega | (dsimp only; omega) | (show (_ : Nat) ≤ _; simp only [room_1]; omega)), (by first | omega | (dsimp only; omega) | (show (_ : Nat) ≤ _; simp only [room_1]; omega))⟩ dL_law_180 (fun E ce q9 f603 H locs hPX hw hS hce hcv hcl => ?_) (fun v f603 H locs hP hw hS => ?_)
              · exact hPX.elim
              · obtain ⟨hP, he606⟩ := hP
                rcases hP with ⟨hy604, ev9, hM605⟩ | ⟨hy604, ⟨r607, ev9⟩, hM605⟩
                · exact absurd hy604 hz588
                · subst ev9
                  have hC608 := CW.eq hC589 he606 hdis (MW.fr hM602 hM605)
                  have ho609 := (he606 _ hno2).trans ho591
                  refine W.eq (g2 := F0 m 183 ls [.int r607]) rfl ?_
                  refine lv_istore (lv' := [(6, .int r607), (5, .int (spc (sE (xs (4 * j + 1)) ∧ sO (xs (4 * j + 2))) (sV (xs (4 * j + 3))))), (4, .int (nI (4 * j))), (0, .ref b), (1, .ref xo), (2, .ref mo), (3, .ref out)]) hx hb dL_law_183 hl9 (by decide) rfl (fun ls hl9 => ?_)
                  refine lv_aload_n hx hb dL_law_185 rfl (lv_at hl9 5 rfl) ?_
                  refine hp_V (ci := 5) (As := []) (rest := []) B0 hw hS (c_X5_thrown hl G f603 mo (spc (sE (xs (4 * j + 1)) ∧ sO (xs (4 * j + 2))) (sV (xs (4 * j + 3)))) _ hM605.1) mV_X5_thrown qM_L_86 rfl hM605.1 rfl rfl hl9.1 (Nat.le_of_ble_eq_true rfl) ⟨⟨Nat.le_of_ble_eq_true rfl, Nat.le_of_ble_eq_true rfl⟩, (by first | omega | (dsimp only; omega) | (show (_ : Nat) ≤ _; simp only [room_1]; omega)), (by first | omega | (dsimp only; omega) | (show (_ : Nat) ≤ _; simp only [room_1]; omega))⟩ dL_law_186 (fun E ce q9 f610 H locs hPX hw hS hce hcv hcl => ?_) (fun v f610 H locs hP hw hS => ?_)
                  · exact hPX.elim
                  · obtain ⟨ev9, ef9⟩ := hP
                    rw [ef9] at hw
                    subst ev9
                    refine W.eq (g2 := F0 m 189 ls [.int (spc (sE (xs (4 * j + 1)) ∧ sO (xs (4 * j + 2))) (sV (xs (4 * j + 3))))]) rfl ?_
                    refine lv_iload hx hb dL_law_189 (lv_at hl9 1 rfl) ?_
                    refine lv_icmp_eq (tgt := 196) hx hb dL_law_191 (by decide) (fun _ => ?_) (fun c9 => absurd rfl c9)
                    refine lv_iload hx hb dL_law_196 (lv_at hl9 1 rfl) ?_
                    refine lv_if_ne (tgt := 213) hx hb dL_law_198 (by decide) (fun _ => ?_) (fun c9 => absurd c9 hz588)
                    refine lv_goto (tgt := 794) hx hb dL_law_213 (by decide) ?_
                    refine lv_iinc (v := (nI (4 * (j + 1)))) (lv' := [(4, .int (nI (4 * (j + 1)))), (6, .int r607), (5, .int (spc (sE (xs (4 * j + 1)) ∧ sO (xs (4 * j + 2))) (sV (xs (4 * j + 3))))), (0, .ref b), (1, .ref xo), (2, .ref mo), (3, .ref out)]) hx hb dL_law_794 hl9 (k := 2) rfl (nI_add (4 * j) 4) (by decide) rfl (fun ls hl9 => ?_)
                    refine lv_goto (tgt := 23) hx hb dL_law_797 (by decide) ?_
                    exact W.widen (by omega) (by omega) (ih _ _ H locs ls ⟨_, _, _, _, _, _, _, _, _, _, _, _, _, _, _, _, hC608, ⟨_, (MW.mono hM605 (by omega))⟩, ⟨_, ho609⟩, rfl⟩ hw hS (lv_sub hl9 [0, 3, 4, 5, 6] rfl))
        · refine lv_tableIn (off := 177) (tgt := 216) hx hb dL_law_39 (by decide) (by decide) (by decide) (by decide) ?_
          refine lv_aload_n hx hb dL_law_216 rfl (lv_at hl9 2 rfl) ?_
          refine lv_aload_n hx hb dL_law_217 rfl (lv_at hl9 1 rfl) ?_
          refine lv_iload hx hb dL_law_218 (lv_at hl9 0 rfl) ?_
          refine lv_iconst (v := 1) hx hb dL_law_220 (by decide) ?_
          refine lv_iadd hx hb dL_law_221 ?_
          refine hp_c (v := (nI (4 * j + 1))) (nI_add (4 * j) 1) ?_
          refine va_sld hx hb hX hbl hbA hS (vp_in_nI (show 4 * j + 1 < L by omega) (by omega)) dL_law_222 ?_
          refine hp_c (v := xs (4 * j + 1)) (congrArg xs (nI_clamp (by omega))) ?_
          refine lv_aload_n hx hb dL_law_223 rfl (lv_at hl9 1 rfl) ?_
          refine lv_iload hx hb dL_law_224 (lv_at hl9 0 rfl) ?_
          refine lv_iconst (v := 2) hx hb dL_law_226 (by decide) ?_
          refine lv_iadd hx hb dL_law_227 ?_
          refine hp_c (v := (nI (4 * j + 2))) (nI_add (4 * j) 2) ?_
          refine va_sld hx hb hX hbl hbA hS (vp_in_nI (show 4 * j + 2 < L by omega) (by omega)) dL_law_228 ?_
          refine hp_c (v := xs (4 * j + 2)) (congrArg xs (nI_clamp (by omega))) ?_
          refine lv_aload_n hx hb dL_law_229 rfl (lv_at hl9 1 rfl) ?_
          refine lv_iload hx hb dL_law_230 (lv_at hl9 0 rfl) ?_
          refine lv_iconst (v := 3) hx hb dL_law_232 (by decide) ?_
          refine lv_iadd hx hb dL_law_233 ?_
          refine hp_c (v := (nI (4 * j + 3))) (nI_add (4 * j) 3) ?_
          refine va_sld hx hb hX hbl hbA hS (vp_in_nI (show 4 * j + 3 < L by omega) (by omega)) dL_law_234 ?_
          refine hp_c (v := xs (4 * j + 3)) (congrArg xs (nI_clamp (by omega))) ?_
          refine lv_aload_n hx hb dL_law_235 rfl (lv_at hl9 4 rfl) ?_
          refine hp_SH (As := [.ref xo, .int (xs (4 * j + 1)), .int (xs (4 * j + 2)), .int (xs (4 * j + 3)), .ref out]) (rest := []) B0 hw hS (c_L_allow hl G f9 xo ez eo bu nw0 na0 nq0 nr0 nw1 na1 nq1 nr1 bs bp bh bf bl bg gw0 ga0 gw1 ga1 mg0 mg1 n a cg x sa pk fl gv gh gl hC out go ho hno (xs (4 * j + 1)) (xs (4 * j + 2)) (xs (4 * j + 3))) mH_L_allow qM_L_90 rfl rfl hl9.1 (Nat.le_of_ble_eq_true rfl) ⟨⟨Nat.le_of_ble_eq_true rfl, Nat.le_of_ble_eq_true rfl⟩, (by first | omega | (dsimp only; omega) | (show (_ : Nat) ≤ _; simp only [room_1]; omega)), (by first | omega | (dsimp only; omega) | (show (_ : Nat) ≤ _; simp only [room_1]; omega))⟩ dL_law_236 (fun E ce q9 f611 H locs hPX hw hS hce hcv hcl => ?_) (fun v f611 H locs hP hw hS => ?_)
          · exact hPX.elim
          · obtain ⟨hP, hk616⟩ := hP
            rcases hP with ⟨hz612, ev9, hC613, ho615⟩ | ⟨hz612, ev9, hC613, g614, ho615⟩
            · subst ev9
              have hM617 := MW.kp hM hk616 hdos
              refine W.eq (g2 := F0 m 239 ls [.int 0]) rfl ?_
              refine lv_istore (lv' := [(5, .int 0), (4, .int (nI (4 * j))), (0, .ref b), (1, .ref xo), (2, .ref mo), (3, .ref out)]) hx hb dL_law_239 hl9 (by decide) rfl (fun ls hl9 => ?_)
              refine lv_aload_n hx hb dL_law_241 rfl (lv_at hl9 4 rfl) ?_
              refine lv_aload_n hx hb dL_law_242 rfl (lv_at hl9 2 rfl) ?_
              refine lv_iload hx hb dL_law_243 (lv_at hl9 1 rfl) ?_
              refine lv_iconst (v := 1) hx hb dL_law_245 (by decide) ?_
              refine lv_iadd hx hb dL_law_246 ?_
              refine hp_c (v := (nI (4 * j + 1))) (nI_add (4 * j) 1) ?_
              refine va_sld hx hb hX hbl hbA hS (vp_in_nI (show 4 * j + 1 < L by omega) (by omega)) dL_law_247 ?_
              refine hp_c (v := xs (4 * j + 1)) (congrArg xs (nI_clamp (by omega))) ?_
              refine lv_aload_n hx hb dL_law_248 rfl (lv_at hl9 2 rfl) ?_
              refine lv_iload hx hb dL_law_249 (lv_at hl9 1 rfl) ?_
              refine lv_iconst (v := 2) hx hb dL_law_251 (by decide) ?_
              refine lv_iadd hx hb dL_law_252 ?_
              refine hp_c (v := (nI (4 * j + 2))) (nI_add (4 * j) 2) ?_
              refine va_sld hx hb hX hbl hbA hS (vp_in_nI (show 4 * j + 2 < L by omega) (by omega)) dL_law_253 ?_
              refine hp_c (v := xs (4 * j + 2)) (congrArg xs (nI_clamp (by omega))) ?_
              refine lv_aload_n hx hb dL_law_254 rfl (lv_at hl9 2 rfl) ?_
              refine lv_iload hx hb dL_law_255 (lv_at hl9 1 rfl) ?_
              refine lv_iconst (v := 3) hx hb dL_law_257 (by decide) ?_
              refine lv_iadd hx hb dL_law_258 ?_
              refine hp_c (v := (nI (4 * j + 3))) (nI_add (4 * j) 3) ?_
              refine va_sld hx hb hX hbl hbA hS (vp_in_nI (show 4 * j + 3 < L by omega) (by omega)) dL_law_259 ?_
              refine hp_c (v := xs (4 * j + 3)) (congrArg xs (nI_clamp (by omega))) ?_
              refine hp_V (ci := 5) (As := [.int (xs (4 * j + 1)), .int (xs (4 * j + 2)), .int (xs (4 * j + 3))]) (rest := []) B0 hw hS (c_W5_allow hl G f611 mo dW dA dQ dM dS dL dR dT dZ dI dH dN dK dJ dU dO dF dP dE dX dY dG th (100 * j) gw0 ga0 gw1 ga1 mg0 mg1 n a cg x sa pk fl gv gh gl hM617 (by omega) (xs (4 * j + 1)) (xs (4 * j + 2)) (xs (4 * j + 3))) mV_X5_allow qM_L_92 rfl hM617.1 rfl rfl hl9.1 (Nat.le_of_ble_eq_true rfl) ⟨⟨Nat.le_of_ble_eq_true rfl, Nat.le_of_ble_eq_true rfl⟩, (by first | omega | (dsimp only; omega) | (show (_ : Nat) ≤ _; simp only [room_1]; omega)), (by first | omega | (dsimp only; omega) | (show (_ : Nat) ≤ _; simp only [room_1]; omega))⟩ dL_law_260 (fun E ce q9 f618 H locs hPX hw hS hce hcv hcl => ?_) (fun v f618 H locs hP hw hS => ?_)
              · exact hPX.elim
              · obtain ⟨hP, he621⟩ := hP
                rcases hP with ⟨hy619, ev9, hM620⟩ | ⟨hy619, ⟨r622, ev9⟩, hM620⟩
                · subst ev9
                  have hC623 := CW.eq hC613 he621 hdis (MW.fr hM617 hM620)
                  have ho624 := (he621 _ hno2).trans ho615
                  refine W.eq (g2 := F0 m 263 ls [.int ((selE (xs (4 * j + 1)) ga0 ga1 (xs (4 * j + 2)).toNatClampNeg))]) rfl ?_
                  refine lv_istore (lv' := [(6, .int ((selE (xs (4 * j + 1)) ga0 ga1 (xs (4 * j + 2)).toNatClampNeg))), (5, .int 0), (4, .int (nI (4 * j))), (0, .ref b), (1, .ref xo), (2, .ref mo), (3, .ref out)]) hx hb dL_law_263 hl9 (by decide) rfl (fun ls hl9 => ?_)
                  refine lv_goto (tgt := 794) hx hb dL_law_265 (by decide) ?_
                  refine lv_iinc (v := (nI (4 * (j + 1)))) (lv' := [(4, .int (nI (4 * (j + 1)))), (6, .int ((selE (xs (4 * j + 1)) ga0 ga1 (xs (4 * j + 2)).toNatClampNeg))), (5, .int 0), (0, .ref b), (1, .ref xo), (2, .ref mo), (3, .ref out)]) hx hb dL_law_794 hl9 (k := 2) rfl (nI_add (4 * j) 4) (by decide) rfl (fun ls hl9 => ?_)
                  refine lv_goto (tgt := 23) hx hb dL_law_797 (by decide) ?_
                  exact W.widen (by omega) (by omega) (ih _ _ H locs ls ⟨_, _, _, _, _, _, _, _, _, _, _, _, _, _, _, _, hC623, ⟨_, (MW.mono hM620 (by omega))⟩, ⟨_, ho624⟩, rfl⟩ hw hS (lv_sub hl9 [0, 3, 4, 5, 6] rfl))
                · exact absurd hz612 hy619
            · subst ev9
              have hM625 := MW.kp hM hk616 hdos
              refine W.eq (g2 := F0 m 239 ls [.int (spc (sE (xs (4 * j + 1)) ∧ sO (xs (4 * j + 2))) (sA (xs (4 * j + 3))))]) rfl ?_
              refine lv_istore (lv' := [(5, .int (spc (sE (xs (4 * j + 1)) ∧ sO (xs (4 * j + 2))) (sA (xs (4 * j + 3))))), (4, .int (nI (4 * j))), (0, .ref b), (1, .ref xo), (2, .ref mo), (3, .ref out)]) hx hb dL_law_239 hl9 (by decide) rfl (fun ls hl9 => ?_)
              refine lv_aload_n hx hb dL_law_241 rfl (lv_at hl9 4 rfl) ?_
              refine lv_aload_n hx hb dL_law_242 rfl (lv_at hl9 2 rfl) ?_
              refine lv_iload hx hb dL_law_243 (lv_at hl9 1 rfl) ?_
              refine lv_iconst (v := 1) hx hb dL_law_245 (by decide) ?_
              refine lv_iadd hx hb dL_law_246 ?_
              refine hp_c (v := (nI (4 * j + 1))) (nI_add (4 * j) 1) ?_
              refine va_sld hx hb hX hbl hbA hS (vp_in_nI (show 4 * j + 1 < L by omega) (by omega)) dL_law_247 ?_
              refine hp_c (v := xs (4 * j + 1)) (congrArg xs (nI_clamp (by omega))) ?_
              refine lv_aload_n hx hb dL_law_248 rfl (lv_at hl9 2 rfl) ?_
              refine lv_iload hx hb dL_law_249 (lv_at hl9 1 rfl) ?_
              refine lv_iconst (v := 2) hx hb dL_law_251 (by decide) ?_
              refine lv_iadd hx hb dL_law_252 ?_
              refine hp_c (v := (nI (4 * j + 2))) (nI_add (4 * j) 2) ?_
              refine va_sld hx hb hX hbl hbA hS (vp_in_nI (show 4 * j + 2 < L by omega) (by omega)) dL_law_253 ?_
              refine hp_c (v := xs (4 * j + 2)) (congrArg xs (nI_clamp (by omega))) ?_
              refine lv_aload_n hx hb dL_law_254 rfl (lv_at hl9 2 rfl) ?_
              refine lv_iload hx hb dL_law_255 (lv_at hl9 1 rfl) ?_
              refine lv_iconst (v := 3) hx hb dL_law_257 (by decide) ?_
              refine lv_iadd hx hb dL_law_258 ?_
              refine hp_c (v := (nI (4 * j + 3))) (nI_add (4 * j) 3) ?_
              refine va_sld hx hb hX hbl hbA hS (vp_in_nI (show 4 * j + 3 < L by omega) (by omega)) dL_law_259 ?_
              refine hp_c (v := xs (4 * j + 3)) (congrArg xs (nI_clamp (by omega))) ?_
              refine hp_V (ci := 5) (As := [.int (xs (4 * j + 1)), .int (xs (4 * j + 2)), .int (xs (4 * j + 3))]) (rest := []) B0 hw hS (c_W5_allow hl G f611 mo dW dA dQ dM dS dL dR dT dZ dI dH dN dK dJ dU dO dF dP dE dX dY dG th (100 * j) gw0 ga0 gw1 ga1 mg0 mg1 n a cg x sa pk fl gv gh gl hM625 (by omega) (xs (4 * j + 1)) (xs (4 * j + 2)) (xs (4 * j + 3))) mV_X5_allow qM_L_92 rfl hM625.1 rfl rfl hl9.1 (Nat.le_of_ble_eq_true rfl) ⟨⟨Nat.le_of_ble_eq_true rfl, Nat.le_of_ble_eq_true rfl⟩, (by first | omega | (dsimp only; omega) | (show (_ : Nat) ≤ _; simp only [room_1]; omega)), (by first | omega | (dsimp only; omega) | (show (_ : Nat) ≤ _; simp only [room_1]; omega))⟩ dL_law_260 (fun E ce q9 f626 H locs hPX hw hS hce hcv hcl => ?_) (fun v f626 H locs hP hw hS => ?_)
              · exact hPX.elim
              · obtain ⟨hP, he629⟩ := hP
                rcases hP with ⟨hy627, ev9, hM628⟩ | ⟨hy627, ⟨r630, ev9⟩, hM628⟩
                · exact absurd hy627 hz612
                · subst ev9
                  have hC631 := CW.eq hC613 he629 hdis (MW.fr hM625 hM628)
                  have ho632 := (he629 _ hno2).trans ho615
                  refine W.eq (g2 := F0 m 263 ls [.int r630]) rfl ?_
                  refine lv_istore (lv' := [(6, .int r630), (5, .int (spc (sE (xs (4 * j + 1)) ∧ sO (xs (4 * j + 2))) (sA (xs (4 * j + 3))))), (4, .int (nI (4 * j))), (0, .ref b), (1, .ref xo), (2, .ref mo), (3, .ref out)]) hx hb dL_law_263 hl9 (by decide) rfl (fun ls hl9 => ?_)
                  refine lv_goto (tgt := 794) hx hb dL_law_265 (by decide) ?_
                  refine lv_iinc (v := (nI (4 * (j + 1)))) (lv' := [(4, .int (nI (4 * (j + 1)))), (6, .int r630), (5, .int (spc (sE (xs (4 * j + 1)) ∧ sO (xs (4 * j + 2))) (sA (xs (4 * j + 3))))), (0, .ref b), (1, .ref xo), (2, .ref mo), (3, .ref out)]) hx hb dL_law_794 hl9 (k := 2) rfl (nI_add (4 * j) 4) (by decide) rfl (fun ls hl9 => ?_)
                  refine lv_goto (tgt := 23) hx hb dL_law_797 (by decide) ?_
                  exact W.widen (by omega) (by omega) (ih _ _ H locs ls ⟨_, _, _, _, _, _, _, _, _, _, _, _, _, _, _, _, hC631, ⟨_, (MW.mono hM628 (by omega))⟩, ⟨_, ho632⟩, rfl⟩ hw hS (lv_sub hl9 [0, 3, 4, 5, 6] rfl))
        · refine lv_tableIn (off := 229) (tgt := 268) hx hb dL_law_39 (by decide) (by decide) (by decide) (by decide) ?_
          refine lv_aload_n hx hb dL_law_268 rfl (lv_at hl9 2 rfl) ?_
          refine lv_aload_n hx hb dL_law_269 rfl (lv_at hl9 1 rfl) ?_
          refine lv_iload hx hb dL_law_270 (lv_at hl9 0 rfl) ?_
          refine lv_iconst (v := 1) hx hb dL_law_272 (by decide) ?_
          refine lv_iadd hx hb dL_law_273 ?_
          refine hp_c (v := (nI (4 * j + 1))) (nI_add (4 * j) 1) ?_
          refine va_sld hx hb hX hbl hbA hS (vp_in_nI (show 4 * j + 1 < L by omega) (by omega)) dL_law_274 ?_
          refine hp_c (v := xs (4 * j + 1)) (congrArg xs (nI_clamp (by omega))) ?_
          refine lv_aload_n hx hb dL_law_275 rfl (lv_at hl9 1 rfl) ?_
          refine lv_iload hx hb dL_law_276 (lv_at hl9 0 rfl) ?_
          refine lv_iconst (v := 2) hx hb dL_law_278 (by decide) ?_
          refine lv_iadd hx hb dL_law_279 ?_
          refine hp_c (v := (nI (4 * j + 2))) (nI_add (4 * j) 2) ?_
          refine va_sld hx hb hX hbl hbA hS (vp_in_nI (show 4 * j + 2 < L by omega) (by omega)) dL_law_280 ?_
          refine hp_c (v := xs (4 * j + 2)) (congrArg xs (nI_clamp (by omega))) ?_
          refine lv_aload_n hx hb dL_law_281 rfl (lv_at hl9 4 rfl) ?_
          refine hp_SH (As := [.ref xo, .int (xs (4 * j + 1)), .int (xs (4 * j + 2)), .ref out]) (rest := []) B0 hw hS (c_L_setMagic hl G f9 xo ez eo bu nw0 na0 nq0 nr0 nw1 na1 nq1 nr1 bs bp bh bf bl bg gw0 ga0 gw1 ga1 mg0 mg1 n a cg x sa pk fl gv gh gl hC out go ho hno (xs (4 * j + 1)) (xs (4 * j + 2))) mH_L_setMagic qM_L_93 rfl rfl hl9.1 (Nat.le_of_ble_eq_true rfl) ⟨⟨Nat.le_of_ble_eq_true rfl, Nat.le_of_ble_eq_true rfl⟩, (by first | omega | (dsimp only; omega) | (show (_ : Nat) ≤ _; simp only [room_1]; omega)), (by first | omega | (dsimp only; omega) | (show (_ : Nat) ≤ _; simp only [room_1]; omega))⟩ dL_law_282 (fun E ce q9 f633 H locs hPX hw hS hce hcv hcl => ?_) (fun v f633 H locs hP hw hS => ?_)
          · exact hPX.elim
          · obtain ⟨hP, hk638⟩ := hP
            rcases hP with ⟨hz634, ev9, hC635, ho637⟩ | ⟨hz634, ev9, hC635, g636, ho637⟩
            · subst ev9
              have hM639 := MW.kp hM hk638 hdos
              refine W.eq (g2 := F0 m 285 ls [.int 0]) rfl ?_
              refine lv_istore (lv' := [(5, .int 0), (4, .int (nI (4 * j))), (0, .ref b), (1, .ref xo), (2, .ref mo), (3, .ref out)]) hx hb dL_law_285 hl9 (by decide) rfl (fun ls hl9 => ?_)
              refine lv_aload_n hx hb dL_law_287 rfl (lv_at hl9 4 rfl) ?_
              refine lv_aload_n hx hb dL_law_288 rfl (lv_at hl9 2 rfl) ?_
              refine lv_iload hx hb dL_law_289 (lv_at hl9 1 rfl) ?_
              refine lv_iconst (v := 1) hx hb dL_law_291 (by decide) ?_
              refine lv_iadd hx hb dL_law_292 ?_
              refine hp_c (v := (nI (4 * j + 1))) (nI_add (4 * j) 1) ?_
              refine va_sld hx hb hX hbl hbA hS (vp_in_nI (show 4 * j + 1 < L by omega) (by omega)) dL_law_293 ?_
              refine hp_c (v := xs (4 * j + 1)) (congrArg xs (nI_clamp (by omega))) ?_
              refine lv_aload_n hx hb dL_law_294 rfl (lv_at hl9 2 rfl) ?_
              refine lv_iload hx hb dL_law_295 (lv_at hl9 1 rfl) ?_
              refine lv_iconst (v := 2) hx hb dL_law_297 (by decide) ?_
              refine lv_iadd hx hb dL_law_298 ?_
              refine hp_c (v := (nI (4 * j + 2))) (nI_add (4 * j) 2) ?_
              refine va_sld hx hb hX hbl hbA hS (vp_in_nI (show 4 * j + 2 < L by omega) (by omega)) dL_law_299 ?_
              refine hp_c (v := xs (4 * j + 2)) (congrArg xs (nI_clamp (by omega))) ?_
              refine hp_V (ci := 5) (As := [.int (xs (4 * j + 1)), .int (xs (4 * j + 2))]) (rest := []) B0 hw hS (c_W5_setMagic hl G f633 mo dW dA dQ dM dS dL dR dT dZ dI dH dN dK dJ dU dO dF dP dE dX dY dG th (100 * j) gw0 ga0 gw1 ga1 mg0 mg1 n a cg x sa pk fl gv gh gl hM639 (by omega) (xs (4 * j + 1)) (xs (4 * j + 2))) mV_X5_setMagic qM_L_96 rfl hM639.1 rfl rfl hl9.1 (Nat.le_of_ble_eq_true rfl) ⟨⟨Nat.le_of_ble_eq_true rfl, Nat.le_of_ble_eq_true rfl⟩, (by first | omega | (dsimp only; omega) | (show (_ : Nat) ≤ _; simp only [room_1]; omega)), (by first | omega | (dsimp only; omega) | (show (_ : Nat) ≤ _; simp only [room_1]; omega))⟩ dL_law_300 (fun E ce q9 f640 H locs hPX hw hS hce hcv hcl => ?_) (fun v f640 H locs hP hw hS => ?_)
              · exact hPX.elim
              · obtain ⟨hP, he643⟩ := hP
                rcases hP with ⟨hy641, ev9, hM642⟩ | ⟨hy641, ⟨r644, ev9⟩, hM642⟩
                · subst ev9
                  have hC645 := CW.eq hC635 he643 hdis (MW.fr hM639 hM642)
                  have ho646 := (he643 _ hno2).trans ho637
                  refine W.eq (g2 := F0 m 303 ls [.int ((if (xs (4 * j + 1)) = 0 then mg0 else mg1))]) rfl ?_
                  refine lv_istore (lv' := [(6, .int ((if (xs (4 * j + 1)) = 0 then mg0 else mg1))), (5, .int 0), (4, .int (nI (4 * j))), (0, .ref b), (1, .ref xo), (2, .ref mo), (3, .ref out)]) hx hb dL_law_303 hl9 (by decide) rfl (fun ls hl9 => ?_)
                  refine lv_goto (tgt := 794) hx hb dL_law_305 (by decide) ?_
                  refine lv_iinc (v := (nI (4 * (j + 1)))) (lv' := [(4, .int (nI (4 * (j + 1)))), (6, .int ((if (xs (4 * j + 1)) = 0 then mg0 else mg1))), (5, .int 0), (0, .ref b), (1, .ref xo), (2, .ref mo), (3, .ref out)]) hx hb dL_law_794 hl9 (k := 2) rfl (nI_add (4 * j) 4) (by decide) rfl (fun ls hl9 => ?_)
                  refine lv_goto (tgt := 23) hx hb dL_law_797 (by decide) ?_
                  exact W.widen (by omega) (by omega) (ih _ _ H locs ls ⟨_, _, _, _, _, _, _, _, _, _, _, _, _, _, _, _, hC645, ⟨_, (MW.mono hM642 (by omega))⟩, ⟨_, ho646⟩, rfl⟩ hw hS (lv_sub hl9 [0, 3, 4, 5, 6] rfl))
                · exact absurd hz634 hy641
            · subst ev9
              have hM647 := MW.kp hM hk638 hdos
              refine W.eq (g2 := F0 m 285 ls [.int (spc (sE (xs (4 * j + 1))) True)]) rfl ?_
              refine lv_istore (lv' := [(5, .int (spc (sE (xs (4 * j + 1))) True)), (4, .int (nI (4 * j))), (0, .ref b), (1, .ref xo), (2, .ref mo), (3, .ref out)]) hx hb dL_law_285 hl9 (by decide) rfl (fun ls hl9 => ?_)
              refine lv_aload_n hx hb dL_law_287 rfl (lv_at hl9 4 rfl) ?_
              refine lv_aload_n hx hb dL_law_288 rfl (lv_at hl9 2 rfl) ?_
              refine lv_iload hx hb dL_law_289 (lv_at hl9 1 rfl) ?_
              refine lv_iconst (v := 1) hx hb dL_law_291 (by decide) ?_
              refine lv_iadd hx hb dL_law_292 ?_
              refine hp_c (v := (nI (4 * j + 1))) (nI_add (4 * j) 1) ?_
              refine va_sld hx hb hX hbl hbA hS (vp_in_nI (show 4 * j + 1 < L by omega) (by omega)) dL_law_293 ?_
              refine hp_c (v := xs (4 * j + 1)) (congrArg xs (nI_clamp (by omega))) ?_
              refine lv_aload_n hx hb dL_law_294 rfl (lv_at hl9 2 rfl) ?_
              refine lv_iload hx hb dL_law_295 (lv_at hl9 1 rfl) ?_
              refine lv_iconst (v := 2) hx hb dL_law_297 (by decide) ?_
              refine lv_iadd hx hb dL_law_298 ?_
              refine hp_c (v := (nI (4 * j + 2))) (nI_add (4 * j) 2) ?_
              refine va_sld hx hb hX hbl hbA hS (vp_in_nI (show 4 * j + 2 < L by omega) (by omega)) dL_law_299 ?_
              refine hp_c (v := xs (4 * j + 2)) (congrArg xs (nI_clamp (by omega))) ?_
              refine hp_V (ci := 5) (As := [.int (xs (4 * j + 1)), .int (xs (4 * j + 2))]) (rest := []) B0 hw hS (c_W5_setMagic hl G f633 mo dW dA dQ dM dS dL dR dT dZ dI dH dN dK dJ dU dO dF dP dE dX dY dG th (100 * j) gw0 ga0 gw1 ga1 mg0 mg1 n a cg x sa pk fl gv gh gl hM647 (by omega) (xs (4 * j + 1)) (xs (4 * j + 2))) mV_X5_setMagic qM_L_96 rfl hM647.1 rfl rfl hl9.1 (Nat.le_of_ble_eq_true rfl) ⟨⟨Nat.le_of_ble_eq_true rfl, Nat.le_of_ble_eq_true rfl⟩, (by first | omega | (dsimp only; omega) | (show (_ : Nat) ≤ _; simp only [room_1]; omega)), (by first | omega | (dsimp only; omega) | (show (_ : Nat) ≤ _; simp only [room_1]; omega))⟩ dL_law_300 (fun E ce q9 f648 H locs hPX hw hS hce hcv hcl => ?_) (fun v f648 H locs hP hw hS => ?_)
              · exact hPX.elim
              · obtain ⟨hP, he651⟩ := hP
                rcases hP with ⟨hy649, ev9, hM650⟩ | ⟨hy649, ⟨r652, ev9⟩, hM650⟩
                · exact absurd hy649 hz634
                · subst ev9
                  have hC653 := CW.eq hC635 he651 hdis (MW.fr hM647 hM650)
                  have ho654 := (he651 _ hno2).trans ho637
                  refine W.eq (g2 := F0 m 303 ls [.int r652]) rfl ?_
                  refine lv_istore (lv' := [(6, .int r652), (5, .int (spc (sE (xs (4 * j + 1))) True)), (4, .int (nI (4 * j))), (0, .ref b), (1, .ref xo), (2, .ref mo), (3, .ref out)]) hx hb dL_law_303 hl9 (by decide) rfl (fun ls hl9 => ?_)
                  refine lv_goto (tgt := 794) hx hb dL_law_305 (by decide) ?_
                  refine lv_iinc (v := (nI (4 * (j + 1)))) (lv' := [(4, .int (nI (4 * (j + 1)))), (6, .int r652), (5, .int (spc (sE (xs (4 * j + 1))) True)), (0, .ref b), (1, .ref xo), (2, .ref mo), (3, .ref out)]) hx hb dL_law_794 hl9 (k := 2) rfl (nI_add (4 * j) 4) (by decide) rfl (fun ls hl9 => ?_)
                  refine lv_goto (tgt := 23) hx hb dL_law_797 (by decide) ?_
                  exact W.widen (by omega) (by omega) (ih _ _ H locs ls ⟨_, _, _, _, _, _, _, _, _, _, _, _, _, _, _, _, hC653, ⟨_, (MW.mono hM650 (by omega))⟩, ⟨_, ho654⟩, rfl⟩ hw hS (lv_sub hl9 [0, 3, 4, 5, 6] rfl))
        · refine lv_tableIn (off := 269) (tgt := 308) hx hb dL_law_39 (by decide) (by decide) (by decide) (by decide) ?_
          refine lv_aload_n hx hb dL_law_308 rfl (lv_at hl9 2 rfl) ?_
          refine lv_aload_n hx hb dL_law_309 rfl (lv_at hl9 1 rfl) ?_
          refine lv_iload hx hb dL_law_310 (lv_at hl9 0 rfl) ?_
          refine lv_iconst (v := 1) hx hb dL_law_312 (by decide) ?_
          refine lv_iadd hx hb dL_law_313 ?_
          refine hp_c (v := (nI (4 * j + 1))) (nI_add (4 * j) 1) ?_
          refine va_sld hx hb hX hbl hbA hS (vp_in_nI (show 4 * j + 1 < L by omega) (by omega)) dL_law_314 ?_
          refine hp_c (v := xs (4 * j + 1)) (congrArg xs (nI_clamp (by omega))) ?_
          refine lv_aload_n hx hb dL_law_315 rfl (lv_at hl9 4 rfl) ?_
          refine hp_SH (As := [.ref xo, .int (xs (4 * j + 1)), .ref out]) (rest := []) B0 hw hS (c_L_open hl G f9 xo ez eo bu nw0 na0 nq0 nr0 nw1 na1 nq1 nr1 bs bp bh bf bl bg gw0 ga0 gw1 ga1 mg0 mg1 n a cg x sa pk fl gv gh gl hC out go ho hno (xs (4 * j + 1))) mH_L_open qM_L_97 rfl rfl hl9.1 (Nat.le_of_ble_eq_true rfl) ⟨⟨Nat.le_of_ble_eq_true rfl, Nat.le_of_ble_eq_true rfl⟩, (by first | omega | (dsimp only; omega) | (show (_ : Nat) ≤ _; simp only [room_1]; omega)), (by first | omega | (dsimp only; omega) | (show (_ : Nat) ≤ _; simp only [room_1]; omega))⟩ dL_law_316 (fun E ce q9 f655 H locs hPX hw hS hce hcv hcl => ?_) (fun v f655 H locs hP hw hS => ?_)
          · exact hPX.elim
          · obtain ⟨⟨k656, ev9⟩, hC657, ⟨g658, ho659⟩, hk660⟩ := hP
            subst ev9
            have hM661 := MW.kp hM hk660 hdos
            refine W.eq (g2 := F0 m 319 ls [.int k656]) rfl ?_
            refine lv_istore (lv' := [(5, .int k656), (4, .int (nI (4 * j))), (0, .ref b), (1, .ref xo), (2, .ref mo), (3, .ref out)]) hx hb dL_law_319 hl9 (by decide) rfl (fun ls hl9 => ?_)
            refine lv_aload_n hx hb dL_law_321 rfl (lv_at hl9 4 rfl) ?_
            refine lv_aload_n hx hb dL_law_322 rfl (lv_at hl9 2 rfl) ?_
            refine lv_iload hx hb dL_law_323 (lv_at hl9 1 rfl) ?_
            refine lv_iconst (v := 1) hx hb dL_law_325 (by decide) ?_
            refine lv_iadd hx hb dL_law_326 ?_
            refine hp_c (v := (nI (4 * j + 1))) (nI_add (4 * j) 1) ?_
            refine va_sld hx hb hX hbl hbA hS (vp_in_nI (show 4 * j + 1 < L by omega) (by omega)) dL_law_327 ?_
            refine hp_c (v := xs (4 * j + 1)) (congrArg xs (nI_clamp (by omega))) ?_
            refine hp_V (ci := 5) (As := [.int (xs (4 * j + 1))]) (rest := []) B0 hw hS (c_W5_open hl G f655 mo dW dA dQ dM dS dL dR dT dZ dI dH dN dK dJ dU dO dF dP dE dX dY dG th (100 * j) gw0 ga0 gw1 ga1 mg0 mg1 n a cg x sa pk fl gv gh gl hM661 (by omega) (xs (4 * j + 1))) mV_X5_open qM_L_100 rfl hM661.1 rfl rfl hl9.1 (Nat.le_of_ble_eq_true rfl) ⟨⟨Nat.le_of_ble_eq_true rfl, Nat.le_of_ble_eq_true rfl⟩, (by first | omega | (dsimp only; omega) | (show (_ : Nat) ≤ _; simp only [room_1]; omega)), (by first | omega | (dsimp only; omega) | (show (_ : Nat) ≤ _; simp only [room_1]; omega))⟩ dL_law_328 (fun E ce q9 f662 H locs hPX hw hS hce hcv hcl => ?_) (fun v f662 H locs hP hw hS => ?_)
            · exact hPX.elim
            · obtain ⟨⟨r663, ev9⟩, ⟨t664, hM665⟩, he666⟩ := hP
              subst ev9
              have hC667 := CW.eq hC657 he666 hdis (MW.fr hM661 hM665)
              have ho668 := (he666 _ hno2).trans ho659
              refine W.eq (g2 := F0 m 331 ls [.int r663]) rfl ?_
              refine lv_istore (lv' := [(6, .int r663), (5, .int k656), (4, .int (nI (4 * j))), (0, .ref b), (1, .ref xo), (2, .ref mo), (3, .ref out)]) hx hb dL_law_331 hl9 (by decide) rfl (fun ls hl9 => ?_)
              refine lv_goto (tgt := 794) hx hb dL_law_333 (by decide) ?_
              refine lv_iinc (v := (nI (4 * (j + 1)))) (lv' := [(4, .int (nI (4 * (j + 1)))), (6, .int r663), (5, .int k656), (0, .ref b), (1, .ref xo), (2, .ref mo), (3, .ref out)]) hx hb dL_law_794 hl9 (k := 2) rfl (nI_add (4 * j) 4) (by decide) rfl (fun ls hl9 => ?_)
              refine lv_goto (tgt := 23) hx hb dL_law_797 (by decide) ?_
              exact W.widen (by omega) (by omega) (ih _ _ H locs ls ⟨_, _, _, _, _, _, _, _, _, _, _, _, _, _, _, _, hC667, ⟨_, (MW.mono hM665 (by omega))⟩, ⟨_, ho668⟩, rfl⟩ hw hS (lv_sub hl9 [0, 3, 4, 5, 6] rfl))
        · refine lv_tableIn (off := 297) (tgt := 336) hx hb dL_law_39 (by decide) (by decide) (by decide) (by decide) ?_
          refine lv_aload_n hx hb dL_law_336 rfl (lv_at hl9 2 rfl) ?_
          refine lv_aload_n hx hb dL_law_337 rfl (lv_at hl9 1 rfl) ?_
          refine lv_iload hx hb dL_law_338 (lv_at hl9 0 rfl) ?_
          refine lv_iconst (v := 1) hx hb dL_law_340 (by decide) ?_
          refine lv_iadd hx hb dL_law_341 ?_
          refine hp_c (v := (nI (4 * j + 1))) (nI_add (4 * j) 1) ?_
          refine va_sld hx hb hX hbl hbA hS (vp_in_nI (show 4 * j + 1 < L by omega) (by omega)) dL_law_342 ?_
          refine hp_c (v := xs (4 * j + 1)) (congrArg xs (nI_clamp (by omega))) ?_
          refine lv_aload_n hx hb dL_law_343 rfl (lv_at hl9 4 rfl) ?_
          refine hp_SH (As := [.ref xo, .int (xs (4 * j + 1)), .ref out]) (rest := []) B0 hw hS (c_L_close hl G f9 xo ez eo bu nw0 na0 nq0 nr0 nw1 na1 nq1 nr1 bs bp bh bf bl bg gw0 ga0 gw1 ga1 mg0 mg1 n a cg x sa pk fl gv gh gl hC out go ho hno (xs (4 * j + 1))) mH_L_close qM_L_101 rfl rfl hl9.1 (Nat.le_of_ble_eq_true rfl) ⟨⟨Nat.le_of_ble_eq_true rfl, Nat.le_of_ble_eq_true rfl⟩, (by first | omega | (dsimp only; omega) | (show (_ : Nat) ≤ _; simp only [room_1]; omega)), (by first | omega | (dsimp only; omega) | (show (_ : Nat) ≤ _; simp only [room_1]; omega))⟩ dL_law_344 (fun E ce q9 f669 H locs hPX hw hS hce hcv hcl => ?_) (fun v f669 H locs hP hw hS => ?_)
          · exact hPX.elim
          · obtain ⟨⟨k670, ev9⟩, hC671, ⟨g672, ho673⟩, hk674⟩ := hP
            subst ev9
            have hM675 := MW.kp hM hk674 hdos
            refine W.eq (g2 := F0 m 347 ls [.int k670]) rfl ?_
            refine lv_istore (lv' := [(5, .int k670), (4, .int (nI (4 * j))), (0, .ref b), (1, .ref xo), (2, .ref mo), (3, .ref out)]) hx hb dL_law_347 hl9 (by decide) rfl (fun ls hl9 => ?_)
            refine lv_aload_n hx hb dL_law_349 rfl (lv_at hl9 4 rfl) ?_
            refine lv_aload_n hx hb dL_law_350 rfl (lv_at hl9 2 rfl) ?_
            refine lv_iload hx hb dL_law_351 (lv_at hl9 1 rfl) ?_
            refine lv_iconst (v := 1) hx hb dL_law_353 (by decide) ?_
            refine lv_iadd hx hb dL_law_354 ?_
            refine hp_c (v := (nI (4 * j + 1))) (nI_add (4 * j) 1) ?_
            refine va_sld hx hb hX hbl hbA hS (vp_in_nI (show 4 * j + 1 < L by omega) (by omega)) dL_law_355 ?_
            refine hp_c (v := xs (4 * j + 1)) (congrArg xs (nI_clamp (by omega))) ?_
            refine hp_V (ci := 5) (As := [.int (xs (4 * j + 1))]) (rest := []) B0 hw hS (c_W5_close hl G f669 mo dW dA dQ dM dS dL dR dT dZ dI dH dN dK dJ dU dO dF dP dE dX dY dG th (100 * j) gw0 ga0 gw1 ga1 mg0 mg1 n a cg x sa pk fl gv gh gl hM675 (by omega) (xs (4 * j + 1))) mV_X5_close qM_L_103 rfl hM675.1 rfl rfl hl9.1 (Nat.le_of_ble_eq_true rfl) ⟨⟨Nat.le_of_ble_eq_true rfl, Nat.le_of_ble_eq_true rfl⟩, (by first | omega | (dsimp only; omega) | (show (_ : Nat) ≤ _; simp only [room_1]; omega)), (by first | omega | (dsimp only; omega) | (show (_ : Nat) ≤ _; simp only [room_1]; omega))⟩ dL_law_356 (fun E ce q9 f676 H locs hPX hw hS hce hcv hcl => ?_) (fun v f676 H locs hP hw hS => ?_)
            · exact hPX.elim
            · obtain ⟨⟨r677, ev9⟩, ⟨t678, hM679⟩, he680⟩ := hP
              subst ev9
              have hC681 := CW.eq hC671 he680 hdis (MW.fr hM675 hM679)
              have ho682 := (he680 _ hno2).trans ho673
              refine W.eq (g2 := F0 m 359 ls [.int r677]) rfl ?_
              refine lv_istore (lv' := [(6, .int r677), (5, .int k670), (4, .int (nI (4 * j))), (0, .ref b), (1, .ref xo), (2, .ref mo), (3, .ref out)]) hx hb dL_law_359 hl9 (by decide) rfl (fun ls hl9 => ?_)
              refine lv_goto (tgt := 794) hx hb dL_law_361 (by decide) ?_
              refine lv_iinc (v := (nI (4 * (j + 1)))) (lv' := [(4, .int (nI (4 * (j + 1)))), (6, .int r677), (5, .int k670), (0, .ref b), (1, .ref xo), (2, .ref mo), (3, .ref out)]) hx hb dL_law_794 hl9 (k := 2) rfl (nI_add (4 * j) 4) (by decide) rfl (fun ls hl9 => ?_)
              refine lv_goto (tgt := 23) hx hb dL_law_797 (by decide) ?_
              exact W.widen (by omega) (by omega) (ih _ _ H locs ls ⟨_, _, _, _, _, _, _, _, _, _, _, _, _, _, _, _, hC681, ⟨_, (MW.mono hM679 (by omega))⟩, ⟨_, ho682⟩, rfl⟩ hw hS (lv_sub hl9 [0, 3, 4, 5, 6] rfl))
        · refine lv_tableIn (off := 325) (tgt := 364) hx hb dL_law_39 (by decide) (by decide) (by decide) (by decide) ?_
          refine lv_aload_n hx hb dL_law_364 rfl (lv_at hl9 2 rfl) ?_
          refine lv_aload_n hx hb dL_law_365 rfl (lv_at hl9 1 rfl) ?_
          refine lv_iload hx hb dL_law_366 (lv_at hl9 0 rfl) ?_
          refine lv_iconst (v := 1) hx hb dL_law_368 (by decide) ?_
          refine lv_iadd hx hb dL_law_369 ?_
          refine hp_c (v := (nI (4 * j + 1))) (nI_add (4 * j) 1) ?_
          refine va_sld hx hb hX hbl hbA hS (vp_in_nI (show 4 * j + 1 < L by omega) (by omega)) dL_law_370 ?_
          refine hp_c (v := xs (4 * j + 1)) (congrArg xs (nI_clamp (by omega))) ?_
          refine lv_aload_n hx hb dL_law_371 rfl (lv_at hl9 4 rfl) ?_
          refine hp_SH (As := [.ref xo, .int (xs (4 * j + 1)), .ref out]) (rest := []) B0 hw hS (c_L_deliver hl G f9 xo ez eo bu nw0 na0 nq0 nr0 nw1 na1 nq1 nr1 bs bp bh bf bl bg gw0 ga0 gw1 ga1 mg0 mg1 n a cg x sa pk fl gv gh gl hC out go ho hno (xs (4 * j + 1))) mH_L_deliver qM_L_104 rfl rfl hl9.1 (Nat.le_of_ble_eq_true rfl) ⟨⟨Nat.le_of_ble_eq_true rfl, Nat.le_of_ble_eq_true rfl⟩, (by first | omega | (dsimp only; omega) | (show (_ : Nat) ≤ _; simp only [room_1]; omega)), (by first | omega | (dsimp only; omega) | (show (_ : Nat) ≤ _; simp only [room_1]; omega))⟩ dL_law_372 (fun E ce q9 f683 H locs hPX hw hS hce hcv hcl => ?_) (fun v f683 H locs hP hw hS => ?_)
          · exact hPX.elim
          · obtain ⟨⟨k684, ev9⟩, hC685, ⟨g686, ho687⟩, hk688⟩ := hP
            subst ev9
            have hM689 := MW.kp hM hk688 hdos
            refine W.eq (g2 := F0 m 375 ls [.int k684]) rfl ?_
            refine lv_istore (lv' := [(5, .int k684), (4, .int (nI (4 * j))), (0, .ref b), (1, .ref xo), (2, .ref mo), (3, .ref out)]) hx hb dL_law_375 hl9 (by decide) rfl (fun ls hl9 => ?_)
            refine lv_aload_n hx hb dL_law_377 rfl (lv_at hl9 4 rfl) ?_
            refine lv_aload_n hx hb dL_law_378 rfl (lv_at hl9 2 rfl) ?_
            refine lv_iload hx hb dL_law_379 (lv_at hl9 1 rfl) ?_
            refine lv_iconst (v := 1) hx hb dL_law_381 (by decide) ?_
            refine lv_iadd hx hb dL_law_382 ?_
            refine hp_c (v := (nI (4 * j + 1))) (nI_add (4 * j) 1) ?_
            refine va_sld hx hb hX hbl hbA hS (vp_in_nI (show 4 * j + 1 < L by omega) (by omega)) dL_law_383 ?_
            refine hp_c (v := xs (4 * j + 1)) (congrArg xs (nI_clamp (by omega))) ?_
            refine hp_V (ci := 5) (As := [.int (xs (4 * j + 1))]) (rest := []) B0 hw hS (c_W5_deliver hl G f683 mo dW dA dQ dM dS dL dR dT dZ dI dH dN dK dJ dU dO dF dP dE dX dY dG th (100 * j) gw0 ga0 gw1 ga1 mg0 mg1 n a cg x sa pk fl gv gh gl hM689 (by omega) (xs (4 * j + 1))) mV_X5_deliver qM_L_106 rfl hM689.1 rfl rfl hl9.1 (Nat.le_of_ble_eq_true rfl) ⟨⟨Nat.le_of_ble_eq_true rfl, Nat.le_of_ble_eq_true rfl⟩, (by first | omega | (dsimp only; omega) | (show (_ : Nat) ≤ _; simp only [room_1]; omega)), (by first | omega | (dsimp only; omega) | (show (_ : Nat) ≤ _; simp only [room_1]; omega))⟩ dL_law_384 (fun E ce q9 f690 H locs hPX hw hS hce hcv hcl => ?_) (fun v f690 H locs hP hw hS => ?_)
            · exact hPX.elim
            · obtain ⟨⟨r691, ev9⟩, ⟨t692, hM693⟩, he694⟩ := hP
              subst ev9
              have hC695 := CW.eq hC685 he694 hdis (MW.fr hM689 hM693)
              have ho696 := (he694 _ hno2).trans ho687
              refine W.eq (g2 := F0 m 387 ls [.int r691]) rfl ?_
              refine lv_istore (lv' := [(6, .int r691), (5, .int k684), (4, .int (nI (4 * j))), (0, .ref b), (1, .ref xo), (2, .ref mo), (3, .ref out)]) hx hb dL_law_387 hl9 (by decide) rfl (fun ls hl9 => ?_)
              refine lv_goto (tgt := 794) hx hb dL_law_389 (by decide) ?_
              refine lv_iinc (v := (nI (4 * (j + 1)))) (lv' := [(4, .int (nI (4 * (j + 1)))), (6, .int r691), (5, .int k684), (0, .ref b), (1, .ref xo), (2, .ref mo), (3, .ref out)]) hx hb dL_law_794 hl9 (k := 2) rfl (nI_add (4 * j) 4) (by decide) rfl (fun ls hl9 => ?_)
              refine lv_goto (tgt := 23) hx hb dL_law_797 (by decide) ?_
              exact W.widen (by omega) (by omega) (ih _ _ H locs ls ⟨_, _, _, _, _, _, _, _, _, _, _, _, _, _, _, _, hC695, ⟨_, (MW.mono hM693 (by omega))⟩, ⟨_, ho696⟩, rfl⟩ hw hS (lv_sub hl9 [0, 3, 4, 5, 6] rfl))
        · refine lv_tableIn (off := 353) (tgt := 392) hx hb dL_law_39 (by decide) (by decide) (by decide) (by decide) ?_
          refine lv_aload_n hx hb dL_law_392 rfl (lv_at hl9 2 rfl) ?_
          refine lv_aload_n hx hb dL_law_393 rfl (lv_at hl9 1 rfl) ?_
          refine lv_iload hx hb dL_law_394 (lv_at hl9 0 rfl) ?_
          refine lv_iconst (v := 1) hx hb dL_law_396 (by decide) ?_
          refine lv_iadd hx hb dL_law_397 ?_
          refine hp_c (v := (nI (4 * j + 1))) (nI_add (4 * j) 1) ?_
          refine va_sld hx hb hX hbl hbA hS (vp_in_nI (show 4 * j + 1 < L by omega) (by omega)) dL_law_398 ?_
          refine hp_c (v := xs (4 * j + 1)) (congrArg xs (nI_clamp (by omega))) ?_
          refine lv_aload_n hx hb dL_law_399 rfl (lv_at hl9 4 rfl) ?_
          refine hp_SH (As := [.ref xo, .int (xs (4 * j + 1)), .ref out]) (rest := []) B0 hw hS (c_L_lose hl G f9 xo ez eo bu nw0 na0 nq0 nr0 nw1 na1 nq1 nr1 bs bp bh bf bl bg gw0 ga0 gw1 ga1 mg0 mg1 n a cg x sa pk fl gv gh gl hC out go ho hno (xs (4 * j + 1))) mH_L_lose qM_L_107 rfl rfl hl9.1 (Nat.le_of_ble_eq_true rfl) ⟨⟨Nat.le_of_ble_eq_true rfl, Nat.le_of_ble_eq_true rfl⟩, (by first | omega | (dsimp only; omega) | (show (_ : Nat) ≤ _; simp only [room_1]; omega)), (by first | omega | (dsimp only; omega) | (show (_ : Nat) ≤ _; simp only [room_1]; omega))⟩ dL_law_400 (fun E ce q9 f697 H locs hPX hw hS hce hcv hcl => ?_) (fun v f697 H locs hP hw hS => ?_)
          · exact hPX.elim
          · obtain ⟨⟨k698, ev9⟩, hC699, ⟨g700, ho701⟩, hk702⟩ := hP
            subst ev9
            have hM703 := MW.kp hM hk702 hdos
            refine W.eq (g2 := F0 m 403 ls [.int k698]) rfl ?_
            refine lv_istore (lv' := [(5, .int k698), (4, .int (nI (4 * j))), (0, .ref b), (1, .ref xo), (2, .ref mo), (3, .ref out)]) hx hb dL_law_403 hl9 (by decide) rfl (fun ls hl9 => ?_)
            refine lv_aload_n hx hb dL_law_405 rfl (lv_at hl9 4 rfl) ?_
            refine lv_aload_n hx hb dL_law_406 rfl (lv_at hl9 2 rfl) ?_
            refine lv_iload hx hb dL_law_407 (lv_at hl9 1 rfl) ?_
            refine lv_iconst (v := 1) hx hb dL_law_409 (by decide) ?_
            refine lv_iadd hx hb dL_law_410 ?_
            refine hp_c (v := (nI (4 * j + 1))) (nI_add (4 * j) 1) ?_
            refine va_sld hx hb hX hbl hbA hS (vp_in_nI (show 4 * j + 1 < L by omega) (by omega)) dL_law_411 ?_
            refine hp_c (v := xs (4 * j + 1)) (congrArg xs (nI_clamp (by omega))) ?_
            refine hp_V (ci := 5) (As := [.int (xs (4 * j + 1))]) (rest := []) B0 hw hS (c_W5_lose hl G f697 mo dW dA dQ dM dS dL dR dT dZ dI dH dN dK dJ dU dO dF dP dE dX dY dG th (100 * j) gw0 ga0 gw1 ga1 mg0 mg1 n a cg x sa pk fl gv gh gl hM703 (by omega) (xs (4 * j + 1))) mV_X5_lose qM_L_109 rfl hM703.1 rfl rfl hl9.1 (Nat.le_of_ble_eq_true rfl) ⟨⟨Nat.le_of_ble_eq_true rfl, Nat.le_of_ble_eq_true rfl⟩, (by first | omega | (dsimp only; omega) | (show (_ : Nat) ≤ _; simp only [room_1]; omega)), (by first | omega | (dsimp only; omega) | (show (_ : Nat) ≤ _; simp only [room_1]; omega))⟩ dL_law_412 (fun E ce q9 f704 H locs hPX hw hS hce hcv hcl => ?_) (fun v f704 H locs hP hw hS => ?_)
            · exact hPX.elim
            · obtain ⟨⟨r705, ev9⟩, ⟨t706, hM707⟩, he708⟩ := hP
              subst ev9
              have hC709 := CW.eq hC699 he708 hdis (MW.fr hM703 hM707)
              have ho710 := (he708 _ hno2).trans ho701
              refine W.eq (g2 := F0 m 415 ls [.int r705]) rfl ?_
              refine lv_istore (lv' := [(6, .int r705), (5, .int k698), (4, .int (nI (4 * j))), (0, .ref b), (1, .ref xo), (2, .ref mo), (3, .ref out)]) hx hb dL_law_415 hl9 (by decide) rfl (fun ls hl9 => ?_)
              refine lv_goto (tgt := 794) hx hb dL_law_417 (by decide) ?_
              refine lv_iinc (v := (nI (4 * (j + 1)))) (lv' := [(4, .int (nI (4 * (j + 1)))), (6, .int r705), (5, .int k698), (0, .ref b), (1, .ref xo), (2, .ref mo), (3, .ref out)]) hx hb dL_law_794 hl9 (k := 2) rfl (nI_add (4 * j) 4) (by decide) rfl (fun ls hl9 => ?_)
              refine lv_goto (tgt := 23) hx hb dL_law_797 (by decide) ?_
              exact W.widen (by omega) (by omega) (ih _ _ H locs ls ⟨_, _, _, _, _, _, _, _, _, _, _, _, _, _, _, _, hC709, ⟨_, (MW.mono hM707 (by omega))⟩, ⟨_, ho710⟩, rfl⟩ hw hS (lv_sub hl9 [0, 3, 4, 5, 6] rfl))
        · refine lv_tableIn (off := 381) (tgt := 420) hx hb dL_law_39 (by decide) (by decide) (by decide) (by decide) ?_
          refine lv_aload_n hx hb dL_law_420 rfl (lv_at hl9 2 rfl) ?_
          refine lv_aload_n hx hb dL_law_421 rfl (lv_at hl9 1 rfl) ?_
          refine lv_iload hx hb dL_law_422 (lv_at hl9 0 rfl) ?_
          refine lv_iconst (v := 1) hx hb dL_law_424 (by decide) ?_
          refine lv_iadd hx hb dL_law_425 ?_
          refine hp_c (v := (nI (4 * j + 1))) (nI_add (4 * j) 1) ?_
          refine va_sld hx hb hX hbl hbA hS (vp_in_nI (show 4 * j + 1 < L by omega) (by omega)) dL_law_426 ?_
          refine hp_c (v := xs (4 * j + 1)) (congrArg xs (nI_clamp (by omega))) ?_
          refine lv_aload_n hx hb dL_law_427 rfl (lv_at hl9 4 rfl) ?_
          refine hp_SH (As := [.ref xo, .int (xs (4 * j + 1)), .ref out]) (rest := []) B0 hw hS (c_L_loop hl G f9 xo ez eo bu nw0 na0 nq0 nr0 nw1 na1 nq1 nr1 bs bp bh bf bl bg gw0 ga0 gw1 ga1 mg0 mg1 n a cg x sa pk fl gv gh gl hC out go ho hno (xs (4 * j + 1))) mH_L_loop qM_L_110 rfl rfl hl9.1 (Nat.le_of_ble_eq_true rfl) ⟨⟨Nat.le_of_ble_eq_true rfl, Nat.le_of_ble_eq_true rfl⟩, (by first | omega | (dsimp only; omega) | (show (_ : Nat) ≤ _; simp only [room_1]; omega)), (by first | omega | (dsimp only; omega) | (show (_ : Nat) ≤ _; simp only [room_1]; omega))⟩ dL_law_428 (fun E ce q9 f711 H locs hPX hw hS hce hcv hcl => ?_) (fun v f711 H locs hP hw hS => ?_)
          · exact hPX.elim
          · obtain ⟨⟨k712, ev9⟩, hC713, ⟨g714, ho715⟩, hk716⟩ := hP
            subst ev9
            have hM717 := MW.kp hM hk716 hdos
            refine W.eq (g2 := F0 m 431 ls [.int k712]) rfl ?_
            refine lv_istore (lv' := [(5, .int k712), (4, .int (nI (4 * j))), (0, .ref b), (1, .ref xo), (2, .ref mo), (3, .ref out)]) hx hb dL_law_431 hl9 (by decide) rfl (fun ls hl9 => ?_)
            refine lv_aload_n hx hb dL_law_433 rfl (lv_at hl9 4 rfl) ?_
            refine lv_aload_n hx hb dL_law_434 rfl (lv_at hl9 2 rfl) ?_
            refine lv_iload hx hb dL_law_435 (lv_at hl9 1 rfl) ?_
            refine lv_iconst (v := 1) hx hb dL_law_437 (by decide) ?_
            refine lv_iadd hx hb dL_law_438 ?_
            refine hp_c (v := (nI (4 * j + 1))) (nI_add (4 * j) 1) ?_
            refine va_sld hx hb hX hbl hbA hS (vp_in_nI (show 4 * j + 1 < L by omega) (by omega)) dL_law_439 ?_
            refine hp_c (v := xs (4 * j + 1)) (congrArg xs (nI_clamp (by omega))) ?_
            refine hp_V (ci := 5) (As := [.int (xs (4 * j + 1))]) (rest := []) B0 hw hS (c_W5_loop hl G f711 mo dW dA dQ dM dS dL dR dT dZ dI dH dN dK dJ dU dO dF dP dE dX dY dG th (100 * j) gw0 ga0 gw1 ga1 mg0 mg1 n a cg x sa pk fl gv gh gl hM717 (by omega) (xs (4 * j + 1))) mV_X5_loop qM_L_112 rfl hM717.1 rfl rfl hl9.1 (Nat.le_of_ble_eq_true rfl) ⟨⟨Nat.le_of_ble_eq_true rfl, Nat.le_of_ble_eq_true rfl⟩, (by first | omega | (dsimp only; omega) | (show (_ : Nat) ≤ _; simp only [room_1]; omega)), (by first | omega | (dsimp only; omega) | (show (_ : Nat) ≤ _; simp only [room_1]; omega))⟩ dL_law_440 (fun E ce q9 f718 H locs hPX hw hS hce hcv hcl => ?_) (fun v f718 H locs hP hw hS => ?_)
            · exact hPX.elim
            · obtain ⟨⟨r719, ev9⟩, ⟨t720, hM721⟩, he722⟩ := hP
              subst ev9
              have hC723 := CW.eq hC713 he722 hdis (MW.fr hM717 hM721)
              have ho724 := (he722 _ hno2).trans ho715
              refine W.eq (g2 := F0 m 443 ls [.int r719]) rfl ?_
              refine lv_istore (lv' := [(6, .int r719), (5, .int k712), (4, .int (nI (4 * j))), (0, .ref b), (1, .ref xo), (2, .ref mo), (3, .ref out)]) hx hb dL_law_443 hl9 (by decide) rfl (fun ls hl9 => ?_)
              refine lv_goto (tgt := 794) hx hb dL_law_445 (by decide) ?_
              refine lv_iinc (v := (nI (4 * (j + 1)))) (lv' := [(4, .int (nI (4 * (j + 1)))), (6, .int r719), (5, .int k712), (0, .ref b), (1, .ref xo), (2, .ref mo), (3, .ref out)]) hx hb dL_law_794 hl9 (k := 2) rfl (nI_add (4 * j) 4) (by decide) rfl (fun ls hl9 => ?_)
              refine lv_goto (tgt := 23) hx hb dL_law_797 (by decide) ?_
              exact W.widen (by omega) (by omega) (ih _ _ H locs ls ⟨_, _, _, _, _, _, _, _, _, _, _, _, _, _, _, _, hC723, ⟨_, (MW.mono hM721 (by omega))⟩, ⟨_, ho724⟩, rfl⟩ hw hS (lv_sub hl9 [0, 3, 4, 5, 6] rfl))
        · refine lv_tableIn (off := 409) (tgt := 448) hx hb dL_law_39 (by decide) (by decide) (by decide) (by decide) ?_
          refine lv_aload_n hx hb dL_law_448 rfl (lv_at hl9 2 rfl) ?_
          refine lv_aload_n hx hb dL_law_449 rfl (lv_at hl9 1 rfl) ?_
          refine lv_iload hx hb dL_law_450 (lv_at hl9 0 rfl) ?_
          refine lv_iconst (v := 1) hx hb dL_law_452 (by decide) ?_
          refine lv_iadd hx hb dL_law_453 ?_
          refine hp_c (v := (nI (4 * j + 1))) (nI_add (4 * j) 1) ?_
          refine va_sld hx hb hX hbl hbA hS (vp_in_nI (show 4 * j + 1 < L by omega) (by omega)) dL_law_454 ?_
          refine hp_c (v := xs (4 * j + 1)) (congrArg xs (nI_clamp (by omega))) ?_
          refine lv_aload_n hx hb dL_law_455 rfl (lv_at hl9 4 rfl) ?_
          refine hp_SH (As := [.ref xo, .int (xs (4 * j + 1)), .ref out]) (rest := []) B0 hw hS (c_L_pass hl G f9 xo ez eo bu nw0 na0 nq0 nr0 nw1 na1 nq1 nr1 bs bp bh bf bl bg gw0 ga0 gw1 ga1 mg0 mg1 n a cg x sa pk fl gv gh gl hC out go ho hno (xs (4 * j + 1))) mH_L_pass qM_L_113 rfl rfl hl9.1 (Nat.le_of_ble_eq_true rfl) ⟨⟨Nat.le_of_ble_eq_true rfl, Nat.le_of_ble_eq_true rfl⟩, (by first | omega | (dsimp only; omega) | (show (_ : Nat) ≤ _; simp only [room_1]; omega)), (by first | omega | (dsimp only; omega) | (show (_ : Nat) ≤ _; simp only [room_1]; omega))⟩ dL_law_456 (fun E ce q9 f725 H locs hPX hw hS hce hcv hcl => ?_) (fun v f725 H locs hP hw hS => ?_)
          · exact hPX.elim
          · obtain ⟨⟨k726, ev9⟩, hC727, ⟨g728, ho729⟩, hk730⟩ := hP
            subst ev9
            have hM731 := MW.kp hM hk730 hdos
            refine W.eq (g2 := F0 m 459 ls [.int k726]) rfl ?_
            refine lv_istore (lv' := [(5, .int k726), (4, .int (nI (4 * j))), (0, .ref b), (1, .ref xo), (2, .ref mo), (3, .ref out)]) hx hb dL_law_459 hl9 (by decide) rfl (fun ls hl9 => ?_)
            refine lv_aload_n hx hb dL_law_461 rfl (lv_at hl9 4 rfl) ?_
            refine lv_aload_n hx hb dL_law_462 rfl (lv_at hl9 2 rfl) ?_
            refine lv_iload hx hb dL_law_463 (lv_at hl9 1 rfl) ?_
            refine lv_iconst (v := 1) hx hb dL_law_465 (by decide) ?_
            refine lv_iadd hx hb dL_law_466 ?_
            refine hp_c (v := (nI (4 * j + 1))) (nI_add (4 * j) 1) ?_
            refine va_sld hx hb hX hbl hbA hS (vp_in_nI (show 4 * j + 1 < L by omega) (by omega)) dL_law_467 ?_
            refine hp_c (v := xs (4 * j + 1)) (congrArg xs (nI_clamp (by omega))) ?_
            refine hp_V (ci := 5) (As := [.int (xs (4 * j + 1))]) (rest := []) B0 hw hS (c_W5_pass hl G f725 mo dW dA dQ dM dS dL dR dT dZ dI dH dN dK dJ dU dO dF dP dE dX dY dG th (100 * j) gw0 ga0 gw1 ga1 mg0 mg1 n a cg x sa pk fl gv gh gl hM731 (by omega) (xs (4 * j + 1))) mV_X5_pass qM_L_115 rfl hM731.1 rfl rfl hl9.1 (Nat.le_of_ble_eq_true rfl) ⟨⟨Nat.le_of_ble_eq_true rfl, Nat.le_of_ble_eq_true rfl⟩, (by first | omega | (dsimp only; omega) | (show (_ : Nat) ≤ _; simp only [room_1]; omega)), (by first | omega | (dsimp only; omega) | (show (_ : Nat) ≤ _; simp only [room_1]; omega))⟩ dL_law_468 (fun E ce q9 f732 H locs hPX hw hS hce hcv hcl => ?_) (fun v f732 H locs hP hw hS => ?_)
            · exact hPX.elim
            · obtain ⟨⟨r733, ev9⟩, ⟨t734, hM735⟩, he736⟩ := hP
              subst ev9
              have hC737 := CW.eq hC727 he736 hdis (MW.fr hM731 hM735)
              have ho738 := (he736 _ hno2).trans ho729
              refine W.eq (g2 := F0 m 471 ls [.int r733]) rfl ?_
              refine lv_istore (lv' := [(6, .int r733), (5, .int k726), (4, .int (nI (4 * j))), (0, .ref b), (1, .ref xo), (2, .ref mo), (3, .ref out)]) hx hb dL_law_471 hl9 (by decide) rfl (fun ls hl9 => ?_)
              refine lv_goto (tgt := 794) hx hb dL_law_473 (by decide) ?_
              refine lv_iinc (v := (nI (4 * (j + 1)))) (lv' := [(4, .int (nI (4 * (j + 1)))), (6, .int r733), (5, .int k726), (0, .ref b), (1, .ref xo), (2, .ref mo), (3, .ref out)]) hx hb dL_law_794 hl9 (k := 2) rfl (nI_add (4 * j) 4) (by decide) rfl (fun ls hl9 => ?_)
              refine lv_goto (tgt := 23) hx hb dL_law_797 (by decide) ?_
              exact W.widen (by omega) (by omega) (ih _ _ H locs ls ⟨_, _, _, _, _, _, _, _, _, _, _, _, _, _, _, _, hC737, ⟨_, (MW.mono hM735 (by omega))⟩, ⟨_, ho738⟩, rfl⟩ hw hS (lv_sub hl9 [0, 3, 4, 5, 6] rfl))
        · refine lv_tableIn (off := 437) (tgt := 476) hx hb dL_law_39 (by decide) (by decide) (by decide) (by decide) ?_
          refine lv_aload_n hx hb dL_law_476 rfl (lv_at hl9 2 rfl) ?_
          refine lv_aload_n hx hb dL_law_477 rfl (lv_at hl9 1 rfl) ?_
          refine lv_iload hx hb dL_law_478 (lv_at hl9 0 rfl) ?_
          refine lv_iconst (v := 1) hx hb dL_law_480 (by decide) ?_
          refine lv_iadd hx hb dL_law_481 ?_
          refine hp_c (v := (nI (4 * j + 1))) (nI_add (4 * j) 1) ?_
          refine va_sld hx hb hX hbl hbA hS (vp_in_nI (show 4 * j + 1 < L by omega) (by omega)) dL_law_482 ?_
          refine hp_c (v := xs (4 * j + 1)) (congrArg xs (nI_clamp (by omega))) ?_
          refine lv_aload_n hx hb dL_law_483 rfl (lv_at hl9 4 rfl) ?_
          refine hp_SH (As := [.ref xo, .int (xs (4 * j + 1)), .ref out]) (rest := []) B0 hw hS (c_L_stateOf hl G f9 xo ez eo bu nw0 na0 nq0 nr0 nw1 na1 nq1 nr1 bs bp bh bf bl bg gw0 ga0 gw1 ga1 mg0 mg1 n a cg x sa pk fl gv gh gl hC out go ho hno (xs (4 * j + 1))) mH_L_stateOf qM_L_116 rfl rfl hl9.1 (Nat.le_of_ble_eq_true rfl) ⟨⟨Nat.le_of_ble_eq_true rfl, Nat.le_of_ble_eq_true rfl⟩, (by first | omega | (dsimp only; omega) | (show (_ : Nat) ≤ _; simp only [room_1]; omega)), (by first | omega | (dsimp only; omega) | (show (_ : Nat) ≤ _; simp only [room_1]; omega))⟩ dL_law_484 (fun E ce q9 f739 H locs hPX hw hS hce hcv hcl => ?_) (fun v f739 H locs hP hw hS => ?_)
          · exact hPX.elim
          · obtain ⟨⟨k740, ev9⟩, hC741, ⟨g742, ho743⟩, hk744⟩ := hP
            subst ev9
            have hM745 := MW.kp hM hk744 hdos
            refine W.eq (g2 := F0 m 487 ls [.int k740]) rfl ?_
            refine lv_istore (lv' := [(5, .int k740), (4, .int (nI (4 * j))), (0, .ref b), (1, .ref xo), (2, .ref mo), (3, .ref out)]) hx hb dL_law_487 hl9 (by decide) rfl (fun ls hl9 => ?_)
            refine lv_aload_n hx hb dL_law_489 rfl (lv_at hl9 4 rfl) ?_
            refine lv_aload_n hx hb dL_law_490 rfl (lv_at hl9 2 rfl) ?_
            refine lv_iload hx hb dL_law_491 (lv_at hl9 1 rfl) ?_
            refine lv_iconst (v := 1) hx hb dL_law_493 (by decide) ?_
            refine lv_iadd hx hb dL_law_494 ?_
            refine hp_c (v := (nI (4 * j + 1))) (nI_add (4 * j) 1) ?_
            refine va_sld hx hb hX hbl hbA hS (vp_in_nI (show 4 * j + 1 < L by omega) (by omega)) dL_law_495 ?_
            refine hp_c (v := xs (4 * j + 1)) (congrArg xs (nI_clamp (by omega))) ?_
            refine hp_V (ci := 5) (As := [.int (xs (4 * j + 1))]) (rest := []) B0 hw hS (c_W5_stateOf hl G f739 mo dW dA dQ dM dS dL dR dT dZ dI dH dN dK dJ dU dO dF dP dE dX dY dG th (100 * j) gw0 ga0 gw1 ga1 mg0 mg1 n a cg x sa pk fl gv gh gl hM745 (by omega) (xs (4 * j + 1))) mV_X5_stateOf qM_L_118 rfl hM745.1 rfl rfl hl9.1 (Nat.le_of_ble_eq_true rfl) ⟨⟨Nat.le_of_ble_eq_true rfl, Nat.le_of_ble_eq_true rfl⟩, (by first | omega | (dsimp only; omega) | (show (_ : Nat) ≤ _; simp only [room_1]; omega)), (by first | omega | (dsimp only; omega) | (show (_ : Nat) ≤ _; simp only [room_1]; omega))⟩ dL_law_496 (fun E ce q9 f746 H locs hPX hw hS hce hcv hcl => ?_) (fun v f746 H locs hP hw hS => ?_)
            · exact hPX.elim
            · obtain ⟨⟨r747, ev9⟩, ⟨t748, hM749⟩, he750⟩ := hP
              subst ev9
              have hC751 := CW.eq hC741 he750 hdis (MW.fr hM745 hM749)
              have ho752 := (he750 _ hno2).trans ho743
              refine W.eq (g2 := F0 m 499 ls [.int r747]) rfl ?_
              refine lv_istore (lv' := [(6, .int r747), (5, .int k740), (4, .int (nI (4 * j))), (0, .ref b), (1, .ref xo), (2, .ref mo), (3, .ref out)]) hx hb dL_law_499 hl9 (by decide) rfl (fun ls hl9 => ?_)
              refine lv_goto (tgt := 794) hx hb dL_law_501 (by decide) ?_
              refine lv_iinc (v := (nI (4 * (j + 1)))) (lv' := [(4, .int (nI (4 * (j + 1)))), (6, .int r747), (5, .int k740), (0, .ref b), (1, .ref xo), (2, .ref mo), (3, .ref out)]) hx hb dL_law_794 hl9 (k := 2) rfl (nI_add (4 * j) 4) (by decide) rfl (fun ls hl9 => ?_)
              refine lv_goto (tgt := 23) hx hb dL_law_797 (by decide) ?_
              exact W.widen (by omega) (by omega) (ih _ _ H locs ls ⟨_, _, _, _, _, _, _, _, _, _, _, _, _, _, _, _, hC751, ⟨_, (MW.mono hM749 (by omega))⟩, ⟨_, ho752⟩, rfl⟩ hw hS (lv_sub hl9 [0, 3, 4, 5, 6] rfl))
        · refine lv_tableIn (off := 465) (tgt := 504) hx hb dL_law_39 (by decide) (by decide) (by decide) (by decide) ?_
          refine lv_aload_n hx hb dL_law_504 rfl (lv_at hl9 2 rfl) ?_
          refine lv_aload_n hx hb dL_law_505 rfl (lv_at hl9 1 rfl) ?_
          refine lv_iload hx hb dL_law_506 (lv_at hl9 0 rfl) ?_
          refine lv_iconst (v := 1) hx hb dL_law_508 (by decide) ?_
          refine lv_iadd hx hb dL_law_509 ?_
          refine hp_c (v := (nI (4 * j + 1))) (nI_add (4 * j) 1) ?_
          refine va_sld hx hb hX hbl hbA hS (vp_in_nI (show 4 * j + 1 < L by omega) (by omega)) dL_law_510 ?_
          refine hp_c (v := xs (4 * j + 1)) (congrArg xs (nI_clamp (by omega))) ?_
          refine lv_aload_n hx hb dL_law_511 rfl (lv_at hl9 1 rfl) ?_
          refine lv_iload hx hb dL_law_512 (lv_at hl9 0 rfl) ?_
          refine lv_iconst (v := 2) hx hb dL_law_514 (by decide) ?_
          refine lv_iadd hx hb dL_law_515 ?_
          refine hp_c (v := (nI (4 * j + 2))) (nI_add (4 * j) 2) ?_
          refine va_sld hx hb hX hbl hbA hS (vp_in_nI (show 4 * j + 2 < L by omega) (by omega)) dL_law_516 ?_
          refine hp_c (v := xs (4 * j + 2)) (congrArg xs (nI_clamp (by omega))) ?_
          refine lv_aload_n hx hb dL_law_517 rfl (lv_at hl9 4 rfl) ?_
          refine hp_SH (As := [.ref xo, .int (xs (4 * j + 1)), .int (xs (4 * j + 2)), .ref out]) (rest := []) B0 hw hS (c_L_asked hl G f9 xo ez eo bu nw0 na0 nq0 nr0 nw1 na1 nq1 nr1 bs bp bh bf bl bg gw0 ga0 gw1 ga1 mg0 mg1 n a cg x sa pk fl gv gh gl hC out go ho hno (xs (4 * j + 1)) (xs (4 * j + 2))) mH_L_asked qM_L_119 rfl rfl hl9.1 (Nat.le_of_ble_eq_true rfl) ⟨⟨Nat.le_of_ble_eq_true rfl, Nat.le_of_ble_eq_true rfl⟩, (by first | omega | (dsimp only; omega) | (show (_ : Nat) ≤ _; simp only [room_1]; omega)), (by first | omega | (dsimp only; omega) | (show (_ : Nat) ≤ _; simp only [room_1]; omega))⟩ dL_law_518 (fun E ce q9 f753 H locs hPX hw hS hce hcv hcl => ?_) (fun v f753 H locs hP hw hS => ?_)
          · exact hPX.elim
          · obtain ⟨⟨k754, ev9⟩, hC755, ⟨g756, ho757⟩, hk758⟩ := hP
            subst ev9
            have hM759 := MW.kp hM hk758 hdos
            refine W.eq (g2 := F0 m 521 ls [.int k754]) rfl ?_
            refine lv_istore (lv' := [(5, .int k754), (4, .int (nI (4 * j))), (0, .ref b), (1, .ref xo), (2, .ref mo), (3, .ref out)]) hx hb dL_law_521 hl9 (by decide) rfl (fun ls hl9 => ?_)
            refine lv_aload_n hx hb dL_law_523 rfl (lv_at hl9 4 rfl) ?_
            refine lv_aload_n hx hb dL_law_524 rfl (lv_at hl9 2 rfl) ?_
            refine lv_iload hx hb dL_law_525 (lv_at hl9 1 rfl) ?_
            refine lv_iconst (v := 1) hx hb dL_law_527 (by decide) ?_
            refine lv_iadd hx hb dL_law_528 ?_
            refine hp_c (v := (nI (4 * j + 1))) (nI_add (4 * j) 1) ?_
            refine va_sld hx hb hX hbl hbA hS (vp_in_nI (show 4 * j + 1 < L by omega) (by omega)) dL_law_529 ?_
            refine hp_c (v := xs (4 * j + 1)) (congrArg xs (nI_clamp (by omega))) ?_
            refine lv_aload_n hx hb dL_law_530 rfl (lv_at hl9 2 rfl) ?_
            refine lv_iload hx hb dL_law_531 (lv_at hl9 1 rfl) ?_
            refine lv_iconst (v := 2) hx hb dL_law_533 (by decide) ?_
            refine lv_iadd hx hb dL_law_534 ?_
            refine hp_c (v := (nI (4 * j + 2))) (nI_add (4 * j) 2) ?_
            refine va_sld hx hb hX hbl hbA hS (vp_in_nI (show 4 * j + 2 < L by omega) (by omega)) dL_law_535 ?_
            refine hp_c (v := xs (4 * j + 2)) (congrArg xs (nI_clamp (by omega))) ?_
            refine hp_V (ci := 5) (As := [.int (xs (4 * j + 1)), .int (xs (4 * j + 2))]) (rest := []) B0 hw hS (c_W5_asked hl G f753 mo dW dA dQ dM dS dL dR dT dZ dI dH dN dK dJ dU dO dF dP dE dX dY dG th (100 * j) gw0 ga0 gw1 ga1 mg0 mg1 n a cg x sa pk fl gv gh gl hM759 (by omega) (xs (4 * j + 1)) (xs (4 * j + 2))) mV_X5_asked qM_L_121 rfl hM759.1 rfl rfl hl9.1 (Nat.le_of_ble_eq_true rfl) ⟨⟨Nat.le_of_ble_eq_true rfl, Nat.le_of_ble_eq_true rfl⟩, (by first | omega | (dsimp only; omega) | (show (_ : Nat) ≤ _; simp only [room_1]; omega)), (by first | omega | (dsimp only; omega) | (show (_ : Nat) ≤ _; simp only [room_1]; omega))⟩ dL_law_536 (fun E ce q9 f760 H locs hPX hw hS hce hcv hcl => ?_) (fun v f760 H locs hP hw hS => ?_)
            · exact hPX.elim
            · obtain ⟨⟨r761, ev9⟩, ⟨t762, hM763⟩, he764⟩ := hP
              subst ev9
              have hC765 := CW.eq hC755 he764 hdis (MW.fr hM759 hM763)
              have ho766 := (he764 _ hno2).trans ho757
              refine W.eq (g2 := F0 m 539 ls [.int r761]) rfl ?_
              refine lv_istore (lv' := [(6, .int r761), (5, .int k754), (4, .int (nI (4 * j))), (0, .ref b), (1, .ref xo), (2, .ref mo), (3, .ref out)]) hx hb dL_law_539 hl9 (by decide) rfl (fun ls hl9 => ?_)
              refine lv_goto (tgt := 794) hx hb dL_law_541 (by decide) ?_
              refine lv_iinc (v := (nI (4 * (j + 1)))) (lv' := [(4, .int (nI (4 * (j + 1)))), (6, .int r761), (5, .int k754), (0, .ref b), (1, .ref xo), (2, .ref mo), (3, .ref out)]) hx hb dL_law_794 hl9 (k := 2) rfl (nI_add (4 * j) 4) (by decide) rfl (fun ls hl9 => ?_)
              refine lv_goto (tgt := 23) hx hb dL_law_797 (by decide) ?_
              exact W.widen (by omega) (by omega) (ih _ _ H locs ls ⟨_, _, _, _, _, _, _, _, _, _, _, _, _, _, _, _, hC765, ⟨_, (MW.mono hM763 (by omega))⟩, ⟨_, ho766⟩, rfl⟩ hw hS (lv_sub hl9 [0, 3, 4, 5, 6] rfl))
        · refine lv_tableIn (off := 505) (tgt := 544) hx hb dL_law_39 (by decide) (by decide) (by decide) (by decide) ?_
          refine lv_aload_n hx hb dL_law_544 rfl (lv_at hl9 2 rfl) ?_
          refine lv_aload_n hx hb dL_law_545 rfl (lv_at hl9 1 rfl) ?_
          refine lv_iload hx hb dL_law_546 (lv_at hl9 0 rfl) ?_
          refine lv_iconst (v := 1) hx hb dL_law_548 (by decide) ?_
          refine lv_iadd hx hb dL_law_549 ?_
          refine hp_c (v := (nI (4 * j + 1))) (nI_add (4 * j) 1) ?_
          refine va_sld hx hb hX hbl hbA hS (vp_in_nI (show 4 * j + 1 < L by omega) (by omega)) dL_law_550 ?_
          refine hp_c (v := xs (4 * j + 1)) (congrArg xs (nI_clamp (by omega))) ?_
          refine lv_aload_n hx hb dL_law_551 rfl (lv_at hl9 4 rfl) ?_
          refine hp_SH (As := [.ref xo, .int (xs (4 * j + 1)), .ref out]) (rest := []) B0 hw hS (c_L_requests hl G f9 xo ez eo bu nw0 na0 nq0 nr0 nw1 na1 nq1 nr1 bs bp bh bf bl bg gw0 ga0 gw1 ga1 mg0 mg1 n a cg x sa pk fl gv gh gl hC out go ho hno (xs (4 * j + 1))) mH_L_requests qM_L_122 rfl rfl hl9.1 (Nat.le_of_ble_eq_true rfl) ⟨⟨Nat.le_of_ble_eq_true rfl, Nat.le_of_ble_eq_true rfl⟩, (by first | omega | (dsimp only; omega) | (show (_ : Nat) ≤ _; simp only [room_1]; omega)), (by first | omega | (dsimp only; omega) | (show (_ : Nat) ≤ _; simp only [room_1]; omega))⟩ dL_law_552 (fun E ce q9 f767 H locs hPX hw hS hce hcv hcl => ?_) (fun v f767 H locs hP hw hS => ?_)
          · exact hPX.elim
          · obtain ⟨⟨k768, ev9⟩, hC769, ⟨g770, ho771⟩, hk772⟩ := hP
            subst ev9
            have hM773 := MW.kp hM hk772 hdos
            refine W.eq (g2 := F0 m 555 ls [.int k768]) rfl ?_
            refine lv_istore (lv' := [(5, .int k768), (4, .int (nI (4 * j))), (0, .ref b), (1, .ref xo), (2, .ref mo), (3, .ref out)]) hx hb dL_law_555 hl9 (by decide) rfl (fun ls hl9 => ?_)
            refine lv_aload_n hx hb dL_law_557 rfl (lv_at hl9 4 rfl) ?_
            refine lv_aload_n hx hb dL_law_558 rfl (lv_at hl9 2 rfl) ?_
            refine lv_iload hx hb dL_law_559 (lv_at hl9 1 rfl) ?_
            refine lv_iconst (v := 1) hx hb dL_law_561 (by decide) ?_
            refine lv_iadd hx hb dL_law_562 ?_
            refine hp_c (v := (nI (4 * j + 1))) (nI_add (4 * j) 1) ?_
            refine va_sld hx hb hX hbl hbA hS (vp_in_nI (show 4 * j + 1 < L by omega) (by omega)) dL_law_563 ?_
            refine hp_c (v := xs (4 * j + 1)) (congrArg xs (nI_clamp (by omega))) ?_
            refine hp_V (ci := 5) (As := [.int (xs (4 * j + 1))]) (rest := []) B0 hw hS (c_W5_requests hl G f767 mo dW dA dQ dM dS dL dR dT dZ dI dH dN dK dJ dU dO dF dP dE dX dY dG th (100 * j) gw0 ga0 gw1 ga1 mg0 mg1 n a cg x sa pk fl gv gh gl hM773 (by omega) (xs (4 * j + 1))) mV_X5_requests qM_L_124 rfl hM773.1 rfl rfl hl9.1 (Nat.le_of_ble_eq_true rfl) ⟨⟨Nat.le_of_ble_eq_true rfl, Nat.le_of_ble_eq_true rfl⟩, (by first | omega | (dsimp only; omega) | (show (_ : Nat) ≤ _; simp only [room_1]; omega)), (by first | omega | (dsimp only; omega) | (show (_ : Nat) ≤ _; simp only [room_1]; omega))⟩ dL_law_564 (fun E ce q9 f774 H locs hPX hw hS hce hcv hcl => ?_) (fun v f774 H locs hP hw hS => ?_)
            · exact hPX.elim
            · obtain ⟨⟨r775, ev9⟩, ⟨t776, hM777⟩, he778⟩ := hP
              subst ev9
              have hC779 := CW.eq hC769 he778 hdis (MW.fr hM773 hM777)
              have ho780 := (he778 _ hno2).trans ho771
              refine W.eq (g2 := F0 m 567 ls [.int r775]) rfl ?_
              refine lv_istore (lv' := [(6, .int r775), (5, .int k768), (4, .int (nI (4 * j))), (0, .ref b), (1, .ref xo), (2, .ref mo), (3, .ref out)]) hx hb dL_law_567 hl9 (by decide) rfl (fun ls hl9 => ?_)
              refine lv_goto (tgt := 794) hx hb dL_law_569 (by decide) ?_
              refine lv_iinc (v := (nI (4 * (j + 1)))) (lv' := [(4, .int (nI (4 * (j + 1)))), (6, .int r775), (5, .int k768), (0, .ref b), (1, .ref xo), (2, .ref mo), (3, .ref out)]) hx hb dL_law_794 hl9 (k := 2) rfl (nI_add (4 * j) 4) (by decide) rfl (fun ls hl9 => ?_)
              refine lv_goto (tgt := 23) hx hb dL_law_797 (by decide) ?_
              exact W.widen (by omega) (by omega) (ih _ _ H locs ls ⟨_, _, _, _, _, _, _, _, _, _, _, _, _, _, _, _, hC779, ⟨_, (MW.mono hM777 (by omega))⟩, ⟨_, ho780⟩, rfl⟩ hw hS (lv_sub hl9 [0, 3, 4, 5, 6] rfl))
        · refine lv_tableIn (off := 533) (tgt := 572) hx hb dL_law_39 (by decide) (by decide) (by decide) (by decide) ?_
          refine lv_aload_n hx hb dL_law_572 rfl (lv_at hl9 2 rfl) ?_
          refine lv_aload_n hx hb dL_law_573 rfl (lv_at hl9 1 rfl) ?_
          refine lv_iload hx hb dL_law_574 (lv_at hl9 0 rfl) ?_
          refine lv_iconst (v := 1) hx hb dL_law_576 (by decide) ?_
          refine lv_iadd hx hb dL_law_577 ?_
          refine hp_c (v := (nI (4 * j + 1))) (nI_add (4 * j) 1) ?_
          refine va_sld hx hb hX hbl hbA hS (vp_in_nI (show 4 * j + 1 < L by omega) (by omega)) dL_law_578 ?_
          refine hp_c (v := xs (4 * j + 1)) (congrArg xs (nI_clamp (by omega))) ?_
          refine lv_aload_n hx hb dL_law_579 rfl (lv_at hl9 4 rfl) ?_
          refine hp_SH (As := [.ref xo, .int (xs (4 * j + 1)), .ref out]) (rest := []) B0 hw hS (c_L_isLooped hl G f9 xo ez eo bu nw0 na0 nq0 nr0 nw1 na1 nq1 nr1 bs bp bh bf bl bg gw0 ga0 gw1 ga1 mg0 mg1 n a cg x sa pk fl gv gh gl hC out go ho hno (xs (4 * j + 1))) mH_L_isLooped qM_L_125 rfl rfl hl9.1 (Nat.le_of_ble_eq_true rfl) ⟨⟨Nat.le_of_ble_eq_true rfl, Nat.le_of_ble_eq_true rfl⟩, (by first | omega | (dsimp only; omega) | (show (_ : Nat) ≤ _; simp only [room_1]; omega)), (by first | omega | (dsimp only; omega) | (show (_ : Nat) ≤ _; simp only [room_1]; omega))⟩ dL_law_580 (fun E ce q9 f781 H locs hPX hw hS hce hcv hcl => ?_) (fun v f781 H locs hP hw hS => ?_)
          · exact hPX.elim
          · obtain ⟨⟨k782, ev9⟩, hC783, ⟨g784, ho785⟩, hk786⟩ := hP
            subst ev9
            have hM787 := MW.kp hM hk786 hdos
            refine W.eq (g2 := F0 m 583 ls [.int k782]) rfl ?_
            refine lv_istore (lv' := [(5, .int k782), (4, .int (nI (4 * j))), (0, .ref b), (1, .ref xo), (2, .ref mo), (3, .ref out)]) hx hb dL_law_583 hl9 (by decide) rfl (fun ls hl9 => ?_)
            refine lv_aload_n hx hb dL_law_585 rfl (lv_at hl9 4 rfl) ?_
            refine lv_aload_n hx hb dL_law_586 rfl (lv_at hl9 2 rfl) ?_
            refine lv_iload hx hb dL_law_587 (lv_at hl9 1 rfl) ?_
            refine lv_iconst (v := 1) hx hb dL_law_589 (by decide) ?_
            refine lv_iadd hx hb dL_law_590 ?_
            refine hp_c (v := (nI (4 * j + 1))) (nI_add (4 * j) 1) ?_
            refine va_sld hx hb hX hbl hbA hS (vp_in_nI (show 4 * j + 1 < L by omega) (by omega)) dL_law_591 ?_
            refine hp_c (v := xs (4 * j + 1)) (congrArg xs (nI_clamp (by omega))) ?_
            refine hp_V (ci := 5) (As := [.int (xs (4 * j + 1))]) (rest := []) B0 hw hS (c_W5_isLooped hl G f781 mo dW dA dQ dM dS dL dR dT dZ dI dH dN dK dJ dU dO dF dP dE dX dY dG th (100 * j) gw0 ga0 gw1 ga1 mg0 mg1 n a cg x sa pk fl gv gh gl hM787 (by omega) (xs (4 * j + 1))) mV_X5_isLooped qM_L_127 rfl hM787.1 rfl rfl hl9.1 (Nat.le_of_ble_eq_true rfl) ⟨⟨Nat.le_of_ble_eq_true rfl, Nat.le_of_ble_eq_true rfl⟩, (by first | omega | (dsimp only; omega) | (show (_ : Nat) ≤ _; simp only [room_1]; omega)), (by first | omega | (dsimp only; omega) | (show (_ : Nat) ≤ _; simp only [room_1]; omega))⟩ dL_law_592 (fun E ce q9 f788 H locs hPX hw hS hce hcv hcl => ?_) (fun v f788 H locs hP hw hS => ?_)
            · exact hPX.elim
            · obtain ⟨⟨r789, ev9⟩, ⟨t790, hM791⟩, he792⟩ := hP
              subst ev9
              have hC793 := CW.eq hC783 he792 hdis (MW.fr hM787 hM791)
              have ho794 := (he792 _ hno2).trans ho785
              refine W.eq (g2 := F0 m 595 ls [.int r789]) rfl ?_
              refine lv_istore (lv' := [(6, .int r789), (5, .int k782), (4, .int (nI (4 * j))), (0, .ref b), (1, .ref xo), (2, .ref mo), (3, .ref out)]) hx hb dL_law_595 hl9 (by decide) rfl (fun ls hl9 => ?_)
              refine lv_goto (tgt := 794) hx hb dL_law_597 (by decide) ?_
              refine lv_iinc (v := (nI (4 * (j + 1)))) (lv' := [(4, .int (nI (4 * (j + 1)))), (6, .int r789), (5, .int k782), (0, .ref b), (1, .ref xo), (2, .ref mo), (3, .ref out)]) hx hb dL_law_794 hl9 (k := 2) rfl (nI_add (4 * j) 4) (by decide) rfl (fun ls hl9 => ?_)
              refine lv_goto (tgt := 23) hx hb dL_law_797 (by decide) ?_
              exact W.widen (by omega) (by omega) (ih _ _ H locs ls ⟨_, _, _, _, _, _, _, _, _, _, _, _, _, _, _, _, hC793, ⟨_, (MW.mono hM791 (by omega))⟩, ⟨_, ho794⟩, rfl⟩ hw hS (lv_sub hl9 [0, 3, 4, 5, 6] rfl))
        · refine lv_tableIn (off := 561) (tgt := 600) hx hb dL_law_39 (by decide) (by decide) (by decide) (by decide) ?_
          refine lv_aload_n hx hb dL_law_600 rfl (lv_at hl9 2 rfl) ?_
          refine lv_aload_n hx hb dL_law_601 rfl (lv_at hl9 1 rfl) ?_
          refine lv_iload hx hb dL_law_602 (lv_at hl9 0 rfl) ?_
          refine lv_iconst (v := 1) hx hb dL_law_604 (by decide) ?_
          refine lv_iadd hx hb dL_law_605 ?_
          refine hp_c (v := (nI (4 * j + 1))) (nI_add (4 * j) 1) ?_
          refine va_sld hx hb hX hbl hbA hS (vp_in_nI (show 4 * j + 1 < L by omega) (by omega)) dL_law_606 ?_
          refine hp_c (v := xs (4 * j + 1)) (congrArg xs (nI_clamp (by omega))) ?_
          refine lv_aload_n hx hb dL_law_607 rfl (lv_at hl9 4 rfl) ?_
          refine hp_SH (As := [.ref xo, .int (xs (4 * j + 1)), .ref out]) (rest := []) B0 hw hS (c_L_underWay hl G f9 xo ez eo bu nw0 na0 nq0 nr0 nw1 na1 nq1 nr1 bs bp bh bf bl bg gw0 ga0 gw1 ga1 mg0 mg1 n a cg x sa pk fl gv gh gl hC out go ho hno (xs (4 * j + 1))) mH_L_underWay qM_L_128 rfl rfl hl9.1 (Nat.le_of_ble_eq_true rfl) ⟨⟨Nat.le_of_ble_eq_true rfl, Nat.le_of_ble_eq_true rfl⟩, (by first | omega | (dsimp only; omega) | (show (_ : Nat) ≤ _; simp only [room_1]; omega)), (by first | omega | (dsimp only; omega) | (show (_ : Nat) ≤ _; simp only [room_1]; omega))⟩ dL_law_608 (fun E ce q9 f795 H locs hPX hw hS hce hcv hcl => ?_) (fun v f795 H locs hP hw hS => ?_)
          · exact hPX.elim
          · obtain ⟨⟨k796, ev9⟩, hC797, ⟨g798, ho799⟩, hk800⟩ := hP
            subst ev9
            have hM801 := MW.kp hM hk800 hdos
            refine W.eq (g2 := F0 m 611 ls [.int k796]) rfl ?_
            refine lv_istore (lv' := [(5, .int k796), (4, .int (nI (4 * j))), (0, .ref b), (1, .ref xo), (2, .ref mo), (3, .ref out)]) hx hb dL_law_611 hl9 (by decide) rfl (fun ls hl9 => ?_)
            refine lv_aload_n hx hb dL_law_613 rfl (lv_at hl9 4 rfl) ?_
            refine lv_aload_n hx hb dL_law_614 rfl (lv_at hl9 2 rfl) ?_
            refine lv_iload hx hb dL_law_615 (lv_at hl9 1 rfl) ?_
            refine lv_iconst (v := 1) hx hb dL_law_617 (by decide) ?_
            refine lv_iadd hx hb dL_law_618 ?_
            refine hp_c (v := (nI (4 * j + 1))) (nI_add (4 * j) 1) ?_
            refine va_sld hx hb hX hbl hbA hS (vp_in_nI (show 4 * j + 1 < L by omega) (by omega)) dL_law_619 ?_
            refine hp_c (v := xs (4 * j + 1)) (congrArg xs (nI_clamp (by omega))) ?_
            refine hp_V (ci := 5) (As := [.int (xs (4 * j + 1))]) (rest := []) B0 hw hS (c_W5_underWay hl G f795 mo dW dA dQ dM dS dL dR dT dZ dI dH dN dK dJ dU dO dF dP dE dX dY dG th (100 * j) gw0 ga0 gw1 ga1 mg0 mg1 n a cg x sa pk fl gv gh gl hM801 (by omega) (xs (4 * j + 1))) mV_X5_underWay qM_L_130 rfl hM801.1 rfl rfl hl9.1 (Nat.le_of_ble_eq_true rfl) ⟨⟨Nat.le_of_ble_eq_true rfl, Nat.le_of_ble_eq_true rfl⟩, (by first | omega | (dsimp only; omega) | (show (_ : Nat) ≤ _; simp only [room_1]; omega)), (by first | omega | (dsimp only; omega) | (show (_ : Nat) ≤ _; simp only [room_1]; omega))⟩ dL_law_620 (fun E ce q9 f802 H locs hPX hw hS hce hcv hcl => ?_) (fun v f802 H locs hP hw hS => ?_)
            · exact hPX.elim
            · obtain ⟨⟨r803, ev9⟩, ⟨t804, hM805⟩, he806⟩ := hP
              subst ev9
              have hC807 := CW.eq hC797 he806 hdis (MW.fr hM801 hM805)
              have ho808 := (he806 _ hno2).trans ho799
              refine W.eq (g2 := F0 m 623 ls [.int r803]) rfl ?_
              refine lv_istore (lv' := [(6, .int r803), (5, .int k796), (4, .int (nI (4 * j))), (0, .ref b), (1, .ref xo), (2, .ref mo), (3, .ref out)]) hx hb dL_law_623 hl9 (by decide) rfl (fun ls hl9 => ?_)
              refine lv_goto (tgt := 794) hx hb dL_law_625 (by decide) ?_
              refine lv_iinc (v := (nI (4 * (j + 1)))) (lv' := [(4, .int (nI (4 * (j + 1)))), (6, .int r803), (5, .int k796), (0, .ref b), (1, .ref xo), (2, .ref mo), (3, .ref out)]) hx hb dL_law_794 hl9 (k := 2) rfl (nI_add (4 * j) 4) (by decide) rfl (fun ls hl9 => ?_)
              refine lv_goto (tgt := 23) hx hb dL_law_797 (by decide) ?_
              exact W.widen (by omega) (by omega) (ih _ _ H locs ls ⟨_, _, _, _, _, _, _, _, _, _, _, _, _, _, _, _, hC807, ⟨_, (MW.mono hM805 (by omega))⟩, ⟨_, ho808⟩, rfl⟩ hw hS (lv_sub hl9 [0, 3, 4, 5, 6] rfl))
        · refine lv_tableIn (off := 589) (tgt := 628) hx hb dL_law_39 (by decide) (by decide) (by decide) (by decide) ?_
          refine lv_aload_n hx hb dL_law_628 rfl (lv_at hl9 2 rfl) ?_
          refine lv_aload_n hx hb dL_law_629 rfl (lv_at hl9 1 rfl) ?_
          refine lv_iload hx hb dL_law_630 (lv_at hl9 0 rfl) ?_
          refine lv_iconst (v := 1) hx hb dL_law_632 (by decide) ?_
          refine lv_iadd hx hb dL_law_633 ?_
          refine hp_c (v := (nI (4 * j + 1))) (nI_add (4 * j) 1) ?_
          refine va_sld hx hb hX hbl hbA hS (vp_in_nI (show 4 * j + 1 < L by omega) (by omega)) dL_law_634 ?_
          refine hp_c (v := xs (4 * j + 1)) (congrArg xs (nI_clamp (by omega))) ?_
          refine lv_aload_n hx hb dL_law_635 rfl (lv_at hl9 4 rfl) ?_
          refine hp_SH (As := [.ref xo, .int (xs (4 * j + 1)), .ref out]) (rest := []) B0 hw hS (c_L_missed hl G f9 xo ez eo bu nw0 na0 nq0 nr0 nw1 na1 nq1 nr1 bs bp bh bf bl bg gw0 ga0 gw1 ga1 mg0 mg1 n a cg x sa pk fl gv gh gl hC out go ho hno (xs (4 * j + 1))) mH_L_missed qM_L_131 rfl rfl hl9.1 (Nat.le_of_ble_eq_true rfl) ⟨⟨Nat.le_of_ble_eq_true rfl, Nat.le_of_ble_eq_true rfl⟩, (by first | omega | (dsimp only; omega) | (show (_ : Nat) ≤ _; simp only [room_1]; omega)), (by first | omega | (dsimp only; omega) | (show (_ : Nat) ≤ _; simp only [room_1]; omega))⟩ dL_law_636 (fun E ce q9 f809 H locs hPX hw hS hce hcv hcl => ?_) (fun v f809 H locs hP hw hS => ?_)
          · exact hPX.elim
          · obtain ⟨⟨k810, ev9⟩, hC811, ⟨g812, ho813⟩, hk814⟩ := hP
            subst ev9
            have hM815 := MW.kp hM hk814 hdos
            refine W.eq (g2 := F0 m 639 ls [.int k810]) rfl ?_
            refine lv_istore (lv' := [(5, .int k810), (4, .int (nI (4 * j))), (0, .ref b), (1, .ref xo), (2, .ref mo), (3, .ref out)]) hx hb dL_law_639 hl9 (by decide) rfl (fun ls hl9 => ?_)
            refine lv_aload_n hx hb dL_law_641 rfl (lv_at hl9 4 rfl) ?_
            refine lv_aload_n hx hb dL_law_642 rfl (lv_at hl9 2 rfl) ?_
            refine lv_iload hx hb dL_law_643 (lv_at hl9 1 rfl) ?_
            refine lv_iconst (v := 1) hx hb dL_law_645 (by decide) ?_
            refine lv_iadd hx hb dL_law_646 ?_
            refine hp_c (v := (nI (4 * j + 1))) (nI_add (4 * j) 1) ?_
            refine va_sld hx hb hX hbl hbA hS (vp_in_nI (show 4 * j + 1 < L by omega) (by omega)) dL_law_647 ?_
            refine hp_c (v := xs (4 * j + 1)) (congrArg xs (nI_clamp (by omega))) ?_
            refine hp_V (ci := 5) (As := [.int (xs (4 * j + 1))]) (rest := []) B0 hw hS (c_W5_missed hl G f809 mo dW dA dQ dM dS dL dR dT dZ dI dH dN dK dJ dU dO dF dP dE dX dY dG th (100 * j) gw0 ga0 gw1 ga1 mg0 mg1 n a cg x sa pk fl gv gh gl hM815 (by omega) (xs (4 * j + 1))) mV_X5_missed qM_L_133 rfl hM815.1 rfl rfl hl9.1 (Nat.le_of_ble_eq_true rfl) ⟨⟨Nat.le_of_ble_eq_true rfl, Nat.le_of_ble_eq_true rfl⟩, (by first | omega | (dsimp only; omega) | (show (_ : Nat) ≤ _; simp only [room_1]; omega)), (by first | omega | (dsimp only; omega) | (show (_ : Nat) ≤ _; simp only [room_1]; omega))⟩ dL_law_648 (fun E ce q9 f816 H locs hPX hw hS hce hcv hcl => ?_) (fun v f816 H locs hP hw hS => ?_)
            · exact hPX.elim
            · obtain ⟨⟨r817, ev9⟩, ⟨t818, hM819⟩, he820⟩ := hP
              subst ev9
              have hC821 := CW.eq hC811 he820 hdis (MW.fr hM815 hM819)
              have ho822 := (he820 _ hno2).trans ho813
              refine W.eq (g2 := F0 m 651 ls [.int r817]) rfl ?_
              refine lv_istore (lv' := [(6, .int r817), (5, .int k810), (4, .int (nI (4 * j))), (0, .ref b), (1, .ref xo), (2, .ref mo), (3, .ref out)]) hx hb dL_law_651 hl9 (by decide) rfl (fun ls hl9 => ?_)
              refine lv_goto (tgt := 794) hx hb dL_law_653 (by decide) ?_
              refine lv_iinc (v := (nI (4 * (j + 1)))) (lv' := [(4, .int (nI (4 * (j + 1)))), (6, .int r817), (5, .int k810), (0, .ref b), (1, .ref xo), (2, .ref mo), (3, .ref out)]) hx hb dL_law_794 hl9 (k := 2) rfl (nI_add (4 * j) 4) (by decide) rfl (fun ls hl9 => ?_)
              refine lv_goto (tgt := 23) hx hb dL_law_797 (by decide) ?_
              exact W.widen (by omega) (by omega) (ih _ _ H locs ls ⟨_, _, _, _, _, _, _, _, _, _, _, _, _, _, _, _, hC821, ⟨_, (MW.mono hM819 (by omega))⟩, ⟨_, ho822⟩, rfl⟩ hw hS (lv_sub hl9 [0, 3, 4, 5, 6] rfl))
        · refine lv_tableIn (off := 617) (tgt := 656) hx hb dL_law_39 (by decide) (by decide) (by decide) (by decide) ?_
          refine lv_aload_n hx hb dL_law_656 rfl (lv_at hl9 2 rfl) ?_
          refine lv_aload_n hx hb dL_law_657 rfl (lv_at hl9 1 rfl) ?_
          refine lv_iload hx hb dL_law_658 (lv_at hl9 0 rfl) ?_
          refine lv_iconst (v := 1) hx hb dL_law_660 (by decide) ?_
          refine lv_iadd hx hb dL_law_661 ?_
          refine hp_c (v := (nI (4 * j + 1))) (nI_add (4 * j) 1) ?_
          refine va_sld hx hb hX hbl hbA hS (vp_in_nI (show 4 * j + 1 < L by omega) (by omega)) dL_law_662 ?_
          refine hp_c (v := xs (4 * j + 1)) (congrArg xs (nI_clamp (by omega))) ?_
          refine lv_aload_n hx hb dL_law_663 rfl (lv_at hl9 4 rfl) ?_
          refine hp_SH (As := [.ref xo, .int (xs (4 * j + 1)), .ref out]) (rest := []) B0 hw hS (c_L_send hl G f9 xo ez eo bu nw0 na0 nq0 nr0 nw1 na1 nq1 nr1 bs bp bh bf bl bg gw0 ga0 gw1 ga1 mg0 mg1 n a cg x sa pk fl gv gh gl hC out go ho hno (xs (4 * j + 1))) mH_L_send qM_L_134 rfl rfl hl9.1 (Nat.le_of_ble_eq_true rfl) ⟨⟨Nat.le_of_ble_eq_true rfl, Nat.le_of_ble_eq_true rfl⟩, (by first | omega | (dsimp only; omega) | (show (_ : Nat) ≤ _; simp only [room_1]; omega)), (by first | omega | (dsimp only; omega) | (show (_ : Nat) ≤ _; simp only [room_1]; omega))⟩ dL_law_664 (fun E ce q9 f823 H locs hPX hw hS hce hcv hcl => ?_) (fun v f823 H locs hP hw hS => ?_)
          · exact hPX.elim
          · obtain ⟨hP, hk828⟩ := hP
            rcases hP with ⟨hz824, ev9, hC825, ho827⟩ | ⟨hz824, ev9, hC825, g826, ho827⟩
            · subst ev9
              have hM829 := MW.kp hM hk828 hdos
              refine W.eq (g2 := F0 m 667 ls [.int 0]) rfl ?_
              refine lv_istore (lv' := [(5, .int 0), (4, .int (nI (4 * j))), (0, .ref b), (1, .ref xo), (2, .ref mo), (3, .ref out)]) hx hb dL_law_667 hl9 (by decide) rfl (fun ls hl9 => ?_)
              refine lv_aload_n hx hb dL_law_669 rfl (lv_at hl9 4 rfl) ?_
              refine lv_aload_n hx hb dL_law_670 rfl (lv_at hl9 2 rfl) ?_
              refine lv_iload hx hb dL_law_671 (lv_at hl9 1 rfl) ?_
              refine lv_iconst (v := 1) hx hb dL_law_673 (by decide) ?_
              refine lv_iadd hx hb dL_law_674 ?_
              refine hp_c (v := (nI (4 * j + 1))) (nI_add (4 * j) 1) ?_
              refine va_sld hx hb hX hbl hbA hS (vp_in_nI (show 4 * j + 1 < L by omega) (by omega)) dL_law_675 ?_
              refine hp_c (v := xs (4 * j + 1)) (congrArg xs (nI_clamp (by omega))) ?_
              refine hp_V (ci := 5) (As := [.int (xs (4 * j + 1))]) (rest := []) B0 hw hS (c_W5_send hl G f823 mo dW dA dQ dM dS dL dR dT dZ dI dH dN dK dJ dU dO dF dP dE dX dY dG th (100 * j) gw0 ga0 gw1 ga1 mg0 mg1 n a cg x sa pk fl gv gh gl hM829 (by omega) (xs (4 * j + 1))) mV_X5_send qM_L_136 rfl hM829.1 rfl rfl hl9.1 (Nat.le_of_ble_eq_true rfl) ⟨⟨Nat.le_of_ble_eq_true rfl, Nat.le_of_ble_eq_true rfl⟩, (by first | omega | (dsimp only; omega) | (show (_ : Nat) ≤ _; simp only [room_1]; omega)), (by first | omega | (dsimp only; omega) | (show (_ : Nat) ≤ _; simp only [room_1]; omega))⟩ dL_law_676 (fun E ce q9 f830 H locs hPX hw hS hce hcv hcl => ?_) (fun v f830 H locs hP hw hS => ?_)
              · exact hPX.elim
              · obtain ⟨hP, he833⟩ := hP
                rcases hP with ⟨hy831, ev9, hM832⟩ | ⟨hy831, ⟨r834, ev9⟩, hM832⟩
                · subst ev9
                  have hC835 := CW.eq hC825 he833 hdis (MW.fr hM829 hM832)
                  have ho836 := (he833 _ hno2).trans ho827
                  refine W.eq (g2 := F0 m 679 ls [.int ((nI a))]) rfl ?_
                  refine lv_istore (lv' := [(6, .int ((nI a))), (5, .int 0), (4, .int (nI (4 * j))), (0, .ref b), (1, .ref xo), (2, .ref mo), (3, .ref out)]) hx hb dL_law_679 hl9 (by decide) rfl (fun ls hl9 => ?_)
                  refine lv_goto (tgt := 794) hx hb dL_law_681 (by decide) ?_
                  refine lv_iinc (v := (nI (4 * (j + 1)))) (lv' := [(4, .int (nI (4 * (j + 1)))), (6, .int ((nI a))), (5, .int 0), (0, .ref b), (1, .ref xo), (2, .ref mo), (3, .ref out)]) hx hb dL_law_794 hl9 (k := 2) rfl (nI_add (4 * j) 4) (by decide) rfl (fun ls hl9 => ?_)
                  refine lv_goto (tgt := 23) hx hb dL_law_797 (by decide) ?_
                  exact W.widen (by omega) (by omega) (ih _ _ H locs ls ⟨_, _, _, _, _, _, _, _, _, _, _, _, _, _, _, _, hC835, ⟨_, (MW.mono hM832 (by omega))⟩, ⟨_, ho836⟩, rfl⟩ hw hS (lv_sub hl9 [0, 3, 4, 5, 6] rfl))
                · exact absurd hz824 hy831
            · subst ev9
              have hM837 := MW.kp hM hk828 hdos
              refine W.eq (g2 := F0 m 667 ls [.int (spc (sP (xs (4 * j + 1))) (n < 60))]) rfl ?_
              refine lv_istore (lv' := [(5, .int (spc (sP (xs (4 * j + 1))) (n < 60))), (4, .int (nI (4 * j))), (0, .ref b), (1, .ref xo), (2, .ref mo), (3, .ref out)]) hx hb dL_law_667 hl9 (by decide) rfl (fun ls hl9 => ?_)
              refine lv_aload_n hx hb dL_law_669 rfl (lv_at hl9 4 rfl) ?_
              refine lv_aload_n hx hb dL_law_670 rfl (lv_at hl9 2 rfl) ?_
              refine lv_iload hx hb dL_law_671 (lv_at hl9 1 rfl) ?_
              refine lv_iconst (v := 1) hx hb dL_law_673 (by decide) ?_
              refine lv_iadd hx hb dL_law_674 ?_
              refine hp_c (v := (nI (4 * j + 1))) (nI_add (4 * j) 1) ?_
              refine va_sld hx hb hX hbl hbA hS (vp_in_nI (show 4 * j + 1 < L by omega) (by omega)) dL_law_675 ?_
              refine hp_c (v := xs (4 * j + 1)) (congrArg xs (nI_clamp (by omega))) ?_
              refine hp_V (ci := 5) (As := [.int (xs (4 * j + 1))]) (rest := []) B0 hw hS (c_W5_send hl G f823 mo dW dA dQ dM dS dL dR dT dZ dI dH dN dK dJ dU dO dF dP dE dX dY dG th (100 * j) gw0 ga0 gw1 ga1 mg0 mg1 n a cg x sa pk fl gv gh gl hM837 (by omega) (xs (4 * j + 1))) mV_X5_send qM_L_136 rfl hM837.1 rfl rfl hl9.1 (Nat.le_of_ble_eq_true rfl) ⟨⟨Nat.le_of_ble_eq_true rfl, Nat.le_of_ble_eq_true rfl⟩, (by first | omega | (dsimp only; omega) | (show (_ : Nat) ≤ _; simp only [room_1]; omega)), (by first | omega | (dsimp only; omega) | (show (_ : Nat) ≤ _; simp only [room_1]; omega))⟩ dL_law_676 (fun E ce q9 f838 H locs hPX hw hS hce hcv hcl => ?_) (fun v f838 H locs hP hw hS => ?_)
              · exact hPX.elim
              · obtain ⟨hP, he841⟩ := hP
                rcases hP with ⟨hy839, ev9, hM840⟩ | ⟨hy839, ⟨r842, ev9⟩, hM840⟩
                · exact absurd hy839 hz824
                · subst ev9
                  have hC843 := CW.eq hC825 he841 hdis (MW.fr hM837 hM840)
                  have ho844 := (he841 _ hno2).trans ho827
                  refine W.eq (g2 := F0 m 679 ls [.int r842]) rfl ?_
                  refine lv_istore (lv' := [(6, .int r842), (5, .int (spc (sP (xs (4 * j + 1))) (n < 60))), (4, .int (nI (4 * j))), (0, .ref b), (1, .ref xo), (2, .ref mo), (3, .ref out)]) hx hb dL_law_679 hl9 (by decide) rfl (fun ls hl9 => ?_)
                  refine lv_goto (tgt := 794) hx hb dL_law_681 (by decide) ?_
                  refine lv_iinc (v := (nI (4 * (j + 1)))) (lv' := [(4, .int (nI (4 * (j + 1)))), (6, .int r842), (5, .int (spc (sP (xs (4 * j + 1))) (n < 60))), (0, .ref b), (1, .ref xo), (2, .ref mo), (3, .ref out)]) hx hb dL_law_794 hl9 (k := 2) rfl (nI_add (4 * j) 4) (by decide) rfl (fun ls hl9 => ?_)
                  refine lv_goto (tgt := 23) hx hb dL_law_797 (by decide) ?_
                  exact W.widen (by omega) (by omega) (ih _ _ H locs ls ⟨_, _, _, _, _, _, _, _, _, _, _, _, _, _, _, _, hC843, ⟨_, (MW.mono hM840 (by omega))⟩, ⟨_, ho844⟩, rfl⟩ hw hS (lv_sub hl9 [0, 3, 4, 5, 6] rfl))
        · refine lv_tableIn (off := 645) (tgt := 684) hx hb dL_law_39 (by decide) (by decide) (by decide) (by decide) ?_
          refine lv_aload_n hx hb dL_law_684 rfl (lv_at hl9 2 rfl) ?_
          refine lv_aload_n hx hb dL_law_685 rfl (lv_at hl9 1 rfl) ?_
          refine lv_iload hx hb dL_law_686 (lv_at hl9 0 rfl) ?_
          refine lv_iconst (v := 1) hx hb dL_law_688 (by decide) ?_
          refine lv_iadd hx hb dL_law_689 ?_
          refine hp_c (v := (nI (4 * j + 1))) (nI_add (4 * j) 1) ?_
          refine va_sld hx hb hX hbl hbA hS (vp_in_nI (show 4 * j + 1 < L by omega) (by omega)) dL_law_690 ?_
          refine hp_c (v := xs (4 * j + 1)) (congrArg xs (nI_clamp (by omega))) ?_
          refine lv_aload_n hx hb dL_law_691 rfl (lv_at hl9 4 rfl) ?_
          refine hp_SH (As := [.ref xo, .int (xs (4 * j + 1)), .ref out]) (rest := []) B0 hw hS (c_L_come hl G f9 xo ez eo bu nw0 na0 nq0 nr0 nw1 na1 nq1 nr1 bs bp bh bf bl bg gw0 ga0 gw1 ga1 mg0 mg1 n a cg x sa pk fl gv gh gl hC out go ho hno (xs (4 * j + 1))) mH_L_come qM_L_137 rfl rfl hl9.1 (Nat.le_of_ble_eq_true rfl) ⟨⟨Nat.le_of_ble_eq_true rfl, Nat.le_of_ble_eq_true rfl⟩, (by first | omega | (dsimp only; omega) | (show (_ : Nat) ≤ _; simp only [room_1]; omega)), (by first | omega | (dsimp only; omega) | (show (_ : Nat) ≤ _; simp only [room_1]; omega))⟩ dL_law_692 (fun E ce q9 f845 H locs hPX hw hS hce hcv hcl => ?_) (fun v f845 H locs hP hw hS => ?_)
          · exact hPX.elim
          · obtain ⟨hP, hk850⟩ := hP
            rcases hP with ⟨hz846, ev9, hC847, ho849⟩ | ⟨hz846, ev9, hC847, g848, ho849⟩
            · subst ev9
              have hM851 := MW.kp hM hk850 hdos
              refine W.eq (g2 := F0 m 695 ls [.int 0]) rfl ?_
              refine lv_istore (lv' := [(5, .int 0), (4, .int (nI (4 * j))), (0, .ref b), (1, .ref xo), (2, .ref mo), (3, .ref out)]) hx hb dL_law_695 hl9 (by decide) rfl (fun ls hl9 => ?_)
              refine lv_aload_n hx hb dL_law_697 rfl (lv_at hl9 4 rfl) ?_
              refine lv_aload_n hx hb dL_law_698 rfl (lv_at hl9 2 rfl) ?_
              refine lv_iload hx hb dL_law_699 (lv_at hl9 1 rfl) ?_
              refine lv_iconst (v := 1) hx hb dL_law_701 (by decide) ?_
              refine lv_iadd hx hb dL_law_702 ?_
              refine hp_c (v := (nI (4 * j + 1))) (nI_add (4 * j) 1) ?_
              refine va_sld hx hb hX hbl hbA hS (vp_in_nI (show 4 * j + 1 < L by omega) (by omega)) dL_law_703 ?_
              refine hp_c (v := xs (4 * j + 1)) (congrArg xs (nI_clamp (by omega))) ?_
              refine hp_V (ci := 5) (As := [.int (xs (4 * j + 1))]) (rest := []) B0 hw hS (c_W5_come hl G f845 mo dW dA dQ dM dS dL dR dT dZ dI dH dN dK dJ dU dO dF dP dE dX dY dG th (100 * j) gw0 ga0 gw1 ga1 mg0 mg1 n a cg x sa pk fl gv gh gl hM851 (by omega) (xs (4 * j + 1))) mV_X5_come qM_L_139 rfl hM851.1 rfl rfl hl9.1 (Nat.le_of_ble_eq_true rfl) ⟨⟨Nat.le_of_ble_eq_true rfl, Nat.le_of_ble_eq_true rfl⟩, (by first | omega | (dsimp only; omega) | (show (_ : Nat) ≤ _; simp only [room_1]; omega)), (by first | omega | (dsimp only; omega) | (show (_ : Nat) ≤ _; simp only [room_1]; omega))⟩ dL_law_704 (fun E ce q9 f852 H locs hPX hw hS hce hcv hcl => ?_) (fun v f852 H locs hP hw hS => ?_)
              · exact hPX.elim
              · obtain ⟨hP, he855⟩ := hP
                rcases hP with ⟨hy853, ev9, hM854⟩ | ⟨hy853, ⟨r856, ev9⟩, hM854⟩
                · subst ev9
                  have hC857 := CW.eq hC847 he855 hdis (MW.fr hM851 hM854)
                  have ho858 := (he855 _ hno2).trans ho849
                  refine W.eq (g2 := F0 m 707 ls [.int ((nI (bRun a sa pk (upd gh (fl (xs (4 * j + 1)).toNatClampNeg) 1) (bnd (upd gl (xs (4 * j + 1)).toNatClampNeg (nI (fl (xs (4 * j + 1)).toNatClampNeg)))) 240 cg x gv).1 - nI cg))]) rfl ?_
                  refine lv_istore (lv' := [(6, .int ((nI (bRun a sa pk (upd gh (fl (xs (4 * j + 1)).toNatClampNeg) 1) (bnd (upd gl (xs (4 * j + 1)).toNatClampNeg (nI (fl (xs (4 * j + 1)).toNatClampNeg)))) 240 cg x gv).1 - nI cg))), (5, .int 0), (4, .int (nI (4 * j))), (0, .ref b), (1, .ref xo), (2, .ref mo), (3, .ref out)]) hx hb dL_law_707 hl9 (by decide) rfl (fun ls hl9 => ?_)
                  refine lv_goto (tgt := 794) hx hb dL_law_709 (by decide) ?_
                  refine lv_iinc (v := (nI (4 * (j + 1)))) (lv' := [(4, .int (nI (4 * (j + 1)))), (6, .int ((nI (bRun a sa pk (upd gh (fl (xs (4 * j + 1)).toNatClampNeg) 1) (bnd (upd gl (xs (4 * j + 1)).toNatClampNeg (nI (fl (xs (4 * j + 1)).toNatClampNeg)))) 240 cg x gv).1 - nI cg))), (5, .int 0), (0, .ref b), (1, .ref xo), (2, .ref mo), (3, .ref out)]) hx hb dL_law_794 hl9 (k := 2) rfl (nI_add (4 * j) 4) (by decide) rfl (fun ls hl9 => ?_)
                  refine lv_goto (tgt := 23) hx hb dL_law_797 (by decide) ?_
                  exact W.widen (by omega) (by omega) (ih _ _ H locs ls ⟨_, _, _, _, _, _, _, _, _, _, _, _, _, _, _, _, hC857, ⟨_, (MW.mono hM854 (by omega))⟩, ⟨_, ho858⟩, rfl⟩ hw hS (lv_sub hl9 [0, 3, 4, 5, 6] rfl))
                · exact absurd hz846 hy853
            · subst ev9
              have hM859 := MW.kp hM hk850 hdos
              refine W.eq (g2 := F0 m 695 ls [.int (spc (sL (xs (4 * j + 1))) (fl (xs (4 * j + 1)).toNatClampNeg < a))]) rfl ?_
              refine lv_istore (lv' := [(5, .int (spc (sL (xs (4 * j + 1))) (fl (xs (4 * j + 1)).toNatClampNeg < a))), (4, .int (nI (4 * j))), (0, .ref b), (1, .ref xo), (2, .ref mo), (3, .ref out)]) hx hb dL_law_695 hl9 (by decide) rfl (fun ls hl9 => ?_)
              refine lv_aload_n hx hb dL_law_697 rfl (lv_at hl9 4 rfl) ?_
              refine lv_aload_n hx hb dL_law_698 rfl (lv_at hl9 2 rfl) ?_
              refine lv_iload hx hb dL_law_699 (lv_at hl9 1 rfl) ?_
              refine lv_iconst (v := 1) hx hb dL_law_701 (by decide) ?_
              refine lv_iadd hx hb dL_law_702 ?_
              refine hp_c (v := (nI (4 * j + 1))) (nI_add (4 * j) 1) ?_
              refine va_sld hx hb hX hbl hbA hS (vp_in_nI (show 4 * j + 1 < L by omega) (by omega)) dL_law_703 ?_
              refine hp_c (v := xs (4 * j + 1)) (congrArg xs (nI_clamp (by omega))) ?_
              refine hp_V (ci := 5) (As := [.int (xs (4 * j + 1))]) (rest := []) B0 hw hS (c_W5_come hl G f845 mo dW dA dQ dM dS dL dR dT dZ dI dH dN dK dJ dU dO dF dP dE dX dY dG th (100 * j) gw0 ga0 gw1 ga1 mg0 mg1 n a cg x sa pk fl gv gh gl hM859 (by omega) (xs (4 * j + 1))) mV_X5_come qM_L_139 rfl hM859.1 rfl rfl hl9.1 (Nat.le_of_ble_eq_true rfl) ⟨⟨Nat.le_of_ble_eq_true rfl, Nat.le_of_ble_eq_true rfl⟩, (by first | omega | (dsimp only; omega) | (show (_ : Nat) ≤ _; simp only [room_1]; omega)), (by first | omega | (dsimp only; omega) | (show (_ : Nat) ≤ _; simp only [room_1]; omega))⟩ dL_law_704 (fun E ce q9 f860 H locs hPX hw hS hce hcv hcl => ?_) (fun v f860 H locs hP hw hS => ?_)
              · exact hPX.elim
              · obtain ⟨hP, he863⟩ := hP
                rcases hP with ⟨hy861, ev9, hM862⟩ | ⟨hy861, ⟨r864, ev9⟩, hM862⟩
                · exact absurd hy861 hz846
                · subst ev9
                  have hC865 := CW.eq hC847 he863 hdis (MW.fr hM859 hM862)
                  have ho866 := (he863 _ hno2).trans ho849
                  refine W.eq (g2 := F0 m 707 ls [.int r864]) rfl ?_
                  refine lv_istore (lv' := [(6, .int r864), (5, .int (spc (sL (xs (4 * j + 1))) (fl (xs (4 * j + 1)).toNatClampNeg < a))), (4, .int (nI (4 * j))), (0, .ref b), (1, .ref xo), (2, .ref mo), (3, .ref out)]) hx hb dL_law_707 hl9 (by decide) rfl (fun ls hl9 => ?_)
                  refine lv_goto (tgt := 794) hx hb dL_law_709 (by decide) ?_
                  refine lv_iinc (v := (nI (4 * (j + 1)))) (lv' := [(4, .int (nI (4 * (j + 1)))), (6, .int r864), (5, .int (spc (sL (xs (4 * j + 1))) (fl (xs (4 * j + 1)).toNatClampNeg < a))), (0, .ref b), (1, .ref xo), (2, .ref mo), (3, .ref out)]) hx hb dL_law_794 hl9 (k := 2) rfl (nI_add (4 * j) 4) (by decide) rfl (fun ls hl9 => ?_)
                  refine lv_goto (tgt := 23) hx hb dL_law_797 (by decide) ?_
                  exact W.widen (by omega) (by omega) (ih _ _ H locs ls ⟨_, _, _, _, _, _, _, _, _, _, _, _, _, _, _, _, hC865, ⟨_, (MW.mono hM862 (by omega))⟩, ⟨_, ho866⟩, rfl⟩ hw hS (lv_sub hl9 [0, 3, 4, 5, 6] rfl))
        · refine lv_tableIn (off := 673) (tgt := 712) hx hb dL_law_39 (by decide) (by decide) (by decide) (by decide) ?_
          refine lv_aload_n hx hb dL_law_712 rfl (lv_at hl9 2 rfl) ?_
          refine lv_aload_n hx hb dL_law_713 rfl (lv_at hl9 1 rfl) ?_
          refine lv_iload hx hb dL_law_714 (lv_at hl9 0 rfl) ?_
          refine lv_iconst (v := 1) hx hb dL_law_716 (by decide) ?_
          refine lv_iadd hx hb dL_law_717 ?_
          refine hp_c (v := (nI (4 * j + 1))) (nI_add (4 * j) 1) ?_
          refine va_sld hx hb hX hbl hbA hS (vp_in_nI (show 4 * j + 1 < L by omega) (by omega)) dL_law_718 ?_
          refine hp_c (v := xs (4 * j + 1)) (congrArg xs (nI_clamp (by omega))) ?_
          refine lv_aload_n hx hb dL_law_719 rfl (lv_at hl9 4 rfl) ?_
          refine hp_SH (As := [.ref xo, .int (xs (4 * j + 1)), .ref out]) (rest := []) B0 hw hS (c_L_drop hl G f9 xo ez eo bu nw0 na0 nq0 nr0 nw1 na1 nq1 nr1 bs bp bh bf bl bg gw0 ga0 gw1 ga1 mg0 mg1 n a cg x sa pk fl gv gh gl hC out go ho hno (xs (4 * j + 1))) mH_L_drop qM_L_140 rfl rfl hl9.1 (Nat.le_of_ble_eq_true rfl) ⟨⟨Nat.le_of_ble_eq_true rfl, Nat.le_of_ble_eq_true rfl⟩, (by first | omega | (dsimp only; omega) | (show (_ : Nat) ≤ _; simp only [room_1]; omega)), (by first | omega | (dsimp only; omega) | (show (_ : Nat) ≤ _; simp only [room_1]; omega))⟩ dL_law_720 (fun E ce q9 f867 H locs hPX hw hS hce hcv hcl => ?_) (fun v f867 H locs hP hw hS => ?_)
          · exact hPX.elim
          · obtain ⟨hP, hk872⟩ := hP
            rcases hP with ⟨hz868, ev9, hC869, ho871⟩ | ⟨hz868, ev9, hC869, g870, ho871⟩
            · subst ev9
              have hM873 := MW.kp hM hk872 hdos
              refine W.eq (g2 := F0 m 723 ls [.int 0]) rfl ?_
              refine lv_istore (lv' := [(5, .int 0), (4, .int (nI (4 * j))), (0, .ref b), (1, .ref xo), (2, .ref mo), (3, .ref out)]) hx hb dL_law_723 hl9 (by decide) rfl (fun ls hl9 => ?_)
              refine lv_aload_n hx hb dL_law_725 rfl (lv_at hl9 4 rfl) ?_
              refine lv_aload_n hx hb dL_law_726 rfl (lv_at hl9 2 rfl) ?_
              refine lv_iload hx hb dL_law_727 (lv_at hl9 1 rfl) ?_
              refine lv_iconst (v := 1) hx hb dL_law_729 (by decide) ?_
              refine lv_iadd hx hb dL_law_730 ?_
              refine hp_c (v := (nI (4 * j + 1))) (nI_add (4 * j) 1) ?_
              refine va_sld hx hb hX hbl hbA hS (vp_in_nI (show 4 * j + 1 < L by omega) (by omega)) dL_law_731 ?_
              refine hp_c (v := xs (4 * j + 1)) (congrArg xs (nI_clamp (by omega))) ?_
              refine hp_V (ci := 5) (As := [.int (xs (4 * j + 1))]) (rest := []) B0 hw hS (c_W5_drop hl G f867 mo dW dA dQ dM dS dL dR dT dZ dI dH dN dK dJ dU dO dF dP dE dX dY dG th (100 * j) gw0 ga0 gw1 ga1 mg0 mg1 n a cg x sa pk fl gv gh gl hM873 (by omega) (xs (4 * j + 1))) mV_X5_drop qM_L_142 rfl hM873.1 rfl rfl hl9.1 (Nat.le_of_ble_eq_true rfl) ⟨⟨Nat.le_of_ble_eq_true rfl, Nat.le_of_ble_eq_true rfl⟩, (by first | omega | (dsimp only; omega) | (show (_ : Nat) ≤ _; simp only [room_1]; omega)), (by first | omega | (dsimp only; omega) | (show (_ : Nat) ≤ _; simp only [room_1]; omega))⟩ dL_law_732 (fun E ce q9 f874 H locs hPX hw hS hce hcv hcl => ?_) (fun v f874 H locs hP hw hS => ?_)
              · exact hPX.elim
              · obtain ⟨hP, he877⟩ := hP
                rcases hP with ⟨hy875, ev9, hM876⟩ | ⟨hy875, ⟨r878, ev9⟩, hM876⟩
                · subst ev9
                  have hC879 := CW.eq hC869 he877 hdis (MW.fr hM873 hM876)
                  have ho880 := (he877 _ hno2).trans ho871
                  refine W.eq (g2 := F0 m 735 ls [.int ((nI (fl (xs (4 * j + 1)).toNatClampNeg)))]) rfl ?_
                  refine lv_istore (lv' := [(6, .int ((nI (fl (xs (4 * j + 1)).toNatClampNeg)))), (5, .int 0), (4, .int (nI (4 * j))), (0, .ref b), (1, .ref xo), (2, .ref mo), (3, .ref out)]) hx hb dL_law_735 hl9 (by decide) rfl (fun ls hl9 => ?_)
                  refine lv_goto (tgt := 794) hx hb dL_law_737 (by decide) ?_
                  refine lv_iinc (v := (nI (4 * (j + 1)))) (lv' := [(4, .int (nI (4 * (j + 1)))), (6, .int ((nI (fl (xs (4 * j + 1)).toNatClampNeg)))), (5, .int 0), (0, .ref b), (1, .ref xo), (2, .ref mo), (3, .ref out)]) hx hb dL_law_794 hl9 (k := 2) rfl (nI_add (4 * j) 4) (by decide) rfl (fun ls hl9 => ?_)
                  refine lv_goto (tgt := 23) hx hb dL_law_797 (by decide) ?_
                  exact W.widen (by omega) (by omega) (ih _ _ H locs ls ⟨_, _, _, _, _, _, _, _, _, _, _, _, _, _, _, _, hC879, ⟨_, (MW.mono hM876 (by omega))⟩, ⟨_, ho880⟩, rfl⟩ hw hS (lv_sub hl9 [0, 3, 4, 5, 6] rfl))
                · exact absurd hz868 hy875
            · subst ev9
              have hM881 := MW.kp hM hk872 hdos
              refine W.eq (g2 := F0 m 723 ls [.int (spc (sL (xs (4 * j + 1))) (fl (xs (4 * j + 1)).toNatClampNeg < a))]) rfl ?_
              refine lv_istore (lv' := [(5, .int (spc (sL (xs (4 * j + 1))) (fl (xs (4 * j + 1)).toNatClampNeg < a))), (4, .int (nI (4 * j))), (0, .ref b), (1, .ref xo), (2, .ref mo), (3, .ref out)]) hx hb dL_law_723 hl9 (by decide) rfl (fun ls hl9 => ?_)
              refine lv_aload_n hx hb dL_law_725 rfl (lv_at hl9 4 rfl) ?_
              refine lv_aload_n hx hb dL_law_726 rfl (lv_at hl9 2 rfl) ?_
              refine lv_iload hx hb dL_law_727 (lv_at hl9 1 rfl) ?_
              refine lv_iconst (v := 1) hx hb dL_law_729 (by decide) ?_
              refine lv_iadd hx hb dL_law_730 ?_
              refine hp_c (v := (nI (4 * j + 1))) (nI_add (4 * j) 1) ?_
              refine va_sld hx hb hX hbl hbA hS (vp_in_nI (show 4 * j + 1 < L by omega) (by omega)) dL_law_731 ?_
              refine hp_c (v := xs (4 * j + 1)) (congrArg xs (nI_clamp (by omega))) ?_
              refine hp_V (ci := 5) (As := [.int (xs (4 * j + 1))]) (rest := []) B0 hw hS (c_W5_drop hl G f867 mo dW dA dQ dM dS dL dR dT dZ dI dH dN dK dJ dU dO dF dP dE dX dY dG th (100 * j) gw0 ga0 gw1 ga1 mg0 mg1 n a cg x sa pk fl gv gh gl hM881 (by omega) (xs (4 * j + 1))) mV_X5_drop qM_L_142 rfl hM881.1 rfl rfl hl9.1 (Nat.le_of_ble_eq_true rfl) ⟨⟨Nat.le_of_ble_eq_true rfl, Nat.le_of_ble_eq_true rfl⟩, (by first | omega | (dsimp only; omega) | (show (_ : Nat) ≤ _; simp only [room_1]; omega)), (by first | omega | (dsimp only; omega) | (show (_ : Nat) ≤ _; simp only [room_1]; omega))⟩ dL_law_732 (fun E ce q9 f882 H locs hPX hw hS hce hcv hcl => ?_) (fun v f882 H locs hP hw hS => ?_)
              · exact hPX.elim
              · obtain ⟨hP, he885⟩ := hP
                rcases hP with ⟨hy883, ev9, hM884⟩ | ⟨hy883, ⟨r886, ev9⟩, hM884⟩
                · exact absurd hy883 hz868
                · subst ev9
                  have hC887 := CW.eq hC869 he885 hdis (MW.fr hM881 hM884)
                  have ho888 := (he885 _ hno2).trans ho871
                  refine W.eq (g2 := F0 m 735 ls [.int r886]) rfl ?_
                  refine lv_istore (lv' := [(6, .int r886), (5, .int (spc (sL (xs (4 * j + 1))) (fl (xs (4 * j + 1)).toNatClampNeg < a))), (4, .int (nI (4 * j))), (0, .ref b), (1, .ref xo), (2, .ref mo), (3, .ref out)]) hx hb dL_law_735 hl9 (by decide) rfl (fun ls hl9 => ?_)
                  refine lv_goto (tgt := 794) hx hb dL_law_737 (by decide) ?_
                  refine lv_iinc (v := (nI (4 * (j + 1)))) (lv' := [(4, .int (nI (4 * (j + 1)))), (6, .int r886), (5, .int (spc (sL (xs (4 * j + 1))) (fl (xs (4 * j + 1)).toNatClampNeg < a))), (0, .ref b), (1, .ref xo), (2, .ref mo), (3, .ref out)]) hx hb dL_law_794 hl9 (k := 2) rfl (nI_add (4 * j) 4) (by decide) rfl (fun ls hl9 => ?_)
                  refine lv_goto (tgt := 23) hx hb dL_law_797 (by decide) ?_
                  exact W.widen (by omega) (by omega) (ih _ _ H locs ls ⟨_, _, _, _, _, _, _, _, _, _, _, _, _, _, _, _, hC887, ⟨_, (MW.mono hM884 (by omega))⟩, ⟨_, ho888⟩, rfl⟩ hw hS (lv_sub hl9 [0, 3, 4, 5, 6] rfl))
        · refine lv_tableIn (off := 701) (tgt := 740) hx hb dL_law_39 (by decide) (by decide) (by decide) (by decide) ?_
          refine lv_aload_n hx hb dL_law_740 rfl (lv_at hl9 2 rfl) ?_
          refine hp_V (ci := 4) (As := []) (rest := []) B0 hw hS (c_W4_given hl G f9 xo ez eo bu nw0 na0 nq0 nr0 nw1 na1 nq1 nr1 bs bp bh bf bl bg gw0 ga0 gw1 ga1 mg0 mg1 n a cg x sa pk fl gv gh gl hC) mV_X4_given qM_L_143 rfl hC.1 rfl rfl hl9.1 (Nat.le_of_ble_eq_true rfl) ⟨⟨Nat.le_of_ble_eq_true rfl, Nat.le_of_ble_eq_true rfl⟩, (by first | omega | (dsimp only; omega) | (show (_ : Nat) ≤ _; simp only [room_1]; omega)), (by first | omega | (dsimp only; omega) | (show (_ : Nat) ≤ _; simp only [room_1]; omega))⟩ dL_law_741 (fun E ce q9 f889 H locs hPX hw hS hce hcv hcl => ?_) (fun v f889 H locs hP hw hS => ?_)
          · exact hPX.elim
          · obtain ⟨ev9, ef9⟩ := hP
            rw [ef9] at hw
            subst ev9
            refine W.eq (g2 := F0 m 744 ls [.int (nI cg)]) rfl ?_
            refine lv_pop hx hb dL_law_744 rfl ?_
            refine lv_aload_n hx hb dL_law_745 rfl (lv_at hl9 3 rfl) ?_
            refine hp_V (ci := 5) (As := []) (rest := []) B0 hw hS (c_W5_given hl G f9 mo dW dA dQ dM dS dL dR dT dZ dI dH dN dK dJ dU dO dF dP dE dX dY dG th (100 * j) gw0 ga0 gw1 ga1 mg0 mg1 n a cg x sa pk fl gv gh gl hM (by omega)) mV_X5_given qM_L_146 rfl hM.1 rfl rfl hl9.1 (Nat.le_of_ble_eq_true rfl) ⟨⟨Nat.le_of_ble_eq_true rfl, Nat.le_of_ble_eq_true rfl⟩, (by first | omega | (dsimp only; omega) | (show (_ : Nat) ≤ _; simp only [room_1]; omega)), (by first | omega | (dsimp only; omega) | (show (_ : Nat) ≤ _; simp only [room_1]; omega))⟩ dL_law_746 (fun E ce q9 f890 H locs hPX hw hS hce hcv hcl => ?_) (fun v f890 H locs hP hw hS => ?_)
            · exact hPX.elim
            · obtain ⟨ev9, hM891, he892⟩ := hP
              subst ev9
              have hC893 := CW.eq hC he892 hdis (MW.fr hM hM891)
              have ho894 := (he892 _ hno2).trans ho
              refine W.eq (g2 := F0 m 749 ls [.int (nI cg)]) rfl ?_
              refine lv_pop hx hb dL_law_749 rfl ?_
              refine lv_goto (tgt := 794) hx hb dL_law_750 (by decide) ?_
              refine lv_iinc (v := (nI (4 * (j + 1)))) (lv' := [(4, .int (nI (4 * (j + 1)))), (0, .ref b), (1, .ref xo), (2, .ref mo), (3, .ref out)]) hx hb dL_law_794 hl9 (k := 0) rfl (nI_add (4 * j) 4) (by decide) rfl (fun ls hl9 => ?_)
              refine lv_goto (tgt := 23) hx hb dL_law_797 (by decide) ?_
              exact W.widen (by omega) (by omega) (ih _ _ H locs ls ⟨_, _, _, _, _, _, _, _, _, _, _, _, _, _, _, _, hC893, ⟨_, (MW.mono hM891 (by omega))⟩, ⟨_, ho894⟩, rfl⟩ hw hS (lv_sub hl9 [0, 1, 2, 3, 4] rfl))
        · refine lv_tableIn (off := 714) (tgt := 753) hx hb dL_law_39 (by decide) (by decide) (by decide) (by decide) ?_
          refine lv_aload_n hx hb dL_law_753 rfl (lv_at hl9 2 rfl) ?_
          refine lv_aload_n hx hb dL_law_754 rfl (lv_at hl9 1 rfl) ?_
          refine lv_iload hx hb dL_law_755 (lv_at hl9 0 rfl) ?_
          refine lv_iconst (v := 1) hx hb dL_law_757 (by decide) ?_
          refine lv_iadd hx hb dL_law_758 ?_
          refine hp_c (v := (nI (4 * j + 1))) (nI_add (4 * j) 1) ?_
          refine va_sld hx hb hX hbl hbA hS (vp_in_nI (show 4 * j + 1 < L by omega) (by omega)) dL_law_759 ?_
          refine hp_c (v := xs (4 * j + 1)) (congrArg xs (nI_clamp (by omega))) ?_
          refine lv_aload_n hx hb dL_law_760 rfl (lv_at hl9 4 rfl) ?_
          refine hp_SH (As := [.ref xo, .int (xs (4 * j + 1)), .ref out]) (rest := []) B0 hw hS (c_L_givenAt hl G f9 xo ez eo bu nw0 na0 nq0 nr0 nw1 na1 nq1 nr1 bs bp bh bf bl bg gw0 ga0 gw1 ga1 mg0 mg1 n a cg x sa pk fl gv gh gl hC out go ho hno (xs (4 * j + 1))) mH_L_givenAt qM_L_147 rfl rfl hl9.1 (Nat.le_of_ble_eq_true rfl) ⟨⟨Nat.le_of_ble_eq_true rfl, Nat.le_of_ble_eq_true rfl⟩, (by first | omega | (dsimp only; omega) | (show (_ : Nat) ≤ _; simp only [room_1]; omega)), (by first | omega | (dsimp only; omega) | (show (_ : Nat) ≤ _; simp only [room_1]; omega))⟩ dL_law_761 (fun E ce q9 f895 H locs hPX hw hS hce hcv hcl => ?_) (fun v f895 H locs hP hw hS => ?_)
          · exact hPX.elim
          · obtain ⟨hP, hk900⟩ := hP
            rcases hP with ⟨hz896, ev9, hC897, ho899⟩ | ⟨hz896, ev9, hC897, g898, ho899⟩
            · subst ev9
              have hM901 := MW.kp hM hk900 hdos
              refine W.eq (g2 := F0 m 764 ls [.int 0]) rfl ?_
              refine lv_istore (lv' := [(5, .int 0), (4, .int (nI (4 * j))), (0, .ref b), (1, .ref xo), (2, .ref mo), (3, .ref out)]) hx hb dL_law_764 hl9 (by decide) rfl (fun ls hl9 => ?_)
              refine lv_aload_n hx hb dL_law_766 rfl (lv_at hl9 4 rfl) ?_
              refine lv_aload_n hx hb dL_law_767 rfl (lv_at hl9 2 rfl) ?_
              refine lv_iload hx hb dL_law_768 (lv_at hl9 1 rfl) ?_
              refine lv_iconst (v := 1) hx hb dL_law_770 (by decide) ?_
              refine lv_iadd hx hb dL_law_771 ?_
              refine hp_c (v := (nI (4 * j + 1))) (nI_add (4 * j) 1) ?_
              refine va_sld hx hb hX hbl hbA hS (vp_in_nI (show 4 * j + 1 < L by omega) (by omega)) dL_law_772 ?_
              refine hp_c (v := xs (4 * j + 1)) (congrArg xs (nI_clamp (by omega))) ?_
              refine hp_V (ci := 5) (As := [.int (xs (4 * j + 1))]) (rest := []) B0 hw hS (c_W5_givenAt hl G f895 mo dW dA dQ dM dS dL dR dT dZ dI dH dN dK dJ dU dO dF dP dE dX dY dG th (100 * j) gw0 ga0 gw1 ga1 mg0 mg1 n a cg x sa pk fl gv gh gl hM901 (by omega) (xs (4 * j + 1))) mV_X5_givenAt qM_L_149 rfl hM901.1 rfl rfl hl9.1 (Nat.le_of_ble_eq_true rfl) ⟨⟨Nat.le_of_ble_eq_true rfl, Nat.le_of_ble_eq_true rfl⟩, (by first | omega | (dsimp only; omega) | (show (_ : Nat) ≤ _; simp only [room_1]; omega)), (by first | omega | (dsimp only; omega) | (show (_ : Nat) ≤ _; simp only [room_1]; omega))⟩ dL_law_773 (fun E ce q9 f902 H locs hPX hw hS hce hcv hcl => ?_) (fun v f902 H locs hP hw hS => ?_)
              · exact hPX.elim
              · obtain ⟨hP, he905⟩ := hP
                rcases hP with ⟨hy903, ev9, hM904⟩ | ⟨hy903, ⟨r906, ev9⟩, hM904⟩
                · subst ev9
                  have hC907 := CW.eq hC897 he905 hdis (MW.fr hM901 hM904)
                  have ho908 := (he905 _ hno2).trans ho899
                  refine W.eq (g2 := F0 m 776 ls [.int ((nI (gv (xs (4 * j + 1)).toNatClampNeg)))]) rfl ?_
                  refine lv_istore (lv' := [(6, .int ((nI (gv (xs (4 * j + 1)).toNatClampNeg)))), (5, .int 0), (4, .int (nI (4 * j))), (0, .ref b), (1, .ref xo), (2, .ref mo), (3, .ref out)]) hx hb dL_law_776 hl9 (by decide) rfl (fun ls hl9 => ?_)
                  refine lv_goto (tgt := 794) hx hb dL_law_778 (by decide) ?_
                  refine lv_iinc (v := (nI (4 * (j + 1)))) (lv' := [(4, .int (nI (4 * (j + 1)))), (6, .int ((nI (gv (xs (4 * j + 1)).toNatClampNeg)))), (5, .int 0), (0, .ref b), (1, .ref xo), (2, .ref mo), (3, .ref out)]) hx hb dL_law_794 hl9 (k := 2) rfl (nI_add (4 * j) 4) (by decide) rfl (fun ls hl9 => ?_)
                  refine lv_goto (tgt := 23) hx hb dL_law_797 (by decide) ?_
                  exact W.widen (by omega) (by omega) (ih _ _ H locs ls ⟨_, _, _, _, _, _, _, _, _, _, _, _, _, _, _, _, hC907, ⟨_, (MW.mono hM904 (by omega))⟩, ⟨_, ho908⟩, rfl⟩ hw hS (lv_sub hl9 [0, 3, 4, 5, 6] rfl))
                · exact absurd hz896 hy903
            · subst ev9
              have hM909 := MW.kp hM hk900 hdos
              refine W.eq (g2 := F0 m 764 ls [.int (spc (0 ≤ (xs (4 * j + 1)).toInt ∧ (xs (4 * j + 1)).toInt < (cg : Int)) True)]) rfl ?_
              refine lv_istore (lv' := [(5, .int (spc (0 ≤ (xs (4 * j + 1)).toInt ∧ (xs (4 * j + 1)).toInt < (cg : Int)) True)), (4, .int (nI (4 * j))), (0, .ref b), (1, .ref xo), (2, .ref mo), (3, .ref out)]) hx hb dL_law_764 hl9 (by decide) rfl (fun ls hl9 => ?_)
              refine lv_aload_n hx hb dL_law_766 rfl (lv_at hl9 4 rfl) ?_
              refine lv_aload_n hx hb dL_law_767 rfl (lv_at hl9 2 rfl) ?_
              refine lv_iload hx hb dL_law_768 (lv_at hl9 1 rfl) ?_
              refine lv_iconst (v := 1) hx hb dL_law_770 (by decide) ?_
              refine lv_iadd hx hb dL_law_771 ?_
              refine hp_c (v := (nI (4 * j + 1))) (nI_add (4 * j) 1) ?_
              refine va_sld hx hb hX hbl hbA hS (vp_in_nI (show 4 * j + 1 < L by omega) (by omega)) dL_law_772 ?_
              refine hp_c (v := xs (4 * j + 1)) (congrArg xs (nI_clamp (by omega))) ?_
              refine hp_V (ci := 5) (As := [.int (xs (4 * j + 1))]) (rest := []) B0 hw hS (c_W5_givenAt hl G f895 mo dW dA dQ dM dS dL dR dT dZ dI dH dN dK dJ dU dO dF dP dE dX dY dG th (100 * j) gw0 ga0 gw1 ga1 mg0 mg1 n a cg x sa pk fl gv gh gl hM909 (by omega) (xs (4 * j + 1))) mV_X5_givenAt qM_L_149 rfl hM909.1 rfl rfl hl9.1 (Nat.le_of_ble_eq_true rfl) ⟨⟨Nat.le_of_ble_eq_true rfl, Nat.le_of_ble_eq_true rfl⟩, (by first | omega | (dsimp only; omega) | (show (_ : Nat) ≤ _; simp only [room_1]; omega)), (by first | omega | (dsimp only; omega) | (show (_ : Nat) ≤ _; simp only [room_1]; omega))⟩ dL_law_773 (fun E ce q9 f910 H locs hPX hw hS hce hcv hcl => ?_) (fun v f910 H locs hP hw hS => ?_)
              · exact hPX.elim
              · obtain ⟨hP, he913⟩ := hP
                rcases hP with ⟨hy911, ev9, hM912⟩ | ⟨hy911, ⟨r914, ev9⟩, hM912⟩
                · exact absurd hy911 hz896
                · subst ev9
                  have hC915 := CW.eq hC897 he913 hdis (MW.fr hM909 hM912)
                  have ho916 := (he913 _ hno2).trans ho899
                  refine W.eq (g2 := F0 m 776 ls [.int r914]) rfl ?_
                  refine lv_istore (lv' := [(6, .int r914), (5, .int (spc (0 ≤ (xs (4 * j + 1)).toInt ∧ (xs (4 * j + 1)).toInt < (cg : Int)) True)), (4, .int (nI (4 * j))), (0, .ref b), (1, .ref xo), (2, .ref mo), (3, .ref out)]) hx hb dL_law_776 hl9 (by decide) rfl (fun ls hl9 => ?_)
                  refine lv_goto (tgt := 794) hx hb dL_law_778 (by decide) ?_
                  refine lv_iinc (v := (nI (4 * (j + 1)))) (lv' := [(4, .int (nI (4 * (j + 1)))), (6, .int r914), (5, .int (spc (0 ≤ (xs (4 * j + 1)).toInt ∧ (xs (4 * j + 1)).toInt < (cg : Int)) True)), (0, .ref b), (1, .ref xo), (2, .ref mo), (3, .ref out)]) hx hb dL_law_794 hl9 (k := 2) rfl (nI_add (4 * j) 4) (by decide) rfl (fun ls hl9 => ?_)
                  refine lv_goto (tgt := 23) hx hb dL_law_797 (by decide) ?_
                  exact W.widen (by omega) (by omega) (ih _ _ H locs ls ⟨_, _, _, _, _, _, _, _, _, _, _, _, _, _, _, _, hC915, ⟨_, (MW.mono hM912 (by omega))⟩, ⟨_, ho916⟩, rfl⟩ hw hS (lv_sub hl9 [0, 3, 4, 5, 6] rfl))
        · refine lv_tableIn (off := 742) (tgt := 781) hx hb dL_law_39 (by decide) (by decide) (by decide) (by decide) ?_
          refine lv_aload_n hx hb dL_law_781 rfl (lv_at hl9 2 rfl) ?_
          refine hp_V (ci := 4) (As := []) (rest := []) B0 hw hS (c_W4_next hl G f9 xo ez eo bu nw0 na0 nq0 nr0 nw1 na1 nq1 nr1 bs bp bh bf bl bg gw0 ga0 gw1 ga1 mg0 mg1 n a cg x sa pk fl gv gh gl hC) mV_X4_next qM_L_150 rfl hC.1 rfl rfl hl9.1 (Nat.le_of_ble_eq_true rfl) ⟨⟨Nat.le_of_ble_eq_true rfl, Nat.le_of_ble_eq_true rfl⟩, (by first | omega | (dsimp only; omega) | (show (_ : Nat) ≤ _; simp only [room_1]; omega)), (by first | omega | (dsimp only; omega) | (show (_ : Nat) ≤ _; simp only [room_1]; omega))⟩ dL_law_782 (fun E ce q9 f917 H locs hPX hw hS hce hcv hcl => ?_) (fun v f917 H locs hP hw hS => ?_)
          · exact hPX.elim
          · obtain ⟨ev9, ef9⟩ := hP
            rw [ef9] at hw
            subst ev9
            refine W.eq (g2 := F0 m 785 ls [.int (nI x)]) rfl ?_
            refine lv_pop hx hb dL_law_785 rfl ?_
            refine lv_aload_n hx hb dL_law_786 rfl (lv_at hl9 3 rfl) ?_
            refine hp_V (ci := 5) (As := []) (rest := []) B0 hw hS (c_W5_next hl G f9 mo dW dA dQ dM dS dL dR dT dZ dI dH dN dK dJ dU dO dF dP dE dX dY dG th (100 * j) gw0 ga0 gw1 ga1 mg0 mg1 n a cg x sa pk fl gv gh gl hM (by omega)) mV_X5_next qM_L_153 rfl hM.1 rfl rfl hl9.1 (Nat.le_of_ble_eq_true rfl) ⟨⟨Nat.le_of_ble_eq_true rfl, Nat.le_of_ble_eq_true rfl⟩, (by first | omega | (dsimp only; omega) | (show (_ : Nat) ≤ _; simp only [room_1]; omega)), (by first | omega | (dsimp only; omega) | (show (_ : Nat) ≤ _; simp only [room_1]; omega))⟩ dL_law_787 (fun E ce q9 f918 H locs hPX hw hS hce hcv hcl => ?_) (fun v f918 H locs hP hw hS => ?_)
            · exact hPX.elim
            · obtain ⟨ev9, hM919, he920⟩ := hP
              subst ev9
              have hC921 := CW.eq hC he920 hdis (MW.fr hM hM919)
              have ho922 := (he920 _ hno2).trans ho
              refine W.eq (g2 := F0 m 790 ls [.int (nI x)]) rfl ?_
              refine lv_pop hx hb dL_law_790 rfl ?_
              refine lv_goto (tgt := 794) hx hb dL_law_791 (by decide) ?_
              refine lv_iinc (v := (nI (4 * (j + 1)))) (lv' := [(4, .int (nI (4 * (j + 1)))), (0, .ref b), (1, .ref xo), (2, .ref mo), (3, .ref out)]) hx hb dL_law_794 hl9 (k := 0) rfl (nI_add (4 * j) 4) (by decide) rfl (fun ls hl9 => ?_)
              refine lv_goto (tgt := 23) hx hb dL_law_797 (by decide) ?_
              exact W.widen (by omega) (by omega) (ih _ _ H locs ls ⟨_, _, _, _, _, _, _, _, _, _, _, _, _, _, _, _, hC921, ⟨_, (MW.mono hM919 (by omega))⟩, ⟨_, ho922⟩, rfl⟩ hw hS (lv_sub hl9 [0, 1, 2, 3, 4] rfl))
        · refine lv_tableOut (tgt := 794) hx hb dL_law_39 (Or.inr (by rw [nI_toInt (by omega)]; omega)) (by decide) ?_
          refine lv_iinc (v := (nI (4 * (j + 1)))) (lv' := [(4, .int (nI (4 * (j + 1)))), (0, .ref b), (1, .ref xo), (2, .ref mo), (3, .ref out)]) hx hb dL_law_794 hl9 (k := 0) rfl (nI_add (4 * j) 4) (by decide) rfl (fun ls hl9 => ?_)
          refine lv_goto (tgt := 23) hx hb dL_law_797 (by decide) ?_
          exact W.widen (by omega) (by omega) (ih _ _ H locs ls ⟨_, _, _, _, _, _, _, _, _, _, _, _, _, _, _, _, hC, ⟨_, (MW.mono hM (by omega))⟩, ⟨_, ho⟩, rfl⟩ hw hS (lv_sub hl9 [0, 1, 2, 3, 4] rfl))
      · obtain ⟨gw0, ga0, gw1, ga1, mg0, mg1, n, a, cg, x, sa, pk, fl, gv, gh, gl, hC, ⟨th, hM⟩, ⟨go, ho⟩, el9⟩ := hI
        rw [el9] at hl9
        refine lv_iload hx hb dL_law_23 (lv_at hl9 0 rfl) ?_
        refine lv_aload_n hx hb dL_law_25 rfl (lv_at hl9 1 rfl) ?_
        refine va_slen hx hb hX hbl hbA hS dL_law_26 ?_
        refine hp_c (v := nI L) rfl ?_
        refine lv_iconst (v := 4) hx hb dL_law_27 (by decide) ?_
        refine lv_isub hx hb dL_law_28 ?_
        refine lv_icmp_gt (tgt := 800) hx hb dL_law_29 (by decide) (fun _ => ?_) (fun c9 => absurd (by rw [jlt, nI_m4 (by omega), nI_toInt (by omega)]; omega) c9)
        refine lv_iconst (v := 1) hx hb dL_law_800 (by decide) ?_
        refine va_forget (fun q hq => hFs _ (hS.2.2 q hq)) ?_
        refine W.widen (k := 601024) (n := 7293034) (by omega) (by omega) ?_
        exact lw_ret hx hb hr hlocks dL_law_801

