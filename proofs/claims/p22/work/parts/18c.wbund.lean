theorem jn_at0 {x y : Nat → Int32} {k : Nat} (h : k < 6) : jn x y (nI k).toNatClampNeg = x k := by rw [nI_clamp (by omega)]; exact if_pos h
theorem jn_at1 {x y : Nat → Int32} {k : Nat} (h : k < 6) : jn x y (nI (6 + k)).toNatClampNeg = y k := by
  rw [nI_clamp (by omega)]
  unfold jn
  rw [if_neg (by omega), show 6 + k - 6 = k by omega]
theorem jn_up0 {x y : Nat → Int32} {k : Nat} (h : k < 6) (v : Int32) : upd (jn x y) (nI k).toNatClampNeg v = jn (upd x k v) y := by
  rw [nI_clamp (by omega)]
  funext j
  simp only [upd, jn]
  by_cases e : j = k
  · rw [if_pos e, if_pos (show j < 6 by omega), if_pos e]
  · rw [if_neg e]
    by_cases e2 : j < 6
    · rw [if_pos e2, if_pos e2, if_neg e]
    · rw [if_neg e2, if_neg e2]
theorem jn_up1 {x y : Nat → Int32} {k : Nat} (h : k < 6) (v : Int32) : upd (jn x y) (nI (6 + k)).toNatClampNeg v = jn x (upd y k v) := by
  rw [nI_clamp (by omega)]
  funext j
  simp only [upd, jn]
  by_cases e : j = 6 + k
  · rw [if_pos e, if_neg (show ¬ j < 6 by omega), if_pos (show j - 6 = k by omega)]
  · rw [if_neg e]
    by_cases e2 : j < 6
    · rw [if_pos e2, if_pos e2]
    · rw [if_neg e2, if_neg e2, if_neg (show ¬ j - 6 = k by omega)]
theorem mA2_up0 (a b v : Int32) : upd (mA2 a b) (0 : Int32).toNatClampNeg v = mA2 v b := by
  funext j
  rw [show (0 : Int32).toNatClampNeg = 0 from rfl]
  unfold upd mA2
  by_cases e : j = 0
  · rw [if_pos e, if_neg (by omega), if_pos e]
  · rw [if_neg e, if_neg e, if_neg e]
theorem mA2_up1 (a b v : Int32) : upd (mA2 a b) (1 : Int32).toNatClampNeg v = mA2 a v := by
  funext j
  rw [show (1 : Int32).toNatClampNeg = 1 from rfl]
  unfold upd mA2
  by_cases e : j = 1
  · rw [if_pos e, if_pos e]
  · rw [if_neg e, if_neg e, if_neg e]
theorem sA_up {g : Nat → Int32} {k : Nat} {v : Int32} (h : ∀ j, j < 12 → sA (g j)) (hv : sA v) : ∀ j, j < 12 → sA (upd g k v j) := fun j hj => by
  unfold upd
  split
  · exact hv
  · exact h j hj
set_option maxHeartbeats 4000000 in
set_option maxRecDepth 100000 in
theorem c_W5_wish {l : Launch} (hl : l.stackTraces = false) (G : hG) (f : hM) (mo dW dA dQ dM dS dL dR dT dZ dI dH dN dK dJ dU dO dF dP dE dX dY dG : Nat) (th : Int32) (B : Nat) (gw0 : Nat → Int32) (ga0 : Nat → Int32) (gw1 : Nat → Int32) (ga1 : Nat → Int32) (mg0 : Int32) (mg1 : Int32) (n : Nat) (a : Nat) (cg : Nat) (x : Nat) (sa : Nat → Nat) (pk : Nat → Nat) (fl : Nat → Nat) (gv : Nat → Nat) (gh : Nat → Int32) (gl : Nat → Int32) (hC : MW G f mo dW dA dQ dM dS dL dR dT dZ dI dH dN dK dJ dU dO dF dP dE dX dY dG th B gw0 ga0 gw1 ga1 mg0 mg1 n a cg x sa pk fl gv gh gl) (hBB : B + 100 < 100000) (i o xv : Int32) : CT l yX5_wish (.code yX5_wish cX5_wish 5 (some .int)) 2 42 0 0 G [.ref mo, .int i, .int o, .int xv] f (fun v f1 => ((spc (sE i ∧ sO o) (sV xv) = 0 ∧ v = some (.int (selE i gw0 gw1 o.toNatClampNeg)) ∧ MW G f1 mo dW dA dQ dM dS dL dR dT dZ dI dH dN dK dJ dU dO dF dP dE dX dY dG 0 B (updE (i = 0) gw0 o.toNatClampNeg xv) ga0 (updE (i = 1) gw1 o.toNatClampNeg xv) ga1 mg0 mg1 n a cg x sa pk fl gv gh gl) ∨ (¬ spc (sE i ∧ sO o) (sV xv) = 0 ∧ (∃ r9 : Int32, v = some (.int r9)) ∧ MW G f1 mo dW dA dQ dM dS dL dR dT dZ dI dH dN dK dJ dU dO dF dP dE dX dY dG (spc (sE i ∧ sO o) (sV xv)) B gw0 ga0 gw1 ga1 mg0 mg1 n a cg x sa pk fl gv gh gl)) ∧ hEq [mo, dW, dA, dQ, dM, dS, dL, dR, dT, dZ, dI, dH, dN, dK, dJ, dU, dO, dF, dP, dE, dX, dY, dG] f f1) (fun E f1 => False) := by
  refine hp_start hl (own := RX5) (by decide) rfl (Nat.le_of_ble_eq_true rfl) ?_
  intro p e s m args below meth c B0 hr hnm hout hw hS ls hl9
  have hx := B0.1
  have hb := B0.2.1
  have hl9 : lv_has ls 5 [(0, .ref mo), (1, .int i), (2, .int o), (3, .int xv)] := hl9
  obtain ⟨k_mo, hND, hLM, k_dW, k_dA, k_dM, k_dF, k_dP, k_dE, k_dX, k_dY, k_dG, hSA, hB9, hfl9⟩ := id hC
  obtain ⟨nd_dW_dA, nd_dW_dQ, nd_dA_dQ, nd_dM_dS, nd_dM_dL, nd_dM_dR, nd_dM_dT, nd_dM_dZ, nd_dM_dI, nd_dM_dH, nd_dM_dN, nd_dS_dL, nd_dS_dR, nd_dS_dT, nd_dS_dZ, nd_dS_dI, nd_dS_dH, nd_dS_dN, nd_dL_dR, nd_dL_dT, nd_dL_dZ, nd_dL_dI, nd_dL_dH, nd_dL_dN, nd_dR_dT, nd_dR_dZ, nd_dR_dI, nd_dR_dH, nd_dR_dN, nd_dT_dZ, nd_dT_dI, nd_dT_dH, nd_dT_dN, nd_dZ_dI, nd_dZ_dH, nd_dZ_dN, nd_dI_dH, nd_dI_dN, nd_dH_dN, nd_dK_dJ, nd_dK_dU, nd_dK_dO, nd_dJ_dU, nd_dJ_dO, nd_dU_dO, nd_dP_dE, nd_dX_dY⟩ := id hND
  obtain ⟨gQ, gS, gL, gR, gT, gZ, gI, gH, gN, gK, gJ, gU, gO, k_dQ, k_dS, k_dL, k_dR, k_dT, k_dZ, k_dI, k_dH, k_dN, k_dK, k_dJ, k_dU, k_dO, hHd9, hMn9⟩ := id hLM
  refine lv_aload_n hx hb dX5_wish_0 rfl (lv_at hl9 0 rfl) ?_
  refine lv_iload_n hx hb dX5_wish_1 rfl (lv_at hl9 1 rfl) ?_
  refine hp_S (As := [.int i]) (rest := [.ref mo]) B0 hw hS (c_X5_isEnd hl G f i) mS_X5_isEnd qM_X5_85 rfl rfl hl9.1 (Nat.le_of_ble_eq_true rfl) ⟨⟨Nat.le_of_ble_eq_true rfl, Nat.le_of_ble_eq_true rfl⟩, Nat.le_of_ble_eq_true rfl, Nat.le_of_ble_eq_true rfl⟩ dX5_wish_2 (fun E ce q9 f1 H locs hPX hw hS hce hcv hcl => ?_) (fun v f1 H locs hP hw hS => ?_)
  · exact hPX.elim
  · obtain ⟨ef9, hv9⟩ := hP
    rw [ef9] at hw
    rcases hv9 with ⟨b9 | b9, ev9⟩ | ⟨hnE, ev9⟩
    · subst ev9
      subst b9
      refine W.eq (g2 := F0 m 5 ls [.int 1, .ref mo]) rfl ?_
      refine lv_if_eq (tgt := 15) hx hb dX5_wish_5 (by decide) (fun c9 => absurd c9 (by decide)) (fun _ => ?_)
      refine lv_iload_n hx hb dX5_wish_8 rfl (lv_at hl9 2 rfl) ?_
      refine hp_S (As := [.int o]) (rest := [.ref mo]) B0 hw hS (c_X5_isOption hl G f o) mS_X5_isOption qM_X5_89 rfl rfl hl9.1 (Nat.le_of_ble_eq_true rfl) ⟨⟨Nat.le_of_ble_eq_true rfl, Nat.le_of_ble_eq_true rfl⟩, Nat.le_of_ble_eq_true rfl, Nat.le_of_ble_eq_true rfl⟩ dX5_wish_9 (fun E ce q9 f2 H locs hPX hw hS hce hcv hcl => ?_) (fun v f2 H locs hP hw hS => ?_)
      · exact hPX.elim
      · obtain ⟨ef9, hv9⟩ := hP
        rw [ef9] at hw
        rcases hv9 with ⟨b3, ev9⟩ | ⟨b3, ev9⟩
        · subst ev9
          refine W.eq (g2 := F0 m 12 ls [.int 1, .ref mo]) rfl ?_
          refine lv_if_ne (tgt := 19) hx hb dX5_wish_12 (by decide) (fun _ => ?_) (fun c9 => absurd c9 (by decide))
          refine lv_iload_n hx hb dX5_wish_19 rfl (lv_at hl9 3 rfl) ?_
          refine lv_iconst (v := (-1)) hx hb dX5_wish_20 (by decide) ?_
          refine lv_bipush (v := 9) hx hb dX5_wish_21 (by decide) ?_
          refine hp_S (As := [.int xv, .int (-1), .int 9]) (rest := [.ref mo]) B0 hw hS (c_X5_in hl G f xv (-1) 9) mS_X5_in qM_X5_81 rfl rfl hl9.1 (Nat.le_of_ble_eq_true rfl) ⟨⟨Nat.le_of_ble_eq_true rfl, Nat.le_of_ble_eq_true rfl⟩, Nat.le_of_ble_eq_true rfl, Nat.le_of_ble_eq_true rfl⟩ dX5_wish_23 (fun E ce q9 f4 H locs hPX hw hS hce hcv hcl => ?_) (fun v f4 H locs hP hw hS => ?_)
          · exact hPX.elim
          · obtain ⟨ef9, hv9⟩ := hP
            rw [ef9] at hw
            rcases hv9 with ⟨b5, ev9⟩ | ⟨b5, ev9⟩
            · subst ev9
              refine W.eq (g2 := F0 m 26 ls [.int 1, .ref mo]) rfl ?_
              refine lv_if_eq (tgt := 33) hx hb dX5_wish_26 (by decide) (fun c9 => absurd c9 (by decide)) (fun _ => ?_)
              refine lv_iconst (v := 0) hx hb dX5_wish_29 (by decide) ?_
              refine lv_goto (tgt := 34) hx hb dX5_wish_30 (by decide) ?_
              refine hp_put (fs1 := [.int 0, .ref dW, .ref dA, .ref dQ, .ref dM, .ref dS, .ref dL, .ref dR, .ref dT, .ref dZ, .ref dI, .ref dH, .ref dN, .ref dK, .ref dJ, .ref dU, .ref dO, .int (nI n), .int (nI a), .ref dF, .ref dP, .ref dE, .ref dX, .ref dY, .int (nI x), .int (nI cg), .ref dG]) (ty := .int) B0 hw hS 5 rfl in_X5 tyX5 tyX5_ok nmX5 k_mo 0 (by decide) qF_X5_77 rfl (by decide +kernel) rfl rfl (Nat.le_of_ble_eq_true rfl) rfl dX5_wish_34 (fun H locs f6 ef6 hw hS => ?_)
              have h7 : f6 mo = some (.inr (5, [.int 0, .ref dW, .ref dA, .ref dQ, .ref dM, .ref dS, .ref dL, .ref dR, .ref dT, .ref dZ, .ref dI, .ref dH, .ref dN, .ref dK, .ref dJ, .ref dU, .ref dO, .int (nI n), .int (nI a), .ref dF, .ref dP, .ref dE, .ref dX, .ref dY, .int (nI x), .int (nI cg), .ref dG])) := by rw [ef6, va_up_self]
              refine lv_aload_n hx hb dX5_wish_37 rfl (lv_at hl9 0 rfl) ?_
              refine hp_get B0 hw 5 rfl in_X5 h7 0 (by decide) qF_X5_77 rfl dX5_wish_38 ?_
              refine lv_if_le (tgt := 46) hx hb dX5_wish_41 (by decide) (fun _ => ?_) (fun c9 => absurd (by decide) c9)
              obtain ⟨ko, hko, eo9⟩ := vp_in_of (vin6 b3) (by decide)
              subst eo9
              refine lv_aload_n hx hb dX5_wish_46 rfl (lv_at hl9 0 rfl) ?_
              refine hp_get B0 hw 5 rfl in_X5 h7 1 (by decide) qF_X5_9 rfl dX5_wish_47 ?_
              refine lv_bipush (v := 6) hx hb dX5_wish_50 (by decide) ?_
              refine lv_iload_n hx hb dX5_wish_52 rfl (lv_at hl9 1 rfl) ?_
              refine lv_imul hx hb dX5_wish_53 ?_
              refine hp_c (v := 0) (by decide) ?_
              refine lv_iload_n hx hb dX5_wish_54 rfl (lv_at hl9 2 rfl) ?_
              refine lv_iadd hx hb dX5_wish_55 ?_
              refine hp_c (v := (nI ko)) (Int32.zero_add _) ?_
              have n9 : dW ≠ mo := hne k_dW k_mo (Nat.ne_of_beq_eq_false rfl)
              have h8 : f6 dW = some (.inl (cI G, 12, .inl (jn gw0 gw1))) := by rw [ef6, va_up_ne _ _ n9]; exact k_dW
              refine hp_iald B0 hw h8 (vp_in_nI (show ko < 12 by omega) (by decide)) dX5_wish_56 ?_
              refine hp_c (v := (gw0 ko)) (jn_at0 hko) ?_
              refine lv_istore (lv' := [(4, .int (gw0 ko)), (0, .ref mo), (1, .int 0), (2, .int (nI ko)), (3, .int xv)]) hx hb dX5_wish_57 hl9 (by decide) rfl (fun ls hl9 => ?_)
              refine lv_aload_n hx hb dX5_wish_59 rfl (lv_at hl9 1 rfl) ?_
              refine hp_get B0 hw 5 rfl in_X5 h7 1 (by decide) qF_X5_9 rfl dX5_wish_60 ?_
              refine lv_bipush (v := 6) hx hb dX5_wish_63 (by decide) ?_
              refine lv_iload_n hx hb dX5_wish_65 rfl (lv_at hl9 2 rfl) ?_
              refine lv_imul hx hb dX5_wish_66 ?_
              refine hp_c (v := 0) (by decide) ?_
              refine lv_iload_n hx hb dX5_wish_67 rfl (lv_at hl9 3 rfl) ?_
              refine lv_iadd hx hb dX5_wish_68 ?_
              refine hp_c (v := (nI ko)) (Int32.zero_add _) ?_
              refine lv_iload_n hx hb dX5_wish_69 rfl (lv_at hl9 4 rfl) ?_
              refine hp_iast B0 hw hS h8 (vp_in_nI (show ko < 12 by omega) (by decide)) dX5_wish_70 (fun H locs f10 ef10 hw hS => ?_)
              rw [show (upd (jn gw0 gw1) ((nI ko) : Int32).toNatClampNeg xv : Nat → Int32) = (jn (upd gw0 ko xv) gw1) from jn_up0 hko _] at ef10
              have h11 : f10 dW = some (.inl (cI G, 12, .inl (jn (upd gw0 ko xv) gw1))) := by rw [ef10, va_up_self]
              refine lv_iload hx hb dX5_wish_71 (lv_at hl9 0 rfl) ?_
              have hv8 : sV xv := (by have h1 := b5; simp only [jlt, jle, tq0, tq1, tq2, tq3, tq4, tq5, tq6, tq9, tq50, tq60, tq1023, tqm1] at h1; exact ⟨by omega, by omega⟩)
              have h12 : f10 mo = some (.inr (5, [.int 0, .ref dW, .ref dA, .ref dQ, .ref dM, .ref dS, .ref dL, .ref dR, .ref dT, .ref dZ, .ref dI, .ref dH, .ref dN, .ref dK, .ref dJ, .ref dU, .ref dO, .int (nI n), .int (nI a), .ref dF, .ref dP, .ref dE, .ref dX, .ref dY, .int (nI x), .int (nI cg), .ref dG])) := by rw [ef10, va_up_ne _ _ (Ne.symm n9)]; exact h7
              have n14 : dQ ≠ mo := hne k_dQ k_mo (Nat.ne_of_beq_eq_false rfl)
              have h13 : f6 dQ = some (.inl (cI G, 12, .inl gQ)) := by rw [ef6, va_up_ne _ _ n14]; exact k_dQ
              have h15 : f10 dQ = some (.inl (cI G, 12, .inl gQ)) := by rw [ef10, va_up_ne _ _ (Ne.symm nd_dW_dQ)]; exact h13
              have n17 : dS ≠ mo := hne k_dS k_mo (Nat.ne_of_beq_eq_false rfl)
              have h16 : f6 dS = some (.inl (cI G, 2, .inl gS)) := by rw [ef6, va_up_ne _ _ n17]; exact k_dS
              have n19 : dS ≠ dW := hneL k_dS k_dW (Nat.ne_of_beq_eq_false rfl)
              have h18 : f10 dS = some (.inl (cI G, 2, .inl gS)) := by rw [ef10, va_up_ne _ _ n19]; exact h16
              have n21 : dL ≠ mo := hne k_dL k_mo (Nat.ne_of_beq_eq_false rfl)
              have h20 : f6 dL = some (.inl (cI G, 2, .inl gL)) := by rw [ef6, va_up_ne _ _ n21]; exact k_dL
              have n23 : dL ≠ dW := hneL k_dL k_dW (Nat.ne_of_beq_eq_false rfl)
              have h22 : f10 dL = some (.inl (cI G, 2, .inl gL)) := by rw [ef10, va_up_ne _ _ n23]; exact h20
              have n25 : dR ≠ mo := hne k_dR k_mo (Nat.ne_of_beq_eq_false rfl)
              have h24 : f6 dR = some (.inl (cI G, 2, .inl gR)) := by rw [ef6, va_up_ne _ _ n25]; exact k_dR
              have n27 : dR ≠ dW := hneL k_dR k_dW (Nat.ne_of_beq_eq_false rfl)
              have h26 : f10 dR = some (.inl (cI G, 2, .inl gR)) := by rw [ef10, va_up_ne _ _ n27]; exact h24
              have n29 : dT ≠ mo := hne k_dT k_mo (Nat.ne_of_beq_eq_false rfl)
              have h28 : f6 dT = some (.inl (cI G, 2, .inl gT)) := by rw [ef6, va_up_ne _ _ n29]; exact k_dT
              have n31 : dT ≠ dW := hneL k_dT k_dW (Nat.ne_of_beq_eq_false rfl)
              have h30 : f10 dT = some (.inl (cI G, 2, .inl gT)) := by rw [ef10, va_up_ne _ _ n31]; exact h28
              have n33 : dZ ≠ mo := hne k_dZ k_mo (Nat.ne_of_beq_eq_false rfl)
              have h32 : f6 dZ = some (.inl (cZ G, 2, .inl gZ)) := by rw [ef6, va_up_ne _ _ n33]; exact k_dZ
              have n35 : dZ ≠ dW := hneL k_dZ k_dW (Nat.ne_of_beq_eq_false rfl)
              have h34 : f10 dZ = some (.inl (cZ G, 2, .inl gZ)) := by rw [ef10, va_up_ne _ _ n35]; exact h32
              have n37 : dI ≠ mo := hne k_dI k_mo (Nat.ne_of_beq_eq_false rfl)
              have h36 : f6 dI = some (.inl (cI G, 2, .inl gI)) := by rw [ef6, va_up_ne _ _ n37]; exact k_dI
              have n39 : dI ≠ dW := hneL k_dI k_dW (Nat.ne_of_beq_eq_false rfl)
              have h38 : f10 dI = some (.inl (cI G, 2, .inl gI)) := by rw [ef10, va_up_ne _ _ n39]; exact h36
              have n41 : dH ≠ mo := hne k_dH k_mo (Nat.ne_of_beq_eq_false rfl)
              have h40 : f6 dH = some (.inl (cI G, 2, .inl gH)) := by rw [ef6, va_up_ne _ _ n41]; exact k_dH
              have n43 : dH ≠ dW := hneL k_dH k_dW (Nat.ne_of_beq_eq_false rfl)
              have h42 : f10 dH = some (.inl (cI G, 2, .inl gH)) := by rw [ef10, va_up_ne _ _ n43]; exact h40
              have n45 : dN ≠ mo := hne k_dN k_mo (Nat.ne_of_beq_eq_false rfl)
              have h44 : f6 dN = some (.inl (cI G, 2, .inl gN)) := by rw [ef6, va_up_ne _ _ n45]; exact k_dN
              have n47 : dN ≠ dW := hneL k_dN k_dW (Nat.ne_of_beq_eq_false rfl)
              have h46 : f10 dN = some (.inl (cI G, 2, .inl gN)) := by rw [ef10, va_up_ne _ _ n47]; exact h44
              have n49 : dK ≠ mo := hne k_dK k_mo (Nat.ne_of_beq_eq_false rfl)
              have h48 : f6 dK = some (.inl (cI G, 2048, .inl gK)) := by rw [ef6, va_up_ne _ _ n49]; exact k_dK
              have n51 : dK ≠ dW := hneL k_dK k_dW (Nat.ne_of_beq_eq_false rfl)
              have h50 : f10 dK = some (.inl (cI G, 2048, .inl gK)) := by rw [ef10, va_up_ne _ _ n51]; exact h48
              have n53 : dJ ≠ mo := hne k_dJ k_mo (Nat.ne_of_beq_eq_false rfl)
              have h52 : f6 dJ = some (.inl (cI G, 2048, .inl gJ)) := by rw [ef6, va_up_ne _ _ n53]; exact k_dJ
              have n55 : dJ ≠ dW := hneL k_dJ k_dW (Nat.ne_of_beq_eq_false rfl)
              have h54 : f10 dJ = some (.inl (cI G, 2048, .inl gJ)) := by rw [ef10, va_up_ne _ _ n55]; exact h52
              have n57 : dU ≠ mo := hne k_dU k_mo (Nat.ne_of_beq_eq_false rfl)
              have h56 : f6 dU = some (.inl (cI G, 2048, .inl gU)) := by rw [ef6, va_up_ne _ _ n57]; exact k_dU
              have n59 : dU ≠ dW := hneL k_dU k_dW (Nat.ne_of_beq_eq_false rfl)
              have h58 : f10 dU = some (.inl (cI G, 2048, .inl gU)) := by rw [ef10, va_up_ne _ _ n59]; exact h56
              have n61 : dO ≠ mo := hne k_dO k_mo (Nat.ne_of_beq_eq_false rfl)
              have h60 : f6 dO = some (.inl (cI G, 2048, .inl gO)) := by rw [ef6, va_up_ne _ _ n61]; exact k_dO
              have n63 : dO ≠ dW := hneL k_dO k_dW (Nat.ne_of_beq_eq_false rfl)
              have h62 : f10 dO = some (.inl (cI G, 2048, .inl gO)) := by rw [ef10, va_up_ne _ _ n63]; exact h60
              have n65 : dA ≠ mo := hne k_dA k_mo (Nat.ne_of_beq_eq_false rfl)
              have h64 : f6 dA = some (.inl (cI G, 12, .inl (jn ga0 ga1))) := by rw [ef6, va_up_ne _ _ n65]; exact k_dA
              have h66 : f10 dA = some (.inl (cI G, 12, .inl (jn ga0 ga1))) := by rw [ef10, va_up_ne _ _ (Ne.symm nd_dW_dA)]; exact h64
              have n68 : dM ≠ mo := hne k_dM k_mo (Nat.ne_of_beq_eq_false rfl)
              have h67 : f6 dM = some (.inl (cI G, 2, .inl (mA2 mg0 mg1))) := by rw [ef6, va_up_ne _ _ n68]; exact k_dM
              have n70 : dM ≠ dW := hneL k_dM k_dW (Nat.ne_of_beq_eq_false rfl)
              have h69 : f10 dM = some (.inl (cI G, 2, .inl (mA2 mg0 mg1))) := by rw [ef10, va_up_ne _ _ n70]; exact h67
              have n72 : dF ≠ mo := hne k_dF k_mo (Nat.ne_of_beq_eq_false rfl)
              have h71 : f6 dF = some (.inl (cI G, 61, .inl (nf sa))) := by rw [ef6, va_up_ne _ _ n72]; exact k_dF
              have n74 : dF ≠ dW := hneL k_dF k_dW (Nat.ne_of_beq_eq_false rfl)
              have h73 : f10 dF = some (.inl (cI G, 61, .inl (nf sa))) := by rw [ef10, va_up_ne _ _ n74]; exact h71
              have n76 : dP ≠ mo := hne k_dP k_mo (Nat.ne_of_beq_eq_false rfl)
              have h75 : f6 dP = some (.inl (cI G, 240, .inl (nf pk))) := by rw [ef6, va_up_ne _ _ n76]; exact k_dP
              have n78 : dP ≠ dW := hneL k_dP k_dW (Nat.ne_of_beq_eq_false rfl)
              have h77 : f10 dP = some (.inl (cI G, 240, .inl (nf pk))) := by rw [ef10, va_up_ne _ _ n78]; exact h75
              have n80 : dE ≠ mo := hne k_dE k_mo (Nat.ne_of_beq_eq_false rfl)
              have h79 : f6 dE = some (.inl (cZ G, 240, .inl gh)) := by rw [ef6, va_up_ne _ _ n80]; exact k_dE
              have n82 : dE ≠ dW := hneL k_dE k_dW (Nat.ne_of_beq_eq_false rfl)
              have h81 : f10 dE = some (.inl (cZ G, 240, .inl gh)) := by rw [ef10, va_up_ne _ _ n82]; exact h79
              have n84 : dX ≠ mo := hne k_dX k_mo (Nat.ne_of_beq_eq_false rfl)
              have h83 : f6 dX = some (.inl (cI G, 3, .inl (nf fl))) := by rw [ef6, va_up_ne _ _ n84]; exact k_dX
              have n86 : dX ≠ dW := hneL k_dX k_dW (Nat.ne_of_beq_eq_false rfl)
              have h85 : f10 dX = some (.inl (cI G, 3, .inl (nf fl))) := by rw [ef10, va_up_ne _ _ n86]; exact h83
              have n88 : dY ≠ mo := hne k_dY k_mo (Nat.ne_of_beq_eq_false rfl)
              have h87 : f6 dY = some (.inl (cI G, 3, .inl gl)) := by rw [ef6, va_up_ne _ _ n88]; exact k_dY
              have n90 : dY ≠ dW := hneL k_dY k_dW (Nat.ne_of_beq_eq_false rfl)
              have h89 : f10 dY = some (.inl (cI G, 3, .inl gl)) := by rw [ef10, va_up_ne _ _ n90]; exact h87
              have n92 : dG ≠ mo := hne k_dG k_mo (Nat.ne_of_beq_eq_false rfl)
              have h91 : f6 dG = some (.inl (cI G, 60, .inl (nf gv))) := by rw [ef6, va_up_ne _ _ n92]; exact k_dG
              have n94 : dG ≠ dW := hneL k_dG k_dW (Nat.ne_of_beq_eq_false rfl)
              have h93 : f10 dG = some (.inl (cI G, 60, .inl (nf gv))) := by rw [ef10, va_up_ne _ _ n94]; exact h91
              exact hp_iret (v := (gw0 ko)) B0 hw hS hr ⟨Nat.le_of_ble_eq_true rfl, Nat.le_of_ble_eq_true rfl⟩ dX5_wish_73 (⟨Or.inl ⟨spc_0 ⟨(Or.inl rfl), b3⟩ hv8, (by rw [selE_0 rfl, nI_clamp (show ko < 2 ^ 31 by omega)]), ⟨h12, hND, ⟨_, _, _, _, _, _, _, _, _, _, _, _, _, h15, h18, h22, h26, h30, h34, h38, h42, h46, h50, h54, h58, h62, hHd9, (hMn.mono hMn9 (by omega))⟩, (by rw [updE_1 (show ((0 : Int32) = 0) from rfl), updE_0 (show ¬ ((0 : Int32) = 1) by decide), nI_clamp (show ko < 2 ^ 31 by omega)]; exact h11), h66, h69, h73, h77, h81, h85, h89, h93, hSA, hB9, hfl9⟩⟩, ((show hEq [mo, dW, dA, dQ, dM, dS, dL, dR, dT, dZ, dI, dH, dN, dK, dJ, dU, dO, dF, dP, dE, dX, dY, dG] f f6 from (by rw [ef6]; exact hEq.up List.mem_cons_self)).tr (show hEq [mo, dW, dA, dQ, dM, dS, dL, dR, dT, dZ, dI, dH, dN, dK, dJ, dU, dO, dF, dP, dE, dX, dY, dG] f6 f10 from (by rw [ef10]; exact hEq.up (List.mem_cons_of_mem _ List.mem_cons_self))))⟩)
            · subst ev9
              refine W.eq (g2 := F0 m 26 ls [.int 0, .ref mo]) rfl ?_
              refine lv_if_eq (tgt := 33) hx hb dX5_wish_26 (by decide) (fun _ => ?_) (fun c9 => absurd (by decide) c9)
              refine lv_iconst (v := 2) hx hb dX5_wish_33 (by decide) ?_
              refine hp_put (fs1 := [.int 2, .ref dW, .ref dA, .ref dQ, .ref dM, .ref dS, .ref dL, .ref dR, .ref dT, .ref dZ, .ref dI, .ref dH, .ref dN, .ref dK, .ref dJ, .ref dU, .ref dO, .int (nI n), .int (nI a), .ref dF, .ref dP, .ref dE, .ref dX, .ref dY, .int (nI x), .int (nI cg), .ref dG]) (ty := .int) B0 hw hS 5 rfl in_X5 tyX5 tyX5_ok nmX5 k_mo 0 (by decide) qF_X5_77 rfl (by decide +kernel) rfl rfl (Nat.le_of_ble_eq_true rfl) rfl dX5_wish_34 (fun H locs f95 ef95 hw hS => ?_)
              have h96 : f95 mo = some (.inr (5, [.int 2, .ref dW, .ref dA, .ref dQ, .ref dM, .ref dS, .ref dL, .ref dR, .ref dT, .ref dZ, .ref dI, .ref dH, .ref dN, .ref dK, .ref dJ, .ref dU, .ref dO, .int (nI n), .int (nI a), .ref dF, .ref dP, .ref dE, .ref dX, .ref dY, .int (nI x), .int (nI cg), .ref dG])) := by rw [ef95, va_up_self]
              refine lv_aload_n hx hb dX5_wish_37 rfl (lv_at hl9 0 rfl) ?_
              refine hp_get B0 hw 5 rfl in_X5 h96 0 (by decide) qF_X5_77 rfl dX5_wish_38 ?_
              refine lv_if_le (tgt := 46) hx hb dX5_wish_41 (by decide) (fun c9 => absurd c9 (by decide)) (fun _ => ?_)
              refine lv_iconst (v := 0) hx hb dX5_wish_44 (by decide) ?_
              have hs9 : spc (sE (0 : Int32) ∧ sO o) (sV xv) = 2 := spc_2 ⟨(Or.inl rfl), b3⟩ (fun h9 => b5 (by simp only [jlt, jle, tq0, tq1, tq2, tq3, tq4, tq5, tq6, tq9, tq50, tq60, tq1023, tqm1]; exact ⟨by omega, by omega⟩))
              have n98 : dQ ≠ mo := hne k_dQ k_mo (Nat.ne_of_beq_eq_false rfl)
              have h97 : f95 dQ = some (.inl (cI G, 12, .inl gQ)) := by rw [ef95, va_up_ne _ _ n98]; exact k_dQ
              have n100 : dS ≠ mo := hne k_dS k_mo (Nat.ne_of_beq_eq_false rfl)
              have h99 : f95 dS = some (.inl (cI G, 2, .inl gS)) := by rw [ef95, va_up_ne _ _ n100]; exact k_dS
              have n102 : dL ≠ mo := hne k_dL k_mo (Nat.ne_of_beq_eq_false rfl)
              have h101 : f95 dL = some (.inl (cI G, 2, .inl gL)) := by rw [ef95, va_up_ne _ _ n102]; exact k_dL
              have n104 : dR ≠ mo := hne k_dR k_mo (Nat.ne_of_beq_eq_false rfl)
              have h103 : f95 dR = some (.inl (cI G, 2, .inl gR)) := by rw [ef95, va_up_ne _ _ n104]; exact k_dR
              have n106 : dT ≠ mo := hne k_dT k_mo (Nat.ne_of_beq_eq_false rfl)
              have h105 : f95 dT = some (.inl (cI G, 2, .inl gT)) := by rw [ef95, va_up_ne _ _ n106]; exact k_dT
              have n108 : dZ ≠ mo := hne k_dZ k_mo (Nat.ne_of_beq_eq_false rfl)
              have h107 : f95 dZ = some (.inl (cZ G, 2, .inl gZ)) := by rw [ef95, va_up_ne _ _ n108]; exact k_dZ
              have n110 : dI ≠ mo := hne k_dI k_mo (Nat.ne_of_beq_eq_false rfl)
              have h109 : f95 dI = some (.inl (cI G, 2, .inl gI)) := by rw [ef95, va_up_ne _ _ n110]; exact k_dI
              have n112 : dH ≠ mo := hne k_dH k_mo (Nat.ne_of_beq_eq_false rfl)
              have h111 : f95 dH = some (.inl (cI G, 2, .inl gH)) := by rw [ef95, va_up_ne _ _ n112]; exact k_dH
              have n114 : dN ≠ mo := hne k_dN k_mo (Nat.ne_of_beq_eq_false rfl)
              have h113 : f95 dN = some (.inl (cI G, 2, .inl gN)) := by rw [ef95, va_up_ne _ _ n114]; exact k_dN
              have n116 : dK ≠ mo := hne k_dK k_mo (Nat.ne_of_beq_eq_false rfl)
              have h115 : f95 dK = some (.inl (cI G, 2048, .inl gK)) := by rw [ef95, va_up_ne _ _ n116]; exact k_dK
              have n118 : dJ ≠ mo := hne k_dJ k_mo (Nat.ne_of_beq_eq_false rfl)
              have h117 : f95 dJ = some (.inl (cI G, 2048, .inl gJ)) := by rw [ef95, va_up_ne _ _ n118]; exact k_dJ
              have n120 : dU ≠ mo := hne k_dU k_mo (Nat.ne_of_beq_eq_false rfl)
              have h119 : f95 dU = some (.inl (cI G, 2048, .inl gU)) := by rw [ef95, va_up_ne _ _ n120]; exact k_dU
              have n122 : dO ≠ mo := hne k_dO k_mo (Nat.ne_of_beq_eq_false rfl)
              have h121 : f95 dO = some (.inl (cI G, 2048, .inl gO)) := by rw [ef95, va_up_ne _ _ n122]; exact k_dO
              have n124 : dW ≠ mo := hne k_dW k_mo (Nat.ne_of_beq_eq_false rfl)
              have h123 : f95 dW = some (.inl (cI G, 12, .inl (jn gw0 gw1))) := by rw [ef95, va_up_ne _ _ n124]; exact k_dW
              have n126 : dA ≠ mo := hne k_dA k_mo (Nat.ne_of_beq_eq_false rfl)
              have h125 : f95 dA = some (.inl (cI G, 12, .inl (jn ga0 ga1))) := by rw [ef95, va_up_ne _ _ n126]; exact k_dA
              have n128 : dM ≠ mo := hne k_dM k_mo (Nat.ne_of_beq_eq_false rfl)
              have h127 : f95 dM = some (.inl (cI G, 2, .inl (mA2 mg0 mg1))) := by rw [ef95, va_up_ne _ _ n128]; exact k_dM
              have n130 : dF ≠ mo := hne k_dF k_mo (Nat.ne_of_beq_eq_false rfl)
              have h129 : f95 dF = some (.inl (cI G, 61, .inl (nf sa))) := by rw [ef95, va_up_ne _ _ n130]; exact k_dF
              have n132 : dP ≠ mo := hne k_dP k_mo (Nat.ne_of_beq_eq_false rfl)
              have h131 : f95 dP = some (.inl (cI G, 240, .inl (nf pk))) := by rw [ef95, va_up_ne _ _ n132]; exact k_dP
              have n134 : dE ≠ mo := hne k_dE k_mo (Nat.ne_of_beq_eq_false rfl)
              have h133 : f95 dE = some (.inl (cZ G, 240, .inl gh)) := by rw [ef95, va_up_ne _ _ n134]; exact k_dE
              have n136 : dX ≠ mo := hne k_dX k_mo (Nat.ne_of_beq_eq_false rfl)
              have h135 : f95 dX = some (.inl (cI G, 3, .inl (nf fl))) := by rw [ef95, va_up_ne _ _ n136]; exact k_dX
              have n138 : dY ≠ mo := hne k_dY k_mo (Nat.ne_of_beq_eq_false rfl)
              have h137 : f95 dY = some (.inl (cI G, 3, .inl gl)) := by rw [ef95, va_up_ne _ _ n138]; exact k_dY
              have n140 : dG ≠ mo := hne k_dG k_mo (Nat.ne_of_beq_eq_false rfl)
              have h139 : f95 dG = some (.inl (cI G, 60, .inl (nf gv))) := by rw [ef95, va_up_ne _ _ n140]; exact k_dG
              exact hp_iret (v := 0) B0 hw hS hr ⟨Nat.le_of_ble_eq_true rfl, Nat.le_of_ble_eq_true rfl⟩ dX5_wish_45 (⟨Or.inr ⟨(by rw [hs9]; decide), ⟨_, rfl⟩, ⟨(by rw [hs9]; exact h96), hND, ⟨_, _, _, _, _, _, _, _, _, _, _, _, _, h97, h99, h101, h103, h105, h107, h109, h111, h113, h115, h117, h119, h121, hHd9, (hMn.mono hMn9 (by omega))⟩, h123, h125, h127, h129, h131, h133, h135, h137, h139, hSA, hB9, hfl9⟩⟩, (show hEq [mo, dW, dA, dQ, dM, dS, dL, dR, dT, dZ, dI, dH, dN, dK, dJ, dU, dO, dF, dP, dE, dX, dY, dG] f f95 from (by rw [ef95]; exact hEq.up List.mem_cons_self))⟩)
        · subst ev9
          refine W.eq (g2 := F0 m 12 ls [.int 0, .ref mo]) rfl ?_
          refine lv_if_ne (tgt := 19) hx hb dX5_wish_12 (by decide) (fun c9 => absurd (by decide) c9) (fun _ => ?_)
          refine lv_iconst (v := 1) hx hb dX5_wish_15 (by decide) ?_
          refine lv_goto (tgt := 34) hx hb dX5_wish_16 (by decide) ?_
          refine hp_put (fs1 := [.int 1, .ref dW, .ref dA, .ref dQ, .ref dM, .ref dS, .ref dL, .ref dR, .ref dT, .ref dZ, .ref dI, .ref dH, .ref dN, .ref dK, .ref dJ, .ref dU, .ref dO, .int (nI n), .int (nI a), .ref dF, .ref dP, .ref dE, .ref dX, .ref dY, .int (nI x), .int (nI cg), .ref dG]) (ty := .int) B0 hw hS 5 rfl in_X5 tyX5 tyX5_ok nmX5 k_mo 0 (by decide) qF_X5_77 rfl (by decide +kernel) rfl rfl (Nat.le_of_ble_eq_true rfl) rfl dX5_wish_34 (fun H locs f141 ef141 hw hS => ?_)
          have h142 : f141 mo = some (.inr (5, [.int 1, .ref dW, .ref dA, .ref dQ, .ref dM, .ref dS, .ref dL, .ref dR, .ref dT, .ref dZ, .ref dI, .ref dH, .ref dN, .ref dK, .ref dJ, .ref dU, .ref dO, .int (nI n), .int (nI a), .ref dF, .ref dP, .ref dE, .ref dX, .ref dY, .int (nI x), .int (nI cg), .ref dG])) := by rw [ef141, va_up_self]
          refine lv_aload_n hx hb dX5_wish_37 rfl (lv_at hl9 0 rfl) ?_
          refine hp_get B0 hw 5 rfl in_X5 h142 0 (by decide) qF_X5_77 rfl dX5_wish_38 ?_
          refine lv_if_le (tgt := 46) hx hb dX5_wish_41 (by decide) (fun c9 => absurd c9 (by decide)) (fun _ => ?_)
          refine lv_iconst (v := 0) hx hb dX5_wish_44 (by decide) ?_
          have hs9 : spc (sE (0 : Int32) ∧ sO o) (sV xv) = 1 := spc_1 (fun h9 => b3 h9.2)
          have n144 : dQ ≠ mo := hne k_dQ k_mo (Nat.ne_of_beq_eq_false rfl)
          have h143 : f141 dQ = some (.inl (cI G, 12, .inl gQ)) := by rw [ef141, va_up_ne _ _ n144]; exact k_dQ
          have n146 : dS ≠ mo := hne k_dS k_mo (Nat.ne_of_beq_eq_false rfl)
          have h145 : f141 dS = some (.inl (cI G, 2, .inl gS)) := by rw [ef141, va_up_ne _ _ n146]; exact k_dS
          have n148 : dL ≠ mo := hne k_dL k_mo (Nat.ne_of_beq_eq_false rfl)
          have h147 : f141 dL = some (.inl (cI G, 2, .inl gL)) := by rw [ef141, va_up_ne _ _ n148]; exact k_dL
          have n150 : dR ≠ mo := hne k_dR k_mo (Nat.ne_of_beq_eq_false rfl)
          have h149 : f141 dR = some (.inl (cI G, 2, .inl gR)) := by rw [ef141, va_up_ne _ _ n150]; exact k_dR
          have n152 : dT ≠ mo := hne k_dT k_mo (Nat.ne_of_beq_eq_false rfl)
          have h151 : f141 dT = some (.inl (cI G, 2, .inl gT)) := by rw [ef141, va_up_ne _ _ n152]; exact k_dT
          have n154 : dZ ≠ mo := hne k_dZ k_mo (Nat.ne_of_beq_eq_false rfl)
          have h153 : f141 dZ = some (.inl (cZ G, 2, .inl gZ)) := by rw [ef141, va_up_ne _ _ n154]; exact k_dZ
          have n156 : dI ≠ mo := hne k_dI k_mo (Nat.ne_of_beq_eq_false rfl)
          have h155 : f141 dI = some (.inl (cI G, 2, .inl gI)) := by rw [ef141, va_up_ne _ _ n156]; exact k_dI
          have n158 : dH ≠ mo := hne k_dH k_mo (Nat.ne_of_beq_eq_false rfl)
          have h157 : f141 dH = some (.inl (cI G, 2, .inl gH)) := by rw [ef141, va_up_ne _ _ n158]; exact k_dH
          have n160 : dN ≠ mo := hne k_dN k_mo (Nat.ne_of_beq_eq_false rfl)
          have h159 : f141 dN = some (.inl (cI G, 2, .inl gN)) := by rw [ef141, va_up_ne _ _ n160]; exact k_dN
          have n162 : dK ≠ mo := hne k_dK k_mo (Nat.ne_of_beq_eq_false rfl)
          have h161 : f141 dK = some (.inl (cI G, 2048, .inl gK)) := by rw [ef141, va_up_ne _ _ n162]; exact k_dK
          have n164 : dJ ≠ mo := hne k_dJ k_mo (Nat.ne_of_beq_eq_false rfl)
          have h163 : f141 dJ = some (.inl (cI G, 2048, .inl gJ)) := by rw [ef141, va_up_ne _ _ n164]; exact k_dJ
          have n166 : dU ≠ mo := hne k_dU k_mo (Nat.ne_of_beq_eq_false rfl)
          have h165 : f141 dU = some (.inl (cI G, 2048, .inl gU)) := by rw [ef141, va_up_ne _ _ n166]; exact k_dU
          have n168 : dO ≠ mo := hne k_dO k_mo (Nat.ne_of_beq_eq_false rfl)
          have h167 : f141 dO = some (.inl (cI G, 2048, .inl gO)) := by rw [ef141, va_up_ne _ _ n168]; exact k_dO
          have n170 : dW ≠ mo := hne k_dW k_mo (Nat.ne_of_beq_eq_false rfl)
          have h169 : f141 dW = some (.inl (cI G, 12, .inl (jn gw0 gw1))) := by rw [ef141, va_up_ne _ _ n170]; exact k_dW
          have n172 : dA ≠ mo := hne k_dA k_mo (Nat.ne_of_beq_eq_false rfl)
          have h171 : f141 dA = some (.inl (cI G, 12, .inl (jn ga0 ga1))) := by rw [ef141, va_up_ne _ _ n172]; exact k_dA
          have n174 : dM ≠ mo := hne k_dM k_mo (Nat.ne_of_beq_eq_false rfl)
          have h173 : f141 dM = some (.inl (cI G, 2, .inl (mA2 mg0 mg1))) := by rw [ef141, va_up_ne _ _ n174]; exact k_dM
          have n176 : dF ≠ mo := hne k_dF k_mo (Nat.ne_of_beq_eq_false rfl)
          have h175 : f141 dF = some (.inl (cI G, 61, .inl (nf sa))) := by rw [ef141, va_up_ne _ _ n176]; exact k_dF
          have n178 : dP ≠ mo := hne k_dP k_mo (Nat.ne_of_beq_eq_false rfl)
          have h177 : f141 dP = some (.inl (cI G, 240, .inl (nf pk))) := by rw [ef141, va_up_ne _ _ n178]; exact k_dP
          have n180 : dE ≠ mo := hne k_dE k_mo (Nat.ne_of_beq_eq_false rfl)
          have h179 : f141 dE = some (.inl (cZ G, 240, .inl gh)) := by rw [ef141, va_up_ne _ _ n180]; exact k_dE
          have n182 : dX ≠ mo := hne k_dX k_mo (Nat.ne_of_beq_eq_false rfl)
          have h181 : f141 dX = some (.inl (cI G, 3, .inl (nf fl))) := by rw [ef141, va_up_ne _ _ n182]; exact k_dX
          have n184 : dY ≠ mo := hne k_dY k_mo (Nat.ne_of_beq_eq_false rfl)
          have h183 : f141 dY = some (.inl (cI G, 3, .inl gl)) := by rw [ef141, va_up_ne _ _ n184]; exact k_dY
          have n186 : dG ≠ mo := hne k_dG k_mo (Nat.ne_of_beq_eq_false rfl)
          have h185 : f141 dG = some (.inl (cI G, 60, .inl (nf gv))) := by rw [ef141, va_up_ne _ _ n186]; exact k_dG
          exact hp_iret (v := 0) B0 hw hS hr ⟨Nat.le_of_ble_eq_true rfl, Nat.le_of_ble_eq_true rfl⟩ dX5_wish_45 (⟨Or.inr ⟨(by rw [hs9]; decide), ⟨_, rfl⟩, ⟨(by rw [hs9]; exact h142), hND, ⟨_, _, _, _, _, _, _, _, _, _, _, _, _, h143, h145, h147, h149, h151, h153, h155, h157, h159, h161, h163, h165, h167, hHd9, (hMn.mono hMn9 (by omega))⟩, h169, h171, h173, h175, h177, h179, h181, h183, h185, hSA, hB9, hfl9⟩⟩, (show hEq [mo, dW, dA, dQ, dM, dS, dL, dR, dT, dZ, dI, dH, dN, dK, dJ, dU, dO, dF, dP, dE, dX, dY, dG] f f141 from (by rw [ef141]; exact hEq.up List.mem_cons_self))⟩)
    · subst ev9
      subst b9
      refine W.eq (g2 := F0 m 5 ls [.int 1, .ref mo]) rfl ?_
      refine lv_if_eq (tgt := 15) hx hb dX5_wish_5 (by decide) (fun c9 => absurd c9 (by decide)) (fun _ => ?_)
      refine lv_iload_n hx hb dX5_wish_8 rfl (lv_at hl9 2 rfl) ?_
      refine hp_S (As := [.int o]) (rest := [.ref mo]) B0 hw hS (c_X5_isOption hl G f o) mS_X5_isOption qM_X5_89 rfl rfl hl9.1 (Nat.le_of_ble_eq_true rfl) ⟨⟨Nat.le_of_ble_eq_true rfl, Nat.le_of_ble_eq_true rfl⟩, Nat.le_of_ble_eq_true rfl, Nat.le_of_ble_eq_true rfl⟩ dX5_wish_9 (fun E ce q9 f187 H locs hPX hw hS hce hcv hcl => ?_) (fun v f187 H locs hP hw hS => ?_)
      · exact hPX.elim
      · obtain ⟨ef9, hv9⟩ := hP
        rw [ef9] at hw
        rcases hv9 with ⟨b188, ev9⟩ | ⟨b188, ev9⟩
        · subst ev9
          refine W.eq (g2 := F0 m 12 ls [.int 1, .ref mo]) rfl ?_
          refine lv_if_ne (tgt := 19) hx hb dX5_wish_12 (by decide) (fun _ => ?_) (fun c9 => absurd c9 (by decide))
          refine lv_iload_n hx hb dX5_wish_19 rfl (lv_at hl9 3 rfl) ?_
          refine lv_iconst (v := (-1)) hx hb dX5_wish_20 (by decide) ?_
          refine lv_bipush (v := 9) hx hb dX5_wish_21 (by decide) ?_
          refine hp_S (As := [.int xv, .int (-1), .int 9]) (rest := [.ref mo]) B0 hw hS (c_X5_in hl G f xv (-1) 9) mS_X5_in qM_X5_81 rfl rfl hl9.1 (Nat.le_of_ble_eq_true rfl) ⟨⟨Nat.le_of_ble_eq_true rfl, Nat.le_of_ble_eq_true rfl⟩, Nat.le_of_ble_eq_true rfl, Nat.le_of_ble_eq_true rfl⟩ dX5_wish_23 (fun E ce q9 f189 H locs hPX hw hS hce hcv hcl => ?_) (fun v f189 H locs hP hw hS => ?_)
          · exact hPX.elim
          · obtain ⟨ef9, hv9⟩ := hP
            rw [ef9] at hw
            rcases hv9 with ⟨b190, ev9⟩ | ⟨b190, ev9⟩
            · subst ev9
              refine W.eq (g2 := F0 m 26 ls [.int 1, .ref mo]) rfl ?_
              refine lv_if_eq (tgt := 33) hx hb dX5_wish_26 (by decide) (fun c9 => absurd c9 (by decide)) (fun _ => ?_)
              refine lv_iconst (v := 0) hx hb dX5_wish_29 (by decide) ?_
              refine lv_goto (tgt := 34) hx hb dX5_wish_30 (by decide) ?_
              refine hp_put (fs1 := [.int 0, .ref dW, .ref dA, .ref dQ, .ref dM, .ref dS, .ref dL, .ref dR, .ref dT, .ref dZ, .ref dI, .ref dH, .ref dN, .ref dK, .ref dJ, .ref dU, .ref dO, .int (nI n), .int (nI a), .ref dF, .ref dP, .ref dE, .ref dX, .ref dY, .int (nI x), .int (nI cg), .ref dG]) (ty := .int) B0 hw hS 5 rfl in_X5 tyX5 tyX5_ok nmX5 k_mo 0 (by decide) qF_X5_77 rfl (by decide +kernel) rfl rfl (Nat.le_of_ble_eq_true rfl) rfl dX5_wish_34 (fun H locs f191 ef191 hw hS => ?_)
              have h192 : f191 mo = some (.inr (5, [.int 0, .ref dW, .ref dA, .ref dQ, .ref dM, .ref dS, .ref dL, .ref dR, .ref dT, .ref dZ, .ref dI, .ref dH, .ref dN, .ref dK, .ref dJ, .ref dU, .ref dO, .int (nI n), .int (nI a), .ref dF, .ref dP, .ref dE, .ref dX, .ref dY, .int (nI x), .int (nI cg), .ref dG])) := by rw [ef191, va_up_self]
              refine lv_aload_n hx hb dX5_wish_37 rfl (lv_at hl9 0 rfl) ?_
              refine hp_get B0 hw 5 rfl in_X5 h192 0 (by decide) qF_X5_77 rfl dX5_wish_38 ?_
              refine lv_if_le (tgt := 46) hx hb dX5_wish_41 (by decide) (fun _ => ?_) (fun c9 => absurd (by decide) c9)
              obtain ⟨ko, hko, eo9⟩ := vp_in_of (vin6 b188) (by decide)
              subst eo9
              refine lv_aload_n hx hb dX5_wish_46 rfl (lv_at hl9 0 rfl) ?_
              refine hp_get B0 hw 5 rfl in_X5 h192 1 (by decide) qF_X5_9 rfl dX5_wish_47 ?_
              refine lv_bipush (v := 6) hx hb dX5_wish_50 (by decide) ?_
              refine lv_iload_n hx hb dX5_wish_52 rfl (lv_at hl9 1 rfl) ?_
              refine lv_imul hx hb dX5_wish_53 ?_
              refine hp_c (v := 6) (by decide) ?_
              refine lv_iload_n hx hb dX5_wish_54 rfl (lv_at hl9 2 rfl) ?_
              refine lv_iadd hx hb dX5_wish_55 ?_
              refine hp_c (v := (nI (6 + ko))) (nI_add 6 ko) ?_
              have n194 : dW ≠ mo := hne k_dW k_mo (Nat.ne_of_beq_eq_false rfl)
              have h193 : f191 dW = some (.inl (cI G, 12, .inl (jn gw0 gw1))) := by rw [ef191, va_up_ne _ _ n194]; exact k_dW
              refine hp_iald B0 hw h193 (vp_in_nI (show 6 + ko < 12 by omega) (by decide)) dX5_wish_56 ?_
              refine hp_c (v := (gw1 ko)) (jn_at1 hko) ?_
              refine lv_istore (lv' := [(4, .int (gw1 ko)), (0, .ref mo), (1, .int 1), (2, .int (nI ko)), (3, .int xv)]) hx hb dX5_wish_57 hl9 (by decide) rfl (fun ls hl9 => ?_)
              refine lv_aload_n hx hb dX5_wish_59 rfl (lv_at hl9 1 rfl) ?_
              refine hp_get B0 hw 5 rfl in_X5 h192 1 (by decide) qF_X5_9 rfl dX5_wish_60 ?_
              refine lv_bipush (v := 6) hx hb dX5_wish_63 (by decide) ?_
              refine lv_iload_n hx hb dX5_wish_65 rfl (lv_at hl9 2 rfl) ?_
              refine lv_imul hx hb dX5_wish_66 ?_
              refine hp_c (v := 6) (by decide) ?_
              refine lv_iload_n hx hb dX5_wish_67 rfl (lv_at hl9 3 rfl) ?_
              refine lv_iadd hx hb dX5_wish_68 ?_
              refine hp_c (v := (nI (6 + ko))) (nI_add 6 ko) ?_
              refine lv_iload_n hx hb dX5_wish_69 rfl (lv_at hl9 4 rfl) ?_
              refine hp_iast B0 hw hS h193 (vp_in_nI (show 6 + ko < 12 by omega) (by decide)) dX5_wish_70 (fun H locs f195 ef195 hw hS => ?_)
              rw [show (upd (jn gw0 gw1) ((nI (6 + ko)) : Int32).toNatClampNeg xv : Nat → Int32) = (jn gw0 (upd gw1 ko xv)) from jn_up1 hko _] at ef195
              have h196 : f195 dW = some (.inl (cI G, 12, .inl (jn gw0 (upd gw1 ko xv)))) := by rw [ef195, va_up_self]
              refine lv_iload hx hb dX5_wish_71 (lv_at hl9 0 rfl) ?_
              have hv8 : sV xv := (by have h1 := b190; simp only [jlt, jle, tq0, tq1, tq2, tq3, tq4, tq5, tq6, tq9, tq50, tq60, tq1023, tqm1] at h1; exact ⟨by omega, by omega⟩)
              have h197 : f195 mo = some (.inr (5, [.int 0, .ref dW, .ref dA, .ref dQ, .ref dM, .ref dS, .ref dL, .ref dR, .ref dT, .ref dZ, .ref dI, .ref dH, .ref dN, .ref dK, .ref dJ, .ref dU, .ref dO, .int (nI n), .int (nI a), .ref dF, .ref dP, .ref dE, .ref dX, .ref dY, .int (nI x), .int (nI cg), .ref dG])) := by rw [ef195, va_up_ne _ _ (Ne.symm n194)]; exact h192
              have n199 : dQ ≠ mo := hne k_dQ k_mo (Nat.ne_of_beq_eq_false rfl)
              have h198 : f191 dQ = some (.inl (cI G, 12, .inl gQ)) := by rw [ef191, va_up_ne _ _ n199]; exact k_dQ
              have h200 : f195 dQ = some (.inl (cI G, 12, .inl gQ)) := by rw [ef195, va_up_ne _ _ (Ne.symm nd_dW_dQ)]; exact h198
              have n202 : dS ≠ mo := hne k_dS k_mo (Nat.ne_of_beq_eq_false rfl)
              have h201 : f191 dS = some (.inl (cI G, 2, .inl gS)) := by rw [ef191, va_up_ne _ _ n202]; exact k_dS
              have n204 : dS ≠ dW := hneL k_dS k_dW (Nat.ne_of_beq_eq_false rfl)
              have h203 : f195 dS = some (.inl (cI G, 2, .inl gS)) := by rw [ef195, va_up_ne _ _ n204]; exact h201
              have n206 : dL ≠ mo := hne k_dL k_mo (Nat.ne_of_beq_eq_false rfl)
              have h205 : f191 dL = some (.inl (cI G, 2, .inl gL)) := by rw [ef191, va_up_ne _ _ n206]; exact k_dL
              have n208 : dL ≠ dW := hneL k_dL k_dW (Nat.ne_of_beq_eq_false rfl)
              have h207 : f195 dL = some (.inl (cI G, 2, .inl gL)) := by rw [ef195, va_up_ne _ _ n208]; exact h205
              have n210 : dR ≠ mo := hne k_dR k_mo (Nat.ne_of_beq_eq_false rfl)
              have h209 : f191 dR = some (.inl (cI G, 2, .inl gR)) := by rw [ef191, va_up_ne _ _ n210]; exact k_dR
              have n212 : dR ≠ dW := hneL k_dR k_dW (Nat.ne_of_beq_eq_false rfl)
              have h211 : f195 dR = some (.inl (cI G, 2, .inl gR)) := by rw [ef195, va_up_ne _ _ n212]; exact h209
              have n214 : dT ≠ mo := hne k_dT k_mo (Nat.ne_of_beq_eq_false rfl)
              have h213 : f191 dT = some (.inl (cI G, 2, .inl gT)) := by rw [ef191, va_up_ne _ _ n214]; exact k_dT
              have n216 : dT ≠ dW := hneL k_dT k_dW (Nat.ne_of_beq_eq_false rfl)
              have h215 : f195 dT = some (.inl (cI G, 2, .inl gT)) := by rw [ef195, va_up_ne _ _ n216]; exact h213
              have n218 : dZ ≠ mo := hne k_dZ k_mo (Nat.ne_of_beq_eq_false rfl)
              have h217 : f191 dZ = some (.inl (cZ G, 2, .inl gZ)) := by rw [ef191, va_up_ne _ _ n218]; exact k_dZ
              have n220 : dZ ≠ dW := hneL k_dZ k_dW (Nat.ne_of_beq_eq_false rfl)
              have h219 : f195 dZ = some (.inl (cZ G, 2, .inl gZ)) := by rw [ef195, va_up_ne _ _ n220]; exact h217
              have n222 : dI ≠ mo := hne k_dI k_mo (Nat.ne_of_beq_eq_false rfl)
              have h221 : f191 dI = some (.inl (cI G, 2, .inl gI)) := by rw [ef191, va_up_ne _ _ n222]; exact k_dI
              have n224 : dI ≠ dW := hneL k_dI k_dW (Nat.ne_of_beq_eq_false rfl)
              have h223 : f195 dI = some (.inl (cI G, 2, .inl gI)) := by rw [ef195, va_up_ne _ _ n224]; exact h221
              have n226 : dH ≠ mo := hne k_dH k_mo (Nat.ne_of_beq_eq_false rfl)
              have h225 : f191 dH = some (.inl (cI G, 2, .inl gH)) := by rw [ef191, va_up_ne _ _ n226]; exact k_dH
              have n228 : dH ≠ dW := hneL k_dH k_dW (Nat.ne_of_beq_eq_false rfl)
              have h227 : f195 dH = some (.inl (cI G, 2, .inl gH)) := by rw [ef195, va_up_ne _ _ n228]; exact h225
              have n230 : dN ≠ mo := hne k_dN k_mo (Nat.ne_of_beq_eq_false rfl)
              have h229 : f191 dN = some (.inl (cI G, 2, .inl gN)) := by rw [ef191, va_up_ne _ _ n230]; exact k_dN
              have n232 : dN ≠ dW := hneL k_dN k_dW (Nat.ne_of_beq_eq_false rfl)
              have h231 : f195 dN = some (.inl (cI G, 2, .inl gN)) := by rw [ef195, va_up_ne _ _ n232]; exact h229
              have n234 : dK ≠ mo := hne k_dK k_mo (Nat.ne_of_beq_eq_false rfl)
              have h233 : f191 dK = some (.inl (cI G, 2048, .inl gK)) := by rw [ef191, va_up_ne _ _ n234]; exact k_dK
              have n236 : dK ≠ dW := hneL k_dK k_dW (Nat.ne_of_beq_eq_false rfl)
              have h235 : f195 dK = some (.inl (cI G, 2048, .inl gK)) := by rw [ef195, va_up_ne _ _ n236]; exact h233
              have n238 : dJ ≠ mo := hne k_dJ k_mo (Nat.ne_of_beq_eq_false rfl)
              have h237 : f191 dJ = some (.inl (cI G, 2048, .inl gJ)) := by rw [ef191, va_up_ne _ _ n238]; exact k_dJ
              have n240 : dJ ≠ dW := hneL k_dJ k_dW (Nat.ne_of_beq_eq_false rfl)
              have h239 : f195 dJ = some (.inl (cI G, 2048, .inl gJ)) := by rw [ef195, va_up_ne _ _ n240]; exact h237
              have n242 : dU ≠ mo := hne k_dU k_mo (Nat.ne_of_beq_eq_false rfl)
              have h241 : f191 dU = some (.inl (cI G, 2048, .inl gU)) := by rw [ef191, va_up_ne _ _ n242]; exact k_dU
              have n244 : dU ≠ dW := hneL k_dU k_dW (Nat.ne_of_beq_eq_false rfl)
              have h243 : f195 dU = some (.inl (cI G, 2048, .inl gU)) := by rw [ef195, va_up_ne _ _ n244]; exact h241
              have n246 : dO ≠ mo := hne k_dO k_mo (Nat.ne_of_beq_eq_false rfl)
              have h245 : f191 dO = some (.inl (cI G, 2048, .inl gO)) := by rw [ef191, va_up_ne _ _ n246]; exact k_dO
              have n248 : dO ≠ dW := hneL k_dO k_dW (Nat.ne_of_beq_eq_false rfl)
              have h247 : f195 dO = some (.inl (cI G, 2048, .inl gO)) := by rw [ef195, va_up_ne _ _ n248]; exact h245
              have n250 : dA ≠ mo := hne k_dA k_mo (Nat.ne_of_beq_eq_false rfl)
              have h249 : f191 dA = some (.inl (cI G, 12, .inl (jn ga0 ga1))) := by rw [ef191, va_up_ne _ _ n250]; exact k_dA
              have h251 : f195 dA = some (.inl (cI G, 12, .inl (jn ga0 ga1))) := by rw [ef195, va_up_ne _ _ (Ne.symm nd_dW_dA)]; exact h249
              have n253 : dM ≠ mo := hne k_dM k_mo (Nat.ne_of_beq_eq_false rfl)
              have h252 : f191 dM = some (.inl (cI G, 2, .inl (mA2 mg0 mg1))) := by rw [ef191, va_up_ne _ _ n253]; exact k_dM
              have n255 : dM ≠ dW := hneL k_dM k_dW (Nat.ne_of_beq_eq_false rfl)
              have h254 : f195 dM = some (.inl (cI G, 2, .inl (mA2 mg0 mg1))) := by rw [ef195, va_up_ne _ _ n255]; exact h252
              have n257 : dF ≠ mo := hne k_dF k_mo (Nat.ne_of_beq_eq_false rfl)
              have h256 : f191 dF = some (.inl (cI G, 61, .inl (nf sa))) := by rw [ef191, va_up_ne _ _ n257]; exact k_dF
              have n259 : dF ≠ dW := hneL k_dF k_dW (Nat.ne_of_beq_eq_false rfl)
              have h258 : f195 dF = some (.inl (cI G, 61, .inl (nf sa))) := by rw [ef195, va_up_ne _ _ n259]; exact h256
              have n261 : dP ≠ mo := hne k_dP k_mo (Nat.ne_of_beq_eq_false rfl)
              have h260 : f191 dP = some (.inl (cI G, 240, .inl (nf pk))) := by rw [ef191, va_up_ne _ _ n261]; exact k_dP
              have n263 : dP ≠ dW := hneL k_dP k_dW (Nat.ne_of_beq_eq_false rfl)
              have h262 : f195 dP = some (.inl (cI G, 240, .inl (nf pk))) := by rw [ef195, va_up_ne _ _ n263]; exact h260
              have n265 : dE ≠ mo := hne k_dE k_mo (Nat.ne_of_beq_eq_false rfl)
              have h264 : f191 dE = some (.inl (cZ G, 240, .inl gh)) := by rw [ef191, va_up_ne _ _ n265]; exact k_dE
              have n267 : dE ≠ dW := hneL k_dE k_dW (Nat.ne_of_beq_eq_false rfl)
              have h266 : f195 dE = some (.inl (cZ G, 240, .inl gh)) := by rw [ef195, va_up_ne _ _ n267]; exact h264
              have n269 : dX ≠ mo := hne k_dX k_mo (Nat.ne_of_beq_eq_false rfl)
              have h268 : f191 dX = some (.inl (cI G, 3, .inl (nf fl))) := by rw [ef191, va_up_ne _ _ n269]; exact k_dX
              have n271 : dX ≠ dW := hneL k_dX k_dW (Nat.ne_of_beq_eq_false rfl)
              have h270 : f195 dX = some (.inl (cI G, 3, .inl (nf fl))) := by rw [ef195, va_up_ne _ _ n271]; exact h268
              have n273 : dY ≠ mo := hne k_dY k_mo (Nat.ne_of_beq_eq_false rfl)
              have h272 : f191 dY = some (.inl (cI G, 3, .inl gl)) := by rw [ef191, va_up_ne _ _ n273]; exact k_dY
              have n275 : dY ≠ dW := hneL k_dY k_dW (Nat.ne_of_beq_eq_false rfl)
              have h274 : f195 dY = some (.inl (cI G, 3, .inl gl)) := by rw [ef195, va_up_ne _ _ n275]; exact h272
              have n277 : dG ≠ mo := hne k_dG k_mo (Nat.ne_of_beq_eq_false rfl)
              have h276 : f191 dG = some (.inl (cI G, 60, .inl (nf gv))) := by rw [ef191, va_up_ne _ _ n277]; exact k_dG
              have n279 : dG ≠ dW := hneL k_dG k_dW (Nat.ne_of_beq_eq_false rfl)
              have h278 : f195 dG = some (.inl (cI G, 60, .inl (nf gv))) := by rw [ef195, va_up_ne _ _ n279]; exact h276
              exact hp_iret (v := (gw1 ko)) B0 hw hS hr ⟨Nat.le_of_ble_eq_true rfl, Nat.le_of_ble_eq_true rfl⟩ dX5_wish_73 (⟨Or.inl ⟨spc_0 ⟨(Or.inr rfl), b188⟩ hv8, (by rw [selE_1 rfl, nI_clamp (show ko < 2 ^ 31 by omega)]), ⟨h197, hND, ⟨_, _, _, _, _, _, _, _, _, _, _, _, _, h200, h203, h207, h211, h215, h219, h223, h227, h231, h235, h239, h243, h247, hHd9, (hMn.mono hMn9 (by omega))⟩, (by rw [updE_0 (show ¬ ((1 : Int32) = 0) by decide), updE_1 (show ((1 : Int32) = 1) from rfl), nI_clamp (show ko < 2 ^ 31 by omega)]; exact h196), h251, h254, h258, h262, h266, h270, h274, h278, hSA, hB9, hfl9⟩⟩, ((show hEq [mo, dW, dA, dQ, dM, dS, dL, dR, dT, dZ, dI, dH, dN, dK, dJ, dU, dO, dF, dP, dE, dX, dY, dG] f f191 from (by rw [ef191]; exact hEq.up List.mem_cons_self)).tr (show hEq [mo, dW, dA, dQ, dM, dS, dL, dR, dT, dZ, dI, dH, dN, dK, dJ, dU, dO, dF, dP, dE, dX, dY, dG] f191 f195 from (by rw [ef195]; exact hEq.up (List.mem_cons_of_mem _ List.mem_cons_self))))⟩)
            · subst ev9
              refine W.eq (g2 := F0 m 26 ls [.int 0, .ref mo]) rfl ?_
              refine lv_if_eq (tgt := 33) hx hb dX5_wish_26 (by decide) (fun _ => ?_) (fun c9 => absurd (by decide) c9)
              refine lv_iconst (v := 2) hx hb dX5_wish_33 (by decide) ?_
              refine hp_put (fs1 := [.int 2, .ref dW, .ref dA, .ref dQ, .ref dM, .ref dS, .ref dL, .ref dR, .ref dT, .ref dZ, .ref dI, .ref dH, .ref dN, .ref dK, .ref dJ, .ref dU, .ref dO, .int (nI n), .int (nI a), .ref dF, .ref dP, .ref dE, .ref dX, .ref dY, .int (nI x), .int (nI cg), .ref dG]) (ty := .int) B0 hw hS 5 rfl in_X5 tyX5 tyX5_ok nmX5 k_mo 0 (by decide) qF_X5_77 rfl (by decide +kernel) rfl rfl (Nat.le_of_ble_eq_true rfl) rfl dX5_wish_34 (fun H locs f280 ef280 hw hS => ?_)
              have h281 : f280 mo = some (.inr (5, [.int 2, .ref dW, .ref dA, .ref dQ, .ref dM, .ref dS, .ref dL, .ref dR, .ref dT, .ref dZ, .ref dI, .ref dH, .ref dN, .ref dK, .ref dJ, .ref dU, .ref dO, .int (nI n), .int (nI a), .ref dF, .ref dP, .ref dE, .ref dX, .ref dY, .int (nI x), .int (nI cg), .ref dG])) := by rw [ef280, va_up_self]
              refine lv_aload_n hx hb dX5_wish_37 rfl (lv_at hl9 0 rfl) ?_
              refine hp_get B0 hw 5 rfl in_X5 h281 0 (by decide) qF_X5_77 rfl dX5_wish_38 ?_
              refine lv_if_le (tgt := 46) hx hb dX5_wish_41 (by decide) (fun c9 => absurd c9 (by decide)) (fun _ => ?_)
              refine lv_iconst (v := 0) hx hb dX5_wish_44 (by decide) ?_
              have hs9 : spc (sE (1 : Int32) ∧ sO o) (sV xv) = 2 := spc_2 ⟨(Or.inr rfl), b188⟩ (fun h9 => b190 (by simp only [jlt, jle, tq0, tq1, tq2, tq3, tq4, tq5, tq6, tq9, tq50, tq60, tq1023, tqm1]; exact ⟨by omega, by omega⟩))
              have n283 : dQ ≠ mo := hne k_dQ k_mo (Nat.ne_of_beq_eq_false rfl)
              have h282 : f280 dQ = some (.inl (cI G, 12, .inl gQ)) := by rw [ef280, va_up_ne _ _ n283]; exact k_dQ
              have n285 : dS ≠ mo := hne k_dS k_mo (Nat.ne_of_beq_eq_false rfl)
              have h284 : f280 dS = some (.inl (cI G, 2, .inl gS)) := by rw [ef280, va_up_ne _ _ n285]; exact k_dS
              have n287 : dL ≠ mo := hne k_dL k_mo (Nat.ne_of_beq_eq_false rfl)
              have h286 : f280 dL = some (.inl (cI G, 2, .inl gL)) := by rw [ef280, va_up_ne _ _ n287]; exact k_dL
              have n289 : dR ≠ mo := hne k_dR k_mo (Nat.ne_of_beq_eq_false rfl)
              have h288 : f280 dR = some (.inl (cI G, 2, .inl gR)) := by rw [ef280, va_up_ne _ _ n289]; exact k_dR
              have n291 : dT ≠ mo := hne k_dT k_mo (Nat.ne_of_beq_eq_false rfl)
              have h290 : f280 dT = some (.inl (cI G, 2, .inl gT)) := by rw [ef280, va_up_ne _ _ n291]; exact k_dT
              have n293 : dZ ≠ mo := hne k_dZ k_mo (Nat.ne_of_beq_eq_false rfl)
              have h292 : f280 dZ = some (.inl (cZ G, 2, .inl gZ)) := by rw [ef280, va_up_ne _ _ n293]; exact k_dZ
              have n295 : dI ≠ mo := hne k_dI k_mo (Nat.ne_of_beq_eq_false rfl)
              have h294 : f280 dI = some (.inl (cI G, 2, .inl gI)) := by rw [ef280, va_up_ne _ _ n295]; exact k_dI
              have n297 : dH ≠ mo := hne k_dH k_mo (Nat.ne_of_beq_eq_false rfl)
              have h296 : f280 dH = some (.inl (cI G, 2, .inl gH)) := by rw [ef280, va_up_ne _ _ n297]; exact k_dH
              have n299 : dN ≠ mo := hne k_dN k_mo (Nat.ne_of_beq_eq_false rfl)
              have h298 : f280 dN = some (.inl (cI G, 2, .inl gN)) := by rw [ef280, va_up_ne _ _ n299]; exact k_dN
              have n301 : dK ≠ mo := hne k_dK k_mo (Nat.ne_of_beq_eq_false rfl)
              have h300 : f280 dK = some (.inl (cI G, 2048, .inl gK)) := by rw [ef280, va_up_ne _ _ n301]; exact k_dK
              have n303 : dJ ≠ mo := hne k_dJ k_mo (Nat.ne_of_beq_eq_false rfl)
              have h302 : f280 dJ = some (.inl (cI G, 2048, .inl gJ)) := by rw [ef280, va_up_ne _ _ n303]; exact k_dJ
              have n305 : dU ≠ mo := hne k_dU k_mo (Nat.ne_of_beq_eq_false rfl)
              have h304 : f280 dU = some (.inl (cI G, 2048, .inl gU)) := by rw [ef280, va_up_ne _ _ n305]; exact k_dU
              have n307 : dO ≠ mo := hne k_dO k_mo (Nat.ne_of_beq_eq_false rfl)
              have h306 : f280 dO = some (.inl (cI G, 2048, .inl gO)) := by rw [ef280, va_up_ne _ _ n307]; exact k_dO
              have n309 : dW ≠ mo := hne k_dW k_mo (Nat.ne_of_beq_eq_false rfl)
              have h308 : f280 dW = some (.inl (cI G, 12, .inl (jn gw0 gw1))) := by rw [ef280, va_up_ne _ _ n309]; exact k_dW
              have n311 : dA ≠ mo := hne k_dA k_mo (Nat.ne_of_beq_eq_false rfl)
              have h310 : f280 dA = some (.inl (cI G, 12, .inl (jn ga0 ga1))) := by rw [ef280, va_up_ne _ _ n311]; exact k_dA
              have n313 : dM ≠ mo := hne k_dM k_mo (Nat.ne_of_beq_eq_false rfl)
              have h312 : f280 dM = some (.inl (cI G, 2, .inl (mA2 mg0 mg1))) := by rw [ef280, va_up_ne _ _ n313]; exact k_dM
              have n315 : dF ≠ mo := hne k_dF k_mo (Nat.ne_of_beq_eq_false rfl)
              have h314 : f280 dF = some (.inl (cI G, 61, .inl (nf sa))) := by rw [ef280, va_up_ne _ _ n315]; exact k_dF
              have n317 : dP ≠ mo := hne k_dP k_mo (Nat.ne_of_beq_eq_false rfl)
              have h316 : f280 dP = some (.inl (cI G, 240, .inl (nf pk))) := by rw [ef280, va_up_ne _ _ n317]; exact k_dP
              have n319 : dE ≠ mo := hne k_dE k_mo (Nat.ne_of_beq_eq_false rfl)
              have h318 : f280 dE = some (.inl (cZ G, 240, .inl gh)) := by rw [ef280, va_up_ne _ _ n319]; exact k_dE
              have n321 : dX ≠ mo := hne k_dX k_mo (Nat.ne_of_beq_eq_false rfl)
              have h320 : f280 dX = some (.inl (cI G, 3, .inl (nf fl))) := by rw [ef280, va_up_ne _ _ n321]; exact k_dX
              have n323 : dY ≠ mo := hne k_dY k_mo (Nat.ne_of_beq_eq_false rfl)
              have h322 : f280 dY = some (.inl (cI G, 3, .inl gl)) := by rw [ef280, va_up_ne _ _ n323]; exact k_dY
              have n325 : dG ≠ mo := hne k_dG k_mo (Nat.ne_of_beq_eq_false rfl)
              have h324 : f280 dG = some (.inl (cI G, 60, .inl (nf gv))) := by rw [ef280, va_up_ne _ _ n325]; exact k_dG
              exact hp_iret (v := 0) B0 hw hS hr ⟨Nat.le_of_ble_eq_true rfl, Nat.le_of_ble_eq_true rfl⟩ dX5_wish_45 (⟨Or.inr ⟨(by rw [hs9]; decide), ⟨_, rfl⟩, ⟨(by rw [hs9]; exact h281), hND, ⟨_, _, _, _, _, _, _, _, _, _, _, _, _, h282, h284, h286, h288, h290, h292, h294, h296, h298, h300, h302, h304, h306, hHd9, (hMn.mono hMn9 (by omega))⟩, h308, h310, h312, h314, h316, h318, h320, h322, h324, hSA, hB9, hfl9⟩⟩, (show hEq [mo, dW, dA, dQ, dM, dS, dL, dR, dT, dZ, dI, dH, dN, dK, dJ, dU, dO, dF, dP, dE, dX, dY, dG] f f280 from (by rw [ef280]; exact hEq.up List.mem_cons_self))⟩)
        · subst ev9
          refine W.eq (g2 := F0 m 12 ls [.int 0, .ref mo]) rfl ?_
          refine lv_if_ne (tgt := 19) hx hb dX5_wish_12 (by decide) (fun c9 => absurd (by decide) c9) (fun _ => ?_)
          refine lv_iconst (v := 1) hx hb dX5_wish_15 (by decide) ?_
          refine lv_goto (tgt := 34) hx hb dX5_wish_16 (by decide) ?_
          refine hp_put (fs1 := [.int 1, .ref dW, .ref dA, .ref dQ, .ref dM, .ref dS, .ref dL, .ref dR, .ref dT, .ref dZ, .ref dI, .ref dH, .ref dN, .ref dK, .ref dJ, .ref dU, .ref dO, .int (nI n), .int (nI a), .ref dF, .ref dP, .ref dE, .ref dX, .ref dY, .int (nI x), .int (nI cg), .ref dG]) (ty := .int) B0 hw hS 5 rfl in_X5 tyX5 tyX5_ok nmX5 k_mo 0 (by decide) qF_X5_77 rfl (by decide +kernel) rfl rfl (Nat.le_of_ble_eq_true rfl) rfl dX5_wish_34 (fun H locs f326 ef326 hw hS => ?_)
          have h327 : f326 mo = some (.inr (5, [.int 1, .ref dW, .ref dA, .ref dQ, .ref dM, .ref dS, .ref dL, .ref dR, .ref dT, .ref dZ, .ref dI, .ref dH, .ref dN, .ref dK, .ref dJ, .ref dU, .ref dO, .int (nI n), .int (nI a), .ref dF, .ref dP, .ref dE, .ref dX, .ref dY, .int (nI x), .int (nI cg), .ref dG])) := by rw [ef326, va_up_self]
          refine lv_aload_n hx hb dX5_wish_37 rfl (lv_at hl9 0 rfl) ?_
          refine hp_get B0 hw 5 rfl in_X5 h327 0 (by decide) qF_X5_77 rfl dX5_wish_38 ?_
          refine lv_if_le (tgt := 46) hx hb dX5_wish_41 (by decide) (fun c9 => absurd c9 (by decide)) (fun _ => ?_)
          refine lv_iconst (v := 0) hx hb dX5_wish_44 (by decide) ?_
          have hs9 : spc (sE (1 : Int32) ∧ sO o) (sV xv) = 1 := spc_1 (fun h9 => b188 h9.2)
          have n329 : dQ ≠ mo := hne k_dQ k_mo (Nat.ne_of_beq_eq_false rfl)
          have h328 : f326 dQ = some (.inl (cI G, 12, .inl gQ)) := by rw [ef326, va_up_ne _ _ n329]; exact k_dQ
          have n331 : dS ≠ mo := hne k_dS k_mo (Nat.ne_of_beq_eq_false rfl)
          have h330 : f326 dS = some (.inl (cI G, 2, .inl gS)) := by rw [ef326, va_up_ne _ _ n331]; exact k_dS
          have n333 : dL ≠ mo := hne k_dL k_mo (Nat.ne_of_beq_eq_false rfl)
          have h332 : f326 dL = some (.inl (cI G, 2, .inl gL)) := by rw [ef326, va_up_ne _ _ n333]; exact k_dL
          have n335 : dR ≠ mo := hne k_dR k_mo (Nat.ne_of_beq_eq_false rfl)
          have h334 : f326 dR = some (.inl (cI G, 2, .inl gR)) := by rw [ef326, va_up_ne _ _ n335]; exact k_dR
          have n337 : dT ≠ mo := hne k_dT k_mo (Nat.ne_of_beq_eq_false rfl)
          have h336 : f326 dT = some (.inl (cI G, 2, .inl gT)) := by rw [ef326, va_up_ne _ _ n337]; exact k_dT
          have n339 : dZ ≠ mo := hne k_dZ k_mo (Nat.ne_of_beq_eq_false rfl)
          have h338 : f326 dZ = some (.inl (cZ G, 2, .inl gZ)) := by rw [ef326, va_up_ne _ _ n339]; exact k_dZ
          have n341 : dI ≠ mo := hne k_dI k_mo (Nat.ne_of_beq_eq_false rfl)
          have h340 : f326 dI = some (.inl (cI G, 2, .inl gI)) := by rw [ef326, va_up_ne _ _ n341]; exact k_dI
          have n343 : dH ≠ mo := hne k_dH k_mo (Nat.ne_of_beq_eq_false rfl)
          have h342 : f326 dH = some (.inl (cI G, 2, .inl gH)) := by rw [ef326, va_up_ne _ _ n343]; exact k_dH
          have n345 : dN ≠ mo := hne k_dN k_mo (Nat.ne_of_beq_eq_false rfl)
          have h344 : f326 dN = some (.inl (cI G, 2, .inl gN)) := by rw [ef326, va_up_ne _ _ n345]; exact k_dN
          have n347 : dK ≠ mo := hne k_dK k_mo (Nat.ne_of_beq_eq_false rfl)
          have h346 : f326 dK = some (.inl (cI G, 2048, .inl gK)) := by rw [ef326, va_up_ne _ _ n347]; exact k_dK
          have n349 : dJ ≠ mo := hne k_dJ k_mo (Nat.ne_of_beq_eq_false rfl)
          have h348 : f326 dJ = some (.inl (cI G, 2048, .inl gJ)) := by rw [ef326, va_up_ne _ _ n349]; exact k_dJ
          have n351 : dU ≠ mo := hne k_dU k_mo (Nat.ne_of_beq_eq_false rfl)
          have h350 : f326 dU = some (.inl (cI G, 2048, .inl gU)) := by rw [ef326, va_up_ne _ _ n351]; exact k_dU
          have n353 : dO ≠ mo := hne k_dO k_mo (Nat.ne_of_beq_eq_false rfl)
          have h352 : f326 dO = some (.inl (cI G, 2048, .inl gO)) := by rw [ef326, va_up_ne _ _ n353]; exact k_dO
          have n355 : dW ≠ mo := hne k_dW k_mo (Nat.ne_of_beq_eq_false rfl)
          have h354 : f326 dW = some (.inl (cI G, 12, .inl (jn gw0 gw1))) := by rw [ef326, va_up_ne _ _ n355]; exact k_dW
          have n357 : dA ≠ mo := hne k_dA k_mo (Nat.ne_of_beq_eq_false rfl)
          have h356 : f326 dA = some (.inl (cI G, 12, .inl (jn ga0 ga1))) := by rw [ef326, va_up_ne _ _ n357]; exact k_dA
          have n359 : dM ≠ mo := hne k_dM k_mo (Nat.ne_of_beq_eq_false rfl)
          have h358 : f326 dM = some (.inl (cI G, 2, .inl (mA2 mg0 mg1))) := by rw [ef326, va_up_ne _ _ n359]; exact k_dM
          have n361 : dF ≠ mo := hne k_dF k_mo (Nat.ne_of_beq_eq_false rfl)
          have h360 : f326 dF = some (.inl (cI G, 61, .inl (nf sa))) := by rw [ef326, va_up_ne _ _ n361]; exact k_dF
          have n363 : dP ≠ mo := hne k_dP k_mo (Nat.ne_of_beq_eq_false rfl)
          have h362 : f326 dP = some (.inl (cI G, 240, .inl (nf pk))) := by rw [ef326, va_up_ne _ _ n363]; exact k_dP
          have n365 : dE ≠ mo := hne k_dE k_mo (Nat.ne_of_beq_eq_false rfl)
          have h364 : f326 dE = some (.inl (cZ G, 240, .inl gh)) := by rw [ef326, va_up_ne _ _ n365]; exact k_dE
          have n367 : dX ≠ mo := hne k_dX k_mo (Nat.ne_of_beq_eq_false rfl)
          have h366 : f326 dX = some (.inl (cI G, 3, .inl (nf fl))) := by rw [ef326, va_up_ne _ _ n367]; exact k_dX
          have n369 : dY ≠ mo := hne k_dY k_mo (Nat.ne_of_beq_eq_false rfl)
          have h368 : f326 dY = some (.inl (cI G, 3, .inl gl)) := by rw [ef326, va_up_ne _ _ n369]; exact k_dY
          have n371 : dG ≠ mo := hne k_dG k_mo (Nat.ne_of_beq_eq_false rfl)
          have h370 : f326 dG = some (.inl (cI G, 60, .inl (nf gv))) := by rw [ef326, va_up_ne _ _ n371]; exact k_dG
          exact hp_iret (v := 0) B0 hw hS hr ⟨Nat.le_of_ble_eq_true rfl, Nat.le_of_ble_eq_true rfl⟩ dX5_wish_45 (⟨Or.inr ⟨(by rw [hs9]; decide), ⟨_, rfl⟩, ⟨(by rw [hs9]; exact h327), hND, ⟨_, _, _, _, _, _, _, _, _, _, _, _, _, h328, h330, h332, h334, h336, h338, h340, h342, h344, h346, h348, h350, h352, hHd9, (hMn.mono hMn9 (by omega))⟩, h354, h356, h358, h360, h362, h364, h366, h368, h370, hSA, hB9, hfl9⟩⟩, (show hEq [mo, dW, dA, dQ, dM, dS, dL, dR, dT, dZ, dI, dH, dN, dK, dJ, dU, dO, dF, dP, dE, dX, dY, dG] f f326 from (by rw [ef326]; exact hEq.up List.mem_cons_self))⟩)
    · subst ev9
      refine W.eq (g2 := F0 m 5 ls [.int 0, .ref mo]) rfl ?_
      refine lv_if_eq (tgt := 15) hx hb dX5_wish_5 (by decide) (fun _ => ?_) (fun c9 => absurd (by decide) c9)
      refine lv_iconst (v := 1) hx hb dX5_wish_15 (by decide) ?_
      refine lv_goto (tgt := 34) hx hb dX5_wish_16 (by decide) ?_
      refine hp_put (fs1 := [.int 1, .ref dW, .ref dA, .ref dQ, .ref dM, .ref dS, .ref dL, .ref dR, .ref dT, .ref dZ, .ref dI, .ref dH, .ref dN, .ref dK, .ref dJ, .ref dU, .ref dO, .int (nI n), .int (nI a), .ref dF, .ref dP, .ref dE, .ref dX, .ref dY, .int (nI x), .int (nI cg), .ref dG]) (ty := .int) B0 hw hS 5 rfl in_X5 tyX5 tyX5_ok nmX5 k_mo 0 (by decide) qF_X5_77 rfl (by decide +kernel) rfl rfl (Nat.le_of_ble_eq_true rfl) rfl dX5_wish_34 (fun H locs f372 ef372 hw hS => ?_)
      have h373 : f372 mo = some (.inr (5, [.int 1, .ref dW, .ref dA, .ref dQ, .ref dM, .ref dS, .ref dL, .ref dR, .ref dT, .ref dZ, .ref dI, .ref dH, .ref dN, .ref dK, .ref dJ, .ref dU, .ref dO, .int (nI n), .int (nI a), .ref dF, .ref dP, .ref dE, .ref dX, .ref dY, .int (nI x), .int (nI cg), .ref dG])) := by rw [ef372, va_up_self]
      refine lv_aload_n hx hb dX5_wish_37 rfl (lv_at hl9 0 rfl) ?_
      refine hp_get B0 hw 5 rfl in_X5 h373 0 (by decide) qF_X5_77 rfl dX5_wish_38 ?_
      refine lv_if_le (tgt := 46) hx hb dX5_wish_41 (by decide) (fun c9 => absurd c9 (by decide)) (fun _ => ?_)
      refine lv_iconst (v := 0) hx hb dX5_wish_44 (by decide) ?_
      have hs9 : spc (sE i ∧ sO o) (sV xv) = 1 := spc_1 (fun h9 => hnE h9.1)
      have n375 : dQ ≠ mo := hne k_dQ k_mo (Nat.ne_of_beq_eq_false rfl)
      have h374 : f372 dQ = some (.inl (cI G, 12, .inl gQ)) := by rw [ef372, va_up_ne _ _ n375]; exact k_dQ
      have n377 : dS ≠ mo := hne k_dS k_mo (Nat.ne_of_beq_eq_false rfl)
      have h376 : f372 dS = some (.inl (cI G, 2, .inl gS)) := by rw [ef372, va_up_ne _ _ n377]; exact k_dS
      have n379 : dL ≠ mo := hne k_dL k_mo (Nat.ne_of_beq_eq_false rfl)
      have h378 : f372 dL = some (.inl (cI G, 2, .inl gL)) := by rw [ef372, va_up_ne _ _ n379]; exact k_dL
      have n381 : dR ≠ mo := hne k_dR k_mo (Nat.ne_of_beq_eq_false rfl)
      have h380 : f372 dR = some (.inl (cI G, 2, .inl gR)) := by rw [ef372, va_up_ne _ _ n381]; exact k_dR
      have n383 : dT ≠ mo := hne k_dT k_mo (Nat.ne_of_beq_eq_false rfl)
      have h382 : f372 dT = some (.inl (cI G, 2, .inl gT)) := by rw [ef372, va_up_ne _ _ n383]; exact k_dT
      have n385 : dZ ≠ mo := hne k_dZ k_mo (Nat.ne_of_beq_eq_false rfl)
      have h384 : f372 dZ = some (.inl (cZ G, 2, .inl gZ)) := by rw [ef372, va_up_ne _ _ n385]; exact k_dZ
      have n387 : dI ≠ mo := hne k_dI k_mo (Nat.ne_of_beq_eq_false rfl)
      have h386 : f372 dI = some (.inl (cI G, 2, .inl gI)) := by rw [ef372, va_up_ne _ _ n387]; exact k_dI
      have n389 : dH ≠ mo := hne k_dH k_mo (Nat.ne_of_beq_eq_false rfl)
      have h388 : f372 dH = some (.inl (cI G, 2, .inl gH)) := by rw [ef372, va_up_ne _ _ n389]; exact k_dH
      have n391 : dN ≠ mo := hne k_dN k_mo (Nat.ne_of_beq_eq_false rfl)
      have h390 : f372 dN = some (.inl (cI G, 2, .inl gN)) := by rw [ef372, va_up_ne _ _ n391]; exact k_dN
      have n393 : dK ≠ mo := hne k_dK k_mo (Nat.ne_of_beq_eq_false rfl)
      have h392 : f372 dK = some (.inl (cI G, 2048, .inl gK)) := by rw [ef372, va_up_ne _ _ n393]; exact k_dK
      have n395 : dJ ≠ mo := hne k_dJ k_mo (Nat.ne_of_beq_eq_false rfl)
      have h394 : f372 dJ = some (.inl (cI G, 2048, .inl gJ)) := by rw [ef372, va_up_ne _ _ n395]; exact k_dJ
      have n397 : dU ≠ mo := hne k_dU k_mo (Nat.ne_of_beq_eq_false rfl)
      have h396 : f372 dU = some (.inl (cI G, 2048, .inl gU)) := by rw [ef372, va_up_ne _ _ n397]; exact k_dU
      have n399 : dO ≠ mo := hne k_dO k_mo (Nat.ne_of_beq_eq_false rfl)
      have h398 : f372 dO = some (.inl (cI G, 2048, .inl gO)) := by rw [ef372, va_up_ne _ _ n399]; exact k_dO
      have n401 : dW ≠ mo := hne k_dW k_mo (Nat.ne_of_beq_eq_false rfl)
      have h400 : f372 dW = some (.inl (cI G, 12, .inl (jn gw0 gw1))) := by rw [ef372, va_up_ne _ _ n401]; exact k_dW
      have n403 : dA ≠ mo := hne k_dA k_mo (Nat.ne_of_beq_eq_false rfl)
      have h402 : f372 dA = some (.inl (cI G, 12, .inl (jn ga0 ga1))) := by rw [ef372, va_up_ne _ _ n403]; exact k_dA
      have n405 : dM ≠ mo := hne k_dM k_mo (Nat.ne_of_beq_eq_false rfl)
      have h404 : f372 dM = some (.inl (cI G, 2, .inl (mA2 mg0 mg1))) := by rw [ef372, va_up_ne _ _ n405]; exact k_dM
      have n407 : dF ≠ mo := hne k_dF k_mo (Nat.ne_of_beq_eq_false rfl)
      have h406 : f372 dF = some (.inl (cI G, 61, .inl (nf sa))) := by rw [ef372, va_up_ne _ _ n407]; exact k_dF
      have n409 : dP ≠ mo := hne k_dP k_mo (Nat.ne_of_beq_eq_false rfl)
      have h408 : f372 dP = some (.inl (cI G, 240, .inl (nf pk))) := by rw [ef372, va_up_ne _ _ n409]; exact k_dP
      have n411 : dE ≠ mo := hne k_dE k_mo (Nat.ne_of_beq_eq_false rfl)
      have h410 : f372 dE = some (.inl (cZ G, 240, .inl gh)) := by rw [ef372, va_up_ne _ _ n411]; exact k_dE
      have n413 : dX ≠ mo := hne k_dX k_mo (Nat.ne_of_beq_eq_false rfl)
      have h412 : f372 dX = some (.inl (cI G, 3, .inl (nf fl))) := by rw [ef372, va_up_ne _ _ n413]; exact k_dX
      have n415 : dY ≠ mo := hne k_dY k_mo (Nat.ne_of_beq_eq_false rfl)
      have h414 : f372 dY = some (.inl (cI G, 3, .inl gl)) := by rw [ef372, va_up_ne _ _ n415]; exact k_dY
      have n417 : dG ≠ mo := hne k_dG k_mo (Nat.ne_of_beq_eq_false rfl)
      have h416 : f372 dG = some (.inl (cI G, 60, .inl (nf gv))) := by rw [ef372, va_up_ne _ _ n417]; exact k_dG
      exact hp_iret (v := 0) B0 hw hS hr ⟨Nat.le_of_ble_eq_true rfl, Nat.le_of_ble_eq_true rfl⟩ dX5_wish_45 (⟨Or.inr ⟨(by rw [hs9]; decide), ⟨_, rfl⟩, ⟨(by rw [hs9]; exact h373), hND, ⟨_, _, _, _, _, _, _, _, _, _, _, _, _, h374, h376, h378, h380, h382, h384, h386, h388, h390, h392, h394, h396, h398, hHd9, (hMn.mono hMn9 (by omega))⟩, h400, h402, h404, h406, h408, h410, h412, h414, h416, hSA, hB9, hfl9⟩⟩, (show hEq [mo, dW, dA, dQ, dM, dS, dL, dR, dT, dZ, dI, dH, dN, dK, dJ, dU, dO, dF, dP, dE, dX, dY, dG] f f372 from (by rw [ef372]; exact hEq.up List.mem_cons_self))⟩)

set_option maxHeartbeats 4000000 in
set_option maxRecDepth 100000 in
theorem c_W5_allow {l : Launch} (hl : l.stackTraces = false) (G : hG) (f : hM) (mo dW dA dQ dM dS dL dR dT dZ dI dH dN dK dJ dU dO dF dP dE dX dY dG : Nat) (th : Int32) (B : Nat) (gw0 : Nat → Int32) (ga0 : Nat → Int32) (gw1 : Nat → Int32) (ga1 : Nat → Int32) (mg0 : Int32) (mg1 : Int32) (n : Nat) (a : Nat) (cg : Nat) (x : Nat) (sa : Nat → Nat) (pk : Nat → Nat) (fl : Nat → Nat) (gv : Nat → Nat) (gh : Nat → Int32) (gl : Nat → Int32) (hC : MW G f mo dW dA dQ dM dS dL dR dT dZ dI dH dN dK dJ dU dO dF dP dE dX dY dG th B gw0 ga0 gw1 ga1 mg0 mg1 n a cg x sa pk fl gv gh gl) (hBB : B + 100 < 100000) (i o xv : Int32) : CT l yX5_allow (.code yX5_allow cX5_allow 5 (some .int)) 2 42 0 0 G [.ref mo, .int i, .int o, .int xv] f (fun v f1 => ((spc (sE i ∧ sO o) (sA xv) = 0 ∧ v = some (.int (selE i ga0 ga1 o.toNatClampNeg)) ∧ MW G f1 mo dW dA dQ dM dS dL dR dT dZ dI dH dN dK dJ dU dO dF dP dE dX dY dG 0 B gw0 (updE (i = 0) ga0 o.toNatClampNeg xv) gw1 (updE (i = 1) ga1 o.toNatClampNeg xv) mg0 mg1 n a cg x sa pk fl gv gh gl) ∨ (¬ spc (sE i ∧ sO o) (sA xv) = 0 ∧ (∃ r9 : Int32, v = some (.int r9)) ∧ MW G f1 mo dW dA dQ dM dS dL dR dT dZ dI dH dN dK dJ dU dO dF dP dE dX dY dG (spc (sE i ∧ sO o) (sA xv)) B gw0 ga0 gw1 ga1 mg0 mg1 n a cg x sa pk fl gv gh gl)) ∧ hEq [mo, dW, dA, dQ, dM, dS, dL, dR, dT, dZ, dI, dH, dN, dK, dJ, dU, dO, dF, dP, dE, dX, dY, dG] f f1) (fun E f1 => False) := by
  refine hp_start hl (own := RX5) (by decide) rfl (Nat.le_of_ble_eq_true rfl) ?_
  intro p e s m args below meth c B0 hr hnm hout hw hS ls hl9
  have hx := B0.1
  have hb := B0.2.1
  have hl9 : lv_has ls 5 [(0, .ref mo), (1, .int i), (2, .int o), (3, .int xv)] := hl9
  obtain ⟨k_mo, hND, hLM, k_dW, k_dA, k_dM, k_dF, k_dP, k_dE, k_dX, k_dY, k_dG, hSA, hB9, hfl9⟩ := id hC
  obtain ⟨nd_dW_dA, nd_dW_dQ, nd_dA_dQ, nd_dM_dS, nd_dM_dL, nd_dM_dR, nd_dM_dT, nd_dM_dZ, nd_dM_dI, nd_dM_dH, nd_dM_dN, nd_dS_dL, nd_dS_dR, nd_dS_dT, nd_dS_dZ, nd_dS_dI, nd_dS_dH, nd_dS_dN, nd_dL_dR, nd_dL_dT, nd_dL_dZ, nd_dL_dI, nd_dL_dH, nd_dL_dN, nd_dR_dT, nd_dR_dZ, nd_dR_dI, nd_dR_dH, nd_dR_dN, nd_dT_dZ, nd_dT_dI, nd_dT_dH, nd_dT_dN, nd_dZ_dI, nd_dZ_dH, nd_dZ_dN, nd_dI_dH, nd_dI_dN, nd_dH_dN, nd_dK_dJ, nd_dK_dU, nd_dK_dO, nd_dJ_dU, nd_dJ_dO, nd_dU_dO, nd_dP_dE, nd_dX_dY⟩ := id hND
  obtain ⟨gQ, gS, gL, gR, gT, gZ, gI, gH, gN, gK, gJ, gU, gO, k_dQ, k_dS, k_dL, k_dR, k_dT, k_dZ, k_dI, k_dH, k_dN, k_dK, k_dJ, k_dU, k_dO, hHd9, hMn9⟩ := id hLM
  refine lv_aload_n hx hb dX5_allow_0 rfl (lv_at hl9 0 rfl) ?_
  refine lv_iload_n hx hb dX5_allow_1 rfl (lv_at hl9 1 rfl) ?_
  refine hp_S (As := [.int i]) (rest := [.ref mo]) B0 hw hS (c_X5_isEnd hl G f i) mS_X5_isEnd qM_X5_85 rfl rfl hl9.1 (Nat.le_of_ble_eq_true rfl) ⟨⟨Nat.le_of_ble_eq_true rfl, Nat.le_of_ble_eq_true rfl⟩, Nat.le_of_ble_eq_true rfl, Nat.le_of_ble_eq_true rfl⟩ dX5_allow_2 (fun E ce q9 f1 H locs hPX hw hS hce hcv hcl => ?_) (fun v f1 H locs hP hw hS => ?_)
  · exact hPX.elim
  · obtain ⟨ef9, hv9⟩ := hP
    rw [ef9] at hw
    rcases hv9 with ⟨b9 | b9, ev9⟩ | ⟨hnE, ev9⟩
    · subst ev9
      subst b9
      refine W.eq (g2 := F0 m 5 ls [.int 1, .ref mo]) rfl ?_
      refine lv_if_eq (tgt := 15) hx hb dX5_allow_5 (by decide) (fun c9 => absurd c9 (by decide)) (fun _ => ?_)
      refine lv_iload_n hx hb dX5_allow_8 rfl (lv_at hl9 2 rfl) ?_
      refine hp_S (As := [.int o]) (rest := [.ref mo]) B0 hw hS (c_X5_isOption hl G f o) mS_X5_isOption qM_X5_89 rfl rfl hl9.1 (Nat.le_of_ble_eq_true rfl) ⟨⟨Nat.le_of_ble_eq_true rfl, Nat.le_of_ble_eq_true rfl⟩, Nat.le_of_ble_eq_true rfl, Nat.le_of_ble_eq_true rfl⟩ dX5_allow_9 (fun E ce q9 f2 H locs hPX hw hS hce hcv hcl => ?_) (fun v f2 H locs hP hw hS => ?_)
      · exact hPX.elim
      · obtain ⟨ef9, hv9⟩ := hP
        rw [ef9] at hw
        rcases hv9 with ⟨b3, ev9⟩ | ⟨b3, ev9⟩
        · subst ev9
          refine W.eq (g2 := F0 m 12 ls [.int 1, .ref mo]) rfl ?_
          refine lv_if_ne (tgt := 19) hx hb dX5_allow_12 (by decide) (fun _ => ?_) (fun c9 => absurd c9 (by decide))
          refine lv_iload_n hx hb dX5_allow_19 rfl (lv_at hl9 3 rfl) ?_
          refine lv_iconst (v := 0) hx hb dX5_allow_20 (by decide) ?_
          refine lv_sipush (v := 1023) hx hb dX5_allow_21 (by decide) ?_
          refine hp_S (As := [.int xv, .int 0, .int 1023]) (rest := [.ref mo]) B0 hw hS (c_X5_in hl G f xv 0 1023) mS_X5_in qM_X5_81 rfl rfl hl9.1 (Nat.le_of_ble_eq_true rfl) ⟨⟨Nat.le_of_ble_eq_true rfl, Nat.le_of_ble_eq_true rfl⟩, Nat.le_of_ble_eq_true rfl, Nat.le_of_ble_eq_true rfl⟩ dX5_allow_24 (fun E ce q9 f4 H locs hPX hw hS hce hcv hcl => ?_) (fun v f4 H locs hP hw hS => ?_)
          · exact hPX.elim
          · obtain ⟨ef9, hv9⟩ := hP
            rw [ef9] at hw
            rcases hv9 with ⟨b5, ev9⟩ | ⟨b5, ev9⟩
            · subst ev9
              refine W.eq (g2 := F0 m 27 ls [.int 1, .ref mo]) rfl ?_
              refine lv_if_eq (tgt := 34) hx hb dX5_allow_27 (by decide) (fun c9 => absurd c9 (by decide)) (fun _ => ?_)
              refine lv_iconst (v := 0) hx hb dX5_allow_30 (by decide) ?_
              refine lv_goto (tgt := 35) hx hb dX5_allow_31 (by decide) ?_
              refine hp_put (fs1 := [.int 0, .ref dW, .ref dA, .ref dQ, .ref dM, .ref dS, .ref dL, .ref dR, .ref dT, .ref dZ, .ref dI, .ref dH, .ref dN, .ref dK, .ref dJ, .ref dU, .ref dO, .int (nI n), .int (nI a), .ref dF, .ref dP, .ref dE, .ref dX, .ref dY, .int (nI x), .int (nI cg), .ref dG]) (ty := .int) B0 hw hS 5 rfl in_X5 tyX5 tyX5_ok nmX5 k_mo 0 (by decide) qF_X5_77 rfl (by decide +kernel) rfl rfl (Nat.le_of_ble_eq_true rfl) rfl dX5_allow_35 (fun H locs f6 ef6 hw hS => ?_)
              have h7 : f6 mo = some (.inr (5, [.int 0, .ref dW, .ref dA, .ref dQ, .ref dM, .ref dS, .ref dL, .ref dR, .ref dT, .ref dZ, .ref dI, .ref dH, .ref dN, .ref dK, .ref dJ, .ref dU, .ref dO, .int (nI n), .int (nI a), .ref dF, .ref dP, .ref dE, .ref dX, .ref dY, .int (nI x), .int (nI cg), .ref dG])) := by rw [ef6, va_up_self]
              refine lv_aload_n hx hb dX5_allow_38 rfl (lv_at hl9 0 rfl) ?_
              refine hp_get B0 hw 5 rfl in_X5 h7 0 (by decide) qF_X5_77 rfl dX5_allow_39 ?_
              refine lv_if_le (tgt := 47) hx hb dX5_allow_42 (by decide) (fun _ => ?_) (fun c9 => absurd (by decide) c9)
              obtain ⟨ko, hko, eo9⟩ := vp_in_of (vin6 b3) (by decide)
              subst eo9
              refine lv_aload_n hx hb dX5_allow_47 rfl (lv_at hl9 0 rfl) ?_
              refine hp_get B0 hw 5 rfl in_X5 h7 2 (by decide) qF_X5_13 rfl dX5_allow_48 ?_
              refine lv_bipush (v := 6) hx hb dX5_allow_51 (by decide) ?_
              refine lv_iload_n hx hb dX5_allow_53 rfl (lv_at hl9 1 rfl) ?_
              refine lv_imul hx hb dX5_allow_54 ?_
              refine hp_c (v := 0) (by decide) ?_
              refine lv_iload_n hx hb dX5_allow_55 rfl (lv_at hl9 2 rfl) ?_
              refine lv_iadd hx hb dX5_allow_56 ?_
              refine hp_c (v := (nI ko)) (Int32.zero_add _) ?_
              have n9 : dA ≠ mo := hne k_dA k_mo (Nat.ne_of_beq_eq_false rfl)
              have h8 : f6 dA = some (.inl (cI G, 12, .inl (jn ga0 ga1))) := by rw [ef6, va_up_ne _ _ n9]; exact k_dA
              refine hp_iald B0 hw h8 (vp_in_nI (show ko < 12 by omega) (by decide)) dX5_allow_57 ?_
              refine hp_c (v := (ga0 ko)) (jn_at0 hko) ?_
              refine lv_istore (lv' := [(4, .int (ga0 ko)), (0, .ref mo), (1, .int 0), (2, .int (nI ko)), (3, .int xv)]) hx hb dX5_allow_58 hl9 (by decide) rfl (fun ls hl9 => ?_)
              refine lv_aload_n hx hb dX5_allow_60 rfl (lv_at hl9 1 rfl) ?_
              refine hp_get B0 hw 5 rfl in_X5 h7 2 (by decide) qF_X5_13 rfl dX5_allow_61 ?_
              refine lv_bipush (v := 6) hx hb dX5_allow_64 (by decide) ?_
              refine lv_iload_n hx hb dX5_allow_66 rfl (lv_at hl9 2 rfl) ?_
              refine lv_imul hx hb dX5_allow_67 ?_
              refine hp_c (v := 0) (by decide) ?_
              refine lv_iload_n hx hb dX5_allow_68 rfl (lv_at hl9 3 rfl) ?_
              refine lv_iadd hx hb dX5_allow_69 ?_
              refine hp_c (v := (nI ko)) (Int32.zero_add _) ?_
              refine lv_iload_n hx hb dX5_allow_70 rfl (lv_at hl9 4 rfl) ?_
              refine hp_iast B0 hw hS h8 (vp_in_nI (show ko < 12 by omega) (by decide)) dX5_allow_71 (fun H locs f10 ef10 hw hS => ?_)
              rw [show (upd (jn ga0 ga1) ((nI ko) : Int32).toNatClampNeg xv : Nat → Int32) = (jn (upd ga0 ko xv) ga1) from jn_up0 hko _] at ef10
              have h11 : f10 dA = some (.inl (cI G, 12, .inl (jn (upd ga0 ko xv) ga1))) := by rw [ef10, va_up_self]
              refine lv_iload hx hb dX5_allow_72 (lv_at hl9 0 rfl) ?_
              have hv8 : sA xv := (by have h1 := b5; simp only [jlt, jle, tq0, tq1, tq2, tq3, tq4, tq5, tq6, tq9, tq50, tq60, tq1023, tqm1] at h1; exact ⟨by omega, by omega⟩)
              have h12 : f10 mo = some (.inr (5, [.int 0, .ref dW, .ref dA, .ref dQ, .ref dM, .ref dS, .ref dL, .ref dR, .ref dT, .ref dZ, .ref dI, .ref dH, .ref dN, .ref dK, .ref dJ, .ref dU, .ref dO, .int (nI n), .int (nI a), .ref dF, .ref dP, .ref dE, .ref dX, .ref dY, .int (nI x), .int (nI cg), .ref dG])) := by rw [ef10, va_up_ne _ _ (Ne.symm n9)]; exact h7
              have n14 : dQ ≠ mo := hne k_dQ k_mo (Nat.ne_of_beq_eq_false rfl)
              have h13 : f6 dQ = some (.inl (cI G, 12, .inl gQ)) := by rw [ef6, va_up_ne _ _ n14]; exact k_dQ
              have h15 : f10 dQ = some (.inl (cI G, 12, .inl gQ)) := by rw [ef10, va_up_ne _ _ (Ne.symm nd_dA_dQ)]; exact h13
              have n17 : dS ≠ mo := hne k_dS k_mo (Nat.ne_of_beq_eq_false rfl)
              have h16 : f6 dS = some (.inl (cI G, 2, .inl gS)) := by rw [ef6, va_up_ne _ _ n17]; exact k_dS
              have n19 : dS ≠ dA := hneL k_dS k_dA (Nat.ne_of_beq_eq_false rfl)
              have h18 : f10 dS = some (.inl (cI G, 2, .inl gS)) := by rw [ef10, va_up_ne _ _ n19]; exact h16
              have n21 : dL ≠ mo := hne k_dL k_mo (Nat.ne_of_beq_eq_false rfl)
              have h20 : f6 dL = some (.inl (cI G, 2, .inl gL)) := by rw [ef6, va_up_ne _ _ n21]; exact k_dL
              have n23 : dL ≠ dA := hneL k_dL k_dA (Nat.ne_of_beq_eq_false rfl)
              have h22 : f10 dL = some (.inl (cI G, 2, .inl gL)) := by rw [ef10, va_up_ne _ _ n23]; exact h20
              have n25 : dR ≠ mo := hne k_dR k_mo (Nat.ne_of_beq_eq_false rfl)
              have h24 : f6 dR = some (.inl (cI G, 2, .inl gR)) := by rw [ef6, va_up_ne _ _ n25]; exact k_dR
              have n27 : dR ≠ dA := hneL k_dR k_dA (Nat.ne_of_beq_eq_false rfl)
              have h26 : f10 dR = some (.inl (cI G, 2, .inl gR)) := by rw [ef10, va_up_ne _ _ n27]; exact h24
              have n29 : dT ≠ mo := hne k_dT k_mo (Nat.ne_of_beq_eq_false rfl)
              have h28 : f6 dT = some (.inl (cI G, 2, .inl gT)) := by rw [ef6, va_up_ne _ _ n29]; exact k_dT
              have n31 : dT ≠ dA := hneL k_dT k_dA (Nat.ne_of_beq_eq_false rfl)
              have h30 : f10 dT = some (.inl (cI G, 2, .inl gT)) := by rw [ef10, va_up_ne _ _ n31]; exact h28
              have n33 : dZ ≠ mo := hne k_dZ k_mo (Nat.ne_of_beq_eq_false rfl)
              have h32 : f6 dZ = some (.inl (cZ G, 2, .inl gZ)) := by rw [ef6, va_up_ne _ _ n33]; exact k_dZ
              have n35 : dZ ≠ dA := hneL k_dZ k_dA (Nat.ne_of_beq_eq_false rfl)
              have h34 : f10 dZ = some (.inl (cZ G, 2, .inl gZ)) := by rw [ef10, va_up_ne _ _ n35]; exact h32
              have n37 : dI ≠ mo := hne k_dI k_mo (Nat.ne_of_beq_eq_false rfl)
              have h36 : f6 dI = some (.inl (cI G, 2, .inl gI)) := by rw [ef6, va_up_ne _ _ n37]; exact k_dI
              have n39 : dI ≠ dA := hneL k_dI k_dA (Nat.ne_of_beq_eq_false rfl)
              have h38 : f10 dI = some (.inl (cI G, 2, .inl gI)) := by rw [ef10, va_up_ne _ _ n39]; exact h36
              have n41 : dH ≠ mo := hne k_dH k_mo (Nat.ne_of_beq_eq_false rfl)
              have h40 : f6 dH = some (.inl (cI G, 2, .inl gH)) := by rw [ef6, va_up_ne _ _ n41]; exact k_dH
              have n43 : dH ≠ dA := hneL k_dH k_dA (Nat.ne_of_beq_eq_false rfl)
              have h42 : f10 dH = some (.inl (cI G, 2, .inl gH)) := by rw [ef10, va_up_ne _ _ n43]; exact h40
              have n45 : dN ≠ mo := hne k_dN k_mo (Nat.ne_of_beq_eq_false rfl)
              have h44 : f6 dN = some (.inl (cI G, 2, .inl gN)) := by rw [ef6, va_up_ne _ _ n45]; exact k_dN
              have n47 : dN ≠ dA := hneL k_dN k_dA (Nat.ne_of_beq_eq_false rfl)
              have h46 : f10 dN = some (.inl (cI G, 2, .inl gN)) := by rw [ef10, va_up_ne _ _ n47]; exact h44
              have n49 : dK ≠ mo := hne k_dK k_mo (Nat.ne_of_beq_eq_false rfl)
              have h48 : f6 dK = some (.inl (cI G, 2048, .inl gK)) := by rw [ef6, va_up_ne _ _ n49]; exact k_dK
              have n51 : dK ≠ dA := hneL k_dK k_dA (Nat.ne_of_beq_eq_false rfl)
              have h50 : f10 dK = some (.inl (cI G, 2048, .inl gK)) := by rw [ef10, va_up_ne _ _ n51]; exact h48
              have n53 : dJ ≠ mo := hne k_dJ k_mo (Nat.ne_of_beq_eq_false rfl)
              have h52 : f6 dJ = some (.inl (cI G, 2048, .inl gJ)) := by rw [ef6, va_up_ne _ _ n53]; exact k_dJ
              have n55 : dJ ≠ dA := hneL k_dJ k_dA (Nat.ne_of_beq_eq_false rfl)
              have h54 : f10 dJ = some (.inl (cI G, 2048, .inl gJ)) := by rw [ef10, va_up_ne _ _ n55]; exact h52
              have n57 : dU ≠ mo := hne k_dU k_mo (Nat.ne_of_beq_eq_false rfl)
              have h56 : f6 dU = some (.inl (cI G, 2048, .inl gU)) := by rw [ef6, va_up_ne _ _ n57]; exact k_dU
              have n59 : dU ≠ dA := hneL k_dU k_dA (Nat.ne_of_beq_eq_false rfl)
              have h58 : f10 dU = some (.inl (cI G, 2048, .inl gU)) := by rw [ef10, va_up_ne _ _ n59]; exact h56
              have n61 : dO ≠ mo := hne k_dO k_mo (Nat.ne_of_beq_eq_false rfl)
              have h60 : f6 dO = some (.inl (cI G, 2048, .inl gO)) := by rw [ef6, va_up_ne _ _ n61]; exact k_dO
              have n63 : dO ≠ dA := hneL k_dO k_dA (Nat.ne_of_beq_eq_false rfl)
              have h62 : f10 dO = some (.inl (cI G, 2048, .inl gO)) := by rw [ef10, va_up_ne _ _ n63]; exact h60
              have n65 : dW ≠ mo := hne k_dW k_mo (Nat.ne_of_beq_eq_false rfl)
              have h64 : f6 dW = some (.inl (cI G, 12, .inl (jn gw0 gw1))) := by rw [ef6, va_up_ne _ _ n65]; exact k_dW
              have h66 : f10 dW = some (.inl (cI G, 12, .inl (jn gw0 gw1))) := by rw [ef10, va_up_ne _ _ nd_dW_dA]; exact h64
              have n68 : dM ≠ mo := hne k_dM k_mo (Nat.ne_of_beq_eq_false rfl)
              have h67 : f6 dM = some (.inl (cI G, 2, .inl (mA2 mg0 mg1))) := by rw [ef6, va_up_ne _ _ n68]; exact k_dM
              have n70 : dM ≠ dA := hneL k_dM k_dA (Nat.ne_of_beq_eq_false rfl)
              have h69 : f10 dM = some (.inl (cI G, 2, .inl (mA2 mg0 mg1))) := by rw [ef10, va_up_ne _ _ n70]; exact h67
              have n72 : dF ≠ mo := hne k_dF k_mo (Nat.ne_of_beq_eq_false rfl)
              have h71 : f6 dF = some (.inl (cI G, 61, .inl (nf sa))) := by rw [ef6, va_up_ne _ _ n72]; exact k_dF
              have n74 : dF ≠ dA := hneL k_dF k_dA (Nat.ne_of_beq_eq_false rfl)
              have h73 : f10 dF = some (.inl (cI G, 61, .inl (nf sa))) := by rw [ef10, va_up_ne _ _ n74]; exact h71
              have n76 : dP ≠ mo := hne k_dP k_mo (Nat.ne_of_beq_eq_false rfl)
              have h75 : f6 dP = some (.inl (cI G, 240, .inl (nf pk))) := by rw [ef6, va_up_ne _ _ n76]; exact k_dP
              have n78 : dP ≠ dA := hneL k_dP k_dA (Nat.ne_of_beq_eq_false rfl)
              have h77 : f10 dP = some (.inl (cI G, 240, .inl (nf pk))) := by rw [ef10, va_up_ne _ _ n78]; exact h75
              have n80 : dE ≠ mo := hne k_dE k_mo (Nat.ne_of_beq_eq_false rfl)
              have h79 : f6 dE = some (.inl (cZ G, 240, .inl gh)) := by rw [ef6, va_up_ne _ _ n80]; exact k_dE
              have n82 : dE ≠ dA := hneL k_dE k_dA (Nat.ne_of_beq_eq_false rfl)
              have h81 : f10 dE = some (.inl (cZ G, 240, .inl gh)) := by rw [ef10, va_up_ne _ _ n82]; exact h79
              have n84 : dX ≠ mo := hne k_dX k_mo (Nat.ne_of_beq_eq_false rfl)
              have h83 : f6 dX = some (.inl (cI G, 3, .inl (nf fl))) := by rw [ef6, va_up_ne _ _ n84]; exact k_dX
              have n86 : dX ≠ dA := hneL k_dX k_dA (Nat.ne_of_beq_eq_false rfl)
              have h85 : f10 dX = some (.inl (cI G, 3, .inl (nf fl))) := by rw [ef10, va_up_ne _ _ n86]; exact h83
              have n88 : dY ≠ mo := hne k_dY k_mo (Nat.ne_of_beq_eq_false rfl)
              have h87 : f6 dY = some (.inl (cI G, 3, .inl gl)) := by rw [ef6, va_up_ne _ _ n88]; exact k_dY
              have n90 : dY ≠ dA := hneL k_dY k_dA (Nat.ne_of_beq_eq_false rfl)
              have h89 : f10 dY = some (.inl (cI G, 3, .inl gl)) := by rw [ef10, va_up_ne _ _ n90]; exact h87
              have n92 : dG ≠ mo := hne k_dG k_mo (Nat.ne_of_beq_eq_false rfl)
              have h91 : f6 dG = some (.inl (cI G, 60, .inl (nf gv))) := by rw [ef6, va_up_ne _ _ n92]; exact k_dG
              have n94 : dG ≠ dA := hneL k_dG k_dA (Nat.ne_of_beq_eq_false rfl)
              have h93 : f10 dG = some (.inl (cI G, 60, .inl (nf gv))) := by rw [ef10, va_up_ne _ _ n94]; exact h91
              exact hp_iret (v := (ga0 ko)) B0 hw hS hr ⟨Nat.le_of_ble_eq_true rfl, Nat.le_of_ble_eq_true rfl⟩ dX5_allow_74 (⟨Or.inl ⟨spc_0 ⟨(Or.inl rfl), b3⟩ hv8, (by rw [selE_0 rfl, nI_clamp (show ko < 2 ^ 31 by omega)]), ⟨h12, hND, ⟨_, _, _, _, _, _, _, _, _, _, _, _, _, h15, h18, h22, h26, h30, h34, h38, h42, h46, h50, h54, h58, h62, hHd9, (hMn.mono hMn9 (by omega))⟩, h66, (by rw [updE_1 (show ((0 : Int32) = 0) from rfl), updE_0 (show ¬ ((0 : Int32) = 1) by decide), nI_clamp (show ko < 2 ^ 31 by omega)]; exact h11), h69, h73, h77, h81, h85, h89, h93, (by rw [updE_1 (show ((0 : Int32) = 0) from rfl), updE_0 (show ¬ ((0 : Int32) = 1) by decide), nI_clamp (show ko < 2 ^ 31 by omega)]; intro j9 hj9; have h7 := sA_up (k := (nI ko).toNatClampNeg) (v := xv) hSA hv8 j9 hj9; rw [jn_up0 hko] at h7; exact h7), hB9, hfl9⟩⟩, ((show hEq [mo, dW, dA, dQ, dM, dS, dL, dR, dT, dZ, dI, dH, dN, dK, dJ, dU, dO, dF, dP, dE, dX, dY, dG] f f6 from (by rw [ef6]; exact hEq.up List.mem_cons_self)).tr (show hEq [mo, dW, dA, dQ, dM, dS, dL, dR, dT, dZ, dI, dH, dN, dK, dJ, dU, dO, dF, dP, dE, dX, dY, dG] f6 f10 from (by rw [ef10]; exact hEq.up (List.mem_cons_of_mem _ (List.mem_cons_of_mem _ List.mem_cons_self)))))⟩)
            · subst ev9
              refine W.eq (g2 := F0 m 27 ls [.int 0, .ref mo]) rfl ?_
              refine lv_if_eq (tgt := 34) hx hb dX5_allow_27 (by decide) (fun _ => ?_) (fun c9 => absurd (by decide) c9)
              refine lv_iconst (v := 2) hx hb dX5_allow_34 (by decide) ?_
              refine hp_put (fs1 := [.int 2, .ref dW, .ref dA, .ref dQ, .ref dM, .ref dS, .ref dL, .ref dR, .ref dT, .ref dZ, .ref dI, .ref dH, .ref dN, .ref dK, .ref dJ, .ref dU, .ref dO, .int (nI n), .int (nI a), .ref dF, .ref dP, .ref dE, .ref dX, .ref dY, .int (nI x), .int (nI cg), .ref dG]) (ty := .int) B0 hw hS 5 rfl in_X5 tyX5 tyX5_ok nmX5 k_mo 0 (by decide) qF_X5_77 rfl (by decide +kernel) rfl rfl (Nat.le_of_ble_eq_true rfl) rfl dX5_allow_35 (fun H locs f95 ef95 hw hS => ?_)
              have h96 : f95 mo = some (.inr (5, [.int 2, .ref dW, .ref dA, .ref dQ, .ref dM, .ref dS, .ref dL, .ref dR, .ref dT, .ref dZ, .ref dI, .ref dH, .ref dN, .ref dK, .ref dJ, .ref dU, .ref dO, .int (nI n), .int (nI a), .ref dF, .ref dP, .ref dE, .ref dX, .ref dY, .int (nI x), .int (nI cg), .ref dG])) := by rw [ef95, va_up_self]
              refine lv_aload_n hx hb dX5_allow_38 rfl (lv_at hl9 0 rfl) ?_
              refine hp_get B0 hw 5 rfl in_X5 h96 0 (by decide) qF_X5_77 rfl dX5_allow_39 ?_
              refine lv_if_le (tgt := 47) hx hb dX5_allow_42 (by decide) (fun c9 => absurd c9 (by decide)) (fun _ => ?_)
              refine lv_iconst (v := 0) hx hb dX5_allow_45 (by decide) ?_
              have hs9 : spc (sE (0 : Int32) ∧ sO o) (sA xv) = 2 := spc_2 ⟨(Or.inl rfl), b3⟩ (fun h9 => b5 (by simp only [jlt, jle, tq0, tq1, tq2, tq3, tq4, tq5, tq6, tq9, tq50, tq60, tq1023, tqm1]; exact ⟨by omega, by omega⟩))
              have n98 : dQ ≠ mo := hne k_dQ k_mo (Nat.ne_of_beq_eq_false rfl)
              have h97 : f95 dQ = some (.inl (cI G, 12, .inl gQ)) := by rw [ef95, va_up_ne _ _ n98]; exact k_dQ
              have n100 : dS ≠ mo := hne k_dS k_mo (Nat.ne_of_beq_eq_false rfl)
              have h99 : f95 dS = some (.inl (cI G, 2, .inl gS)) := by rw [ef95, va_up_ne _ _ n100]; exact k_dS
              have n102 : dL ≠ mo := hne k_dL k_mo (Nat.ne_of_beq_eq_false rfl)
              have h101 : f95 dL = some (.inl (cI G, 2, .inl gL)) := by rw [ef95, va_up_ne _ _ n102]; exact k_dL
              have n104 : dR ≠ mo := hne k_dR k_mo (Nat.ne_of_beq_eq_false rfl)
              have h103 : f95 dR = some (.inl (cI G, 2, .inl gR)) := by rw [ef95, va_up_ne _ _ n104]; exact k_dR
              have n106 : dT ≠ mo := hne k_dT k_mo (Nat.ne_of_beq_eq_false rfl)
              have h105 : f95 dT = some (.inl (cI G, 2, .inl gT)) := by rw [ef95, va_up_ne _ _ n106]; exact k_dT
              have n108 : dZ ≠ mo := hne k_dZ k_mo (Nat.ne_of_beq_eq_false rfl)
              have h107 : f95 dZ = some (.inl (cZ G, 2, .inl gZ)) := by rw [ef95, va_up_ne _ _ n108]; exact k_dZ
              have n110 : dI ≠ mo := hne k_dI k_mo (Nat.ne_of_beq_eq_false rfl)
              have h109 : f95 dI = some (.inl (cI G, 2, .inl gI)) := by rw [ef95, va_up_ne _ _ n110]; exact k_dI
              have n112 : dH ≠ mo := hne k_dH k_mo (Nat.ne_of_beq_eq_false rfl)
              have h111 : f95 dH = some (.inl (cI G, 2, .inl gH)) := by rw [ef95, va_up_ne _ _ n112]; exact k_dH
              have n114 : dN ≠ mo := hne k_dN k_mo (Nat.ne_of_beq_eq_false rfl)
              have h113 : f95 dN = some (.inl (cI G, 2, .inl gN)) := by rw [ef95, va_up_ne _ _ n114]; exact k_dN
              have n116 : dK ≠ mo := hne k_dK k_mo (Nat.ne_of_beq_eq_false rfl)
              have h115 : f95 dK = some (.inl (cI G, 2048, .inl gK)) := by rw [ef95, va_up_ne _ _ n116]; exact k_dK
              have n118 : dJ ≠ mo := hne k_dJ k_mo (Nat.ne_of_beq_eq_false rfl)
              have h117 : f95 dJ = some (.inl (cI G, 2048, .inl gJ)) := by rw [ef95, va_up_ne _ _ n118]; exact k_dJ
              have n120 : dU ≠ mo := hne k_dU k_mo (Nat.ne_of_beq_eq_false rfl)
              have h119 : f95 dU = some (.inl (cI G, 2048, .inl gU)) := by rw [ef95, va_up_ne _ _ n120]; exact k_dU
              have n122 : dO ≠ mo := hne k_dO k_mo (Nat.ne_of_beq_eq_false rfl)
              have h121 : f95 dO = some (.inl (cI G, 2048, .inl gO)) := by rw [ef95, va_up_ne _ _ n122]; exact k_dO
              have n124 : dW ≠ mo := hne k_dW k_mo (Nat.ne_of_beq_eq_false rfl)
              have h123 : f95 dW = some (.inl (cI G, 12, .inl (jn gw0 gw1))) := by rw [ef95, va_up_ne _ _ n124]; exact k_dW
              have n126 : dA ≠ mo := hne k_dA k_mo (Nat.ne_of_beq_eq_false rfl)
              have h125 : f95 dA = some (.inl (cI G, 12, .inl (jn ga0 ga1))) := by rw [ef95, va_up_ne _ _ n126]; exact k_dA
              have n128 : dM ≠ mo := hne k_dM k_mo (Nat.ne_of_beq_eq_false rfl)
              have h127 : f95 dM = some (.inl (cI G, 2, .inl (mA2 mg0 mg1))) := by rw [ef95, va_up_ne _ _ n128]; exact k_dM
              have n130 : dF ≠ mo := hne k_dF k_mo (Nat.ne_of_beq_eq_false rfl)
              have h129 : f95 dF = some (.inl (cI G, 61, .inl (nf sa))) := by rw [ef95, va_up_ne _ _ n130]; exact k_dF
              have n132 : dP ≠ mo := hne k_dP k_mo (Nat.ne_of_beq_eq_false rfl)
              have h131 : f95 dP = some (.inl (cI G, 240, .inl (nf pk))) := by rw [ef95, va_up_ne _ _ n132]; exact k_dP
              have n134 : dE ≠ mo := hne k_dE k_mo (Nat.ne_of_beq_eq_false rfl)
              have h133 : f95 dE = some (.inl (cZ G, 240, .inl gh)) := by rw [ef95, va_up_ne _ _ n134]; exact k_dE
              have n136 : dX ≠ mo := hne k_dX k_mo (Nat.ne_of_beq_eq_false rfl)
              have h135 : f95 dX = some (.inl (cI G, 3, .inl (nf fl))) := by rw [ef95, va_up_ne _ _ n136]; exact k_dX
              have n138 : dY ≠ mo := hne k_dY k_mo (Nat.ne_of_beq_eq_false rfl)
              have h137 : f95 dY = some (.inl (cI G, 3, .inl gl)) := by rw [ef95, va_up_ne _ _ n138]; exact k_dY
              have n140 : dG ≠ mo := hne k_dG k_mo (Nat.ne_of_beq_eq_false rfl)
              have h139 : f95 dG = some (.inl (cI G, 60, .inl (nf gv))) := by rw [ef95, va_up_ne _ _ n140]; exact k_dG
              exact hp_iret (v := 0) B0 hw hS hr ⟨Nat.le_of_ble_eq_true rfl, Nat.le_of_ble_eq_true rfl⟩ dX5_allow_46 (⟨Or.inr ⟨(by rw [hs9]; decide), ⟨_, rfl⟩, ⟨(by rw [hs9]; exact h96), hND, ⟨_, _, _, _, _, _, _, _, _, _, _, _, _, h97, h99, h101, h103, h105, h107, h109, h111, h113, h115, h117, h119, h121, hHd9, (hMn.mono hMn9 (by omega))⟩, h123, h125, h127, h129, h131, h133, h135, h137, h139, hSA, hB9, hfl9⟩⟩, (show hEq [mo, dW, dA, dQ, dM, dS, dL, dR, dT, dZ, dI, dH, dN, dK, dJ, dU, dO, dF, dP, dE, dX, dY, dG] f f95 from (by rw [ef95]; exact hEq.up List.mem_cons_self))⟩)
        · subst ev9
          refine W.eq (g2 := F0 m 12 ls [.int 0, .ref mo]) rfl ?_
          refine lv_if_ne (tgt := 19) hx hb dX5_allow_12 (by decide) (fun c9 => absurd (by decide) c9) (fun _ => ?_)
          refine lv_iconst (v := 1) hx hb dX5_allow_15 (by decide) ?_
          refine lv_goto (tgt := 35) hx hb dX5_allow_16 (by decide) ?_
          refine hp_put (fs1 := [.int 1, .ref dW, .ref dA, .ref dQ, .ref dM, .ref dS, .ref dL, .ref dR, .ref dT, .ref dZ, .ref dI, .ref dH, .ref dN, .ref dK, .ref dJ, .ref dU, .ref dO, .int (nI n), .int (nI a), .ref dF, .ref dP, .ref dE, .ref dX, .ref dY, .int (nI x), .int (nI cg), .ref dG]) (ty := .int) B0 hw hS 5 rfl in_X5 tyX5 tyX5_ok nmX5 k_mo 0 (by decide) qF_X5_77 rfl (by decide +kernel) rfl rfl (Nat.le_of_ble_eq_true rfl) rfl dX5_allow_35 (fun H locs f141 ef141 hw hS => ?_)
          have h142 : f141 mo = some (.inr (5, [.int 1, .ref dW, .ref dA, .ref dQ, .ref dM, .ref dS, .ref dL, .ref dR, .ref dT, .ref dZ, .ref dI, .ref dH, .ref dN, .ref dK, .ref dJ, .ref dU, .ref dO, .int (nI n), .int (nI a), .ref dF, .ref dP, .ref dE, .ref dX, .ref dY, .int (nI x), .int (nI cg), .ref dG])) := by rw [ef141, va_up_self]
          refine lv_aload_n hx hb dX5_allow_38 rfl (lv_at hl9 0 rfl) ?_
          refine hp_get B0 hw 5 rfl in_X5 h142 0 (by decide) qF_X5_77 rfl dX5_allow_39 ?_
          refine lv_if_le (tgt := 47) hx hb dX5_allow_42 (by decide) (fun c9 => absurd c9 (by decide)) (fun _ => ?_)
          refine lv_iconst (v := 0) hx hb dX5_allow_45 (by decide) ?_
          have hs9 : spc (sE (0 : Int32) ∧ sO o) (sA xv) = 1 := spc_1 (fun h9 => b3 h9.2)
          have n144 : dQ ≠ mo := hne k_dQ k_mo (Nat.ne_of_beq_eq_false rfl)
          have h143 : f141 dQ = some (.inl (cI G, 12, .inl gQ)) := by rw [ef141, va_up_ne _ _ n144]; exact k_dQ
          have n146 : dS ≠ mo := hne k_dS k_mo (Nat.ne_of_beq_eq_false rfl)
          have h145 : f141 dS = some (.inl (cI G, 2, .inl gS)) := by rw [ef141, va_up_ne _ _ n146]; exact k_dS
          have n148 : dL ≠ mo := hne k_dL k_mo (Nat.ne_of_beq_eq_false rfl)
          have h147 : f141 dL = some (.inl (cI G, 2, .inl gL)) := by rw [ef141, va_up_ne _ _ n148]; exact k_dL
          have n150 : dR ≠ mo := hne k_dR k_mo (Nat.ne_of_beq_eq_false rfl)
          have h149 : f141 dR = some (.inl (cI G, 2, .inl gR)) := by rw [ef141, va_up_ne _ _ n150]; exact k_dR
          have n152 : dT ≠ mo := hne k_dT k_mo (Nat.ne_of_beq_eq_false rfl)
          have h151 : f141 dT = some (.inl (cI G, 2, .inl gT)) := by rw [ef141, va_up_ne _ _ n152]; exact k_dT
          have n154 : dZ ≠ mo := hne k_dZ k_mo (Nat.ne_of_beq_eq_false rfl)
          have h153 : f141 dZ = some (.inl (cZ G, 2, .inl gZ)) := by rw [ef141, va_up_ne _ _ n154]; exact k_dZ
          have n156 : dI ≠ mo := hne k_dI k_mo (Nat.ne_of_beq_eq_false rfl)
          have h155 : f141 dI = some (.inl (cI G, 2, .inl gI)) := by rw [ef141, va_up_ne _ _ n156]; exact k_dI
          have n158 : dH ≠ mo := hne k_dH k_mo (Nat.ne_of_beq_eq_false rfl)
          have h157 : f141 dH = some (.inl (cI G, 2, .inl gH)) := by rw [ef141, va_up_ne _ _ n158]; exact k_dH
          have n160 : dN ≠ mo := hne k_dN k_mo (Nat.ne_of_beq_eq_false rfl)
          have h159 : f141 dN = some (.inl (cI G, 2, .inl gN)) := by rw [ef141, va_up_ne _ _ n160]; exact k_dN
          have n162 : dK ≠ mo := hne k_dK k_mo (Nat.ne_of_beq_eq_false rfl)
          have h161 : f141 dK = some (.inl (cI G, 2048, .inl gK)) := by rw [ef141, va_up_ne _ _ n162]; exact k_dK
          have n164 : dJ ≠ mo := hne k_dJ k_mo (Nat.ne_of_beq_eq_false rfl)
          have h163 : f141 dJ = some (.inl (cI G, 2048, .inl gJ)) := by rw [ef141, va_up_ne _ _ n164]; exact k_dJ
          have n166 : dU ≠ mo := hne k_dU k_mo (Nat.ne_of_beq_eq_false rfl)
          have h165 : f141 dU = some (.inl (cI G, 2048, .inl gU)) := by rw [ef141, va_up_ne _ _ n166]; exact k_dU
          have n168 : dO ≠ mo := hne k_dO k_mo (Nat.ne_of_beq_eq_false rfl)
          have h167 : f141 dO = some (.inl (cI G, 2048, .inl gO)) := by rw [ef141, va_up_ne _ _ n168]; exact k_dO
          have n170 : dW ≠ mo := hne k_dW k_mo (Nat.ne_of_beq_eq_false rfl)
          have h169 : f141 dW = some (.inl (cI G, 12, .inl (jn gw0 gw1))) := by rw [ef141, va_up_ne _ _ n170]; exact k_dW
          have n172 : dA ≠ mo := hne k_dA k_mo (Nat.ne_of_beq_eq_false rfl)
          have h171 : f141 dA = some (.inl (cI G, 12, .inl (jn ga0 ga1))) := by rw [ef141, va_up_ne _ _ n172]; exact k_dA
          have n174 : dM ≠ mo := hne k_dM k_mo (Nat.ne_of_beq_eq_false rfl)
          have h173 : f141 dM = some (.inl (cI G, 2, .inl (mA2 mg0 mg1))) := by rw [ef141, va_up_ne _ _ n174]; exact k_dM
          have n176 : dF ≠ mo := hne k_dF k_mo (Nat.ne_of_beq_eq_false rfl)
          have h175 : f141 dF = some (.inl (cI G, 61, .inl (nf sa))) := by rw [ef141, va_up_ne _ _ n176]; exact k_dF
          have n178 : dP ≠ mo := hne k_dP k_mo (Nat.ne_of_beq_eq_false rfl)
          have h177 : f141 dP = some (.inl (cI G, 240, .inl (nf pk))) := by rw [ef141, va_up_ne _ _ n178]; exact k_dP
          have n180 : dE ≠ mo := hne k_dE k_mo (Nat.ne_of_beq_eq_false rfl)
          have h179 : f141 dE = some (.inl (cZ G, 240, .inl gh)) := by rw [ef141, va_up_ne _ _ n180]; exact k_dE
          have n182 : dX ≠ mo := hne k_dX k_mo (Nat.ne_of_beq_eq_false rfl)
          have h181 : f141 dX = some (.inl (cI G, 3, .inl (nf fl))) := by rw [ef141, va_up_ne _ _ n182]; exact k_dX
          have n184 : dY ≠ mo := hne k_dY k_mo (Nat.ne_of_beq_eq_false rfl)
          have h183 : f141 dY = some (.inl (cI G, 3, .inl gl)) := by rw [ef141, va_up_ne _ _ n184]; exact k_dY
          have n186 : dG ≠ mo := hne k_dG k_mo (Nat.ne_of_beq_eq_false rfl)
          have h185 : f141 dG = some (.inl (cI G, 60, .inl (nf gv))) := by rw [ef141, va_up_ne _ _ n186]; exact k_dG
          exact hp_iret (v := 0) B0 hw hS hr ⟨Nat.le_of_ble_eq_true rfl, Nat.le_of_ble_eq_true rfl⟩ dX5_allow_46 (⟨Or.inr ⟨(by rw [hs9]; decide), ⟨_, rfl⟩, ⟨(by rw [hs9]; exact h142), hND, ⟨_, _, _, _, _, _, _, _, _, _, _, _, _, h143, h145, h147, h149, h151, h153, h155, h157, h159, h161, h163, h165, h167, hHd9, (hMn.mono hMn9 (by omega))⟩, h169, h171, h173, h175, h177, h179, h181, h183, h185, hSA, hB9, hfl9⟩⟩, (show hEq [mo, dW, dA, dQ, dM, dS, dL, dR, dT, dZ, dI, dH, dN, dK, dJ, dU, dO, dF, dP, dE, dX, dY, dG] f f141 from (by rw [ef141]; exact hEq.up List.mem_cons_self))⟩)
    · subst ev9
      subst b9
      refine W.eq (g2 := F0 m 5 ls [.int 1, .ref mo]) rfl ?_
      refine lv_if_eq (tgt := 15) hx hb dX5_allow_5 (by decide) (fun c9 => absurd c9 (by decide)) (fun _ => ?_)
      refine lv_iload_n hx hb dX5_allow_8 rfl (lv_at hl9 2 rfl) ?_
      refine hp_S (As := [.int o]) (rest := [.ref mo]) B0 hw hS (c_X5_isOption hl G f o) mS_X5_isOption qM_X5_89 rfl rfl hl9.1 (Nat.le_of_ble_eq_true rfl) ⟨⟨Nat.le_of_ble_eq_true rfl, Nat.le_of_ble_eq_true rfl⟩, Nat.le_of_ble_eq_true rfl, Nat.le_of_ble_eq_true rfl⟩ dX5_allow_9 (fun E ce q9 f187 H locs hPX hw hS hce hcv hcl => ?_) (fun v f187 H locs hP hw hS => ?_)
      · exact hPX.elim
      · obtain ⟨ef9, hv9⟩ := hP
        rw [ef9] at hw
        rcases hv9 with ⟨b188, ev9⟩ | ⟨b188, ev9⟩
        · subst ev9
          refine W.eq (g2 := F0 m 12 ls [.int 1, .ref mo]) rfl ?_
          refine lv_if_ne (tgt := 19) hx hb dX5_allow_12 (by decide) (fun _ => ?_) (fun c9 => absurd c9 (by decide))
          refine lv_iload_n hx hb dX5_allow_19 rfl (lv_at hl9 3 rfl) ?_
          refine lv_iconst (v := 0) hx hb dX5_allow_20 (by decide) ?_
          refine lv_sipush (v := 1023) hx hb dX5_allow_21 (by decide) ?_
          refine hp_S (As := [.int xv, .int 0, .int 1023]) (rest := [.ref mo]) B0 hw hS (c_X5_in hl G f xv 0 1023) mS_X5_in qM_X5_81 rfl rfl hl9.1 (Nat.le_of_ble_eq_true rfl) ⟨⟨Nat.le_of_ble_eq_true rfl, Nat.le_of_ble_eq_true rfl⟩, Nat.le_of_ble_eq_true rfl, Nat.le_of_ble_eq_true rfl⟩ dX5_allow_24 (fun E ce q9 f189 H locs hPX hw hS hce hcv hcl => ?_) (fun v f189 H locs hP hw hS => ?_)
          · exact hPX.elim
          · obtain ⟨ef9, hv9⟩ := hP
            rw [ef9] at hw
            rcases hv9 with ⟨b190, ev9⟩ | ⟨b190, ev9⟩
            · subst ev9
              refine W.eq (g2 := F0 m 27 ls [.int 1, .ref mo]) rfl ?_
              refine lv_if_eq (tgt := 34) hx hb dX5_allow_27 (by decide) (fun c9 => absurd c9 (by decide)) (fun _ => ?_)
              refine lv_iconst (v := 0) hx hb dX5_allow_30 (by decide) ?_
              refine lv_goto (tgt := 35) hx hb dX5_allow_31 (by decide) ?_
              refine hp_put (fs1 := [.int 0, .ref dW, .ref dA, .ref dQ, .ref dM, .ref dS, .ref dL, .ref dR, .ref dT, .ref dZ, .ref dI, .ref dH, .ref dN, .ref dK, .ref dJ, .ref dU, .ref dO, .int (nI n), .int (nI a), .ref dF, .ref dP, .ref dE, .ref dX, .ref dY, .int (nI x), .int (nI cg), .ref dG]) (ty := .int) B0 hw hS 5 rfl in_X5 tyX5 tyX5_ok nmX5 k_mo 0 (by decide) qF_X5_77 rfl (by decide +kernel) rfl rfl (Nat.le_of_ble_eq_true rfl) rfl dX5_allow_35 (fun H locs f191 ef191 hw hS => ?_)
              have h192 : f191 mo = some (.inr (5, [.int 0, .ref dW, .ref dA, .ref dQ, .ref dM, .ref dS, .ref dL, .ref dR, .ref dT, .ref dZ, .ref dI, .ref dH, .ref dN, .ref dK, .ref dJ, .ref dU, .ref dO, .int (nI n), .int (nI a), .ref dF, .ref dP, .ref dE, .ref dX, .ref dY, .int (nI x), .int (nI cg), .ref dG])) := by rw [ef191, va_up_self]
              refine lv_aload_n hx hb dX5_allow_38 rfl (lv_at hl9 0 rfl) ?_
              refine hp_get B0 hw 5 rfl in_X5 h192 0 (by decide) qF_X5_77 rfl dX5_allow_39 ?_
              refine lv_if_le (tgt := 47) hx hb dX5_allow_42 (by decide) (fun _ => ?_) (fun c9 => absurd (by decide) c9)
              obtain ⟨ko, hko, eo9⟩ := vp_in_of (vin6 b188) (by decide)
              subst eo9
              refine lv_aload_n hx hb dX5_allow_47 rfl (lv_at hl9 0 rfl) ?_
              refine hp_get B0 hw 5 rfl in_X5 h192 2 (by decide) qF_X5_13 rfl dX5_allow_48 ?_
              refine lv_bipush (v := 6) hx hb dX5_allow_51 (by decide) ?_
              refine lv_iload_n hx hb dX5_allow_53 rfl (lv_at hl9 1 rfl) ?_
              refine lv_imul hx hb dX5_allow_54 ?_
              refine hp_c (v := 6) (by decide) ?_
              refine lv_iload_n hx hb dX5_allow_55 rfl (lv_at hl9 2 rfl) ?_
              refine lv_iadd hx hb dX5_allow_56 ?_
              refine hp_c (v := (nI (6 + ko))) (nI_add 6 ko) ?_
              have n194 : dA ≠ mo := hne k_dA k_mo (Nat.ne_of_beq_eq_false rfl)
              have h193 : f191 dA = some (.inl (cI G, 12, .inl (jn ga0 ga1))) := by rw [ef191, va_up_ne _ _ n194]; exact k_dA
              refine hp_iald B0 hw h193 (vp_in_nI (show 6 + ko < 12 by omega) (by decide)) dX5_allow_57 ?_
              refine hp_c (v := (ga1 ko)) (jn_at1 hko) ?_
              refine lv_istore (lv' := [(4, .int (ga1 ko)), (0, .ref mo), (1, .int 1), (2, .int (nI ko)), (3, .int xv)]) hx hb dX5_allow_58 hl9 (by decide) rfl (fun ls hl9 => ?_)
              refine lv_aload_n hx hb dX5_allow_60 rfl (lv_at hl9 1 rfl) ?_
              refine hp_get B0 hw 5 rfl in_X5 h192 2 (by decide) qF_X5_13 rfl dX5_allow_61 ?_
              refine lv_bipush (v := 6) hx hb dX5_allow_64 (by decide) ?_
              refine lv_iload_n hx hb dX5_allow_66 rfl (lv_at hl9 2 rfl) ?_
              refine lv_imul hx hb dX5_allow_67 ?_
              refine hp_c (v := 6) (by decide) ?_
              refine lv_iload_n hx hb dX5_allow_68 rfl (lv_at hl9 3 rfl) ?_
              refine lv_iadd hx hb dX5_allow_69 ?_
              refine hp_c (v := (nI (6 + ko))) (nI_add 6 ko) ?_
              refine lv_iload_n hx hb dX5_allow_70 rfl (lv_at hl9 4 rfl) ?_
              refine hp_iast B0 hw hS h193 (vp_in_nI (show 6 + ko < 12 by omega) (by decide)) dX5_allow_71 (fun H locs f195 ef195 hw hS => ?_)
              rw [show (upd (jn ga0 ga1) ((nI (6 + ko)) : Int32).toNatClampNeg xv : Nat → Int32) = (jn ga0 (upd ga1 ko xv)) from jn_up1 hko _] at ef195
              have h196 : f195 dA = some (.inl (cI G, 12, .inl (jn ga0 (upd ga1 ko xv)))) := by rw [ef195, va_up_self]
              refine lv_iload hx hb dX5_allow_72 (lv_at hl9 0 rfl) ?_
              have hv8 : sA xv := (by have h1 := b190; simp only [jlt, jle, tq0, tq1, tq2, tq3, tq4, tq5, tq6, tq9, tq50, tq60, tq1023, tqm1] at h1; exact ⟨by omega, by omega⟩)
              have h197 : f195 mo = some (.inr (5, [.int 0, .ref dW, .ref dA, .ref dQ, .ref dM, .ref dS, .ref dL, .ref dR, .ref dT, .ref dZ, .ref dI, .ref dH, .ref dN, .ref dK, .ref dJ, .ref dU, .ref dO, .int (nI n), .int (nI a), .ref dF, .ref dP, .ref dE, .ref dX, .ref dY, .int (nI x), .int (nI cg), .ref dG])) := by rw [ef195, va_up_ne _ _ (Ne.symm n194)]; exact h192
              have n199 : dQ ≠ mo := hne k_dQ k_mo (Nat.ne_of_beq_eq_false rfl)
              have h198 : f191 dQ = some (.inl (cI G, 12, .inl gQ)) := by rw [ef191, va_up_ne _ _ n199]; exact k_dQ
              have h200 : f195 dQ = some (.inl (cI G, 12, .inl gQ)) := by rw [ef195, va_up_ne _ _ (Ne.symm nd_dA_dQ)]; exact h198
              have n202 : dS ≠ mo := hne k_dS k_mo (Nat.ne_of_beq_eq_false rfl)
              have h201 : f191 dS = some (.inl (cI G, 2, .inl gS)) := by rw [ef191, va_up_ne _ _ n202]; exact k_dS
              have n204 : dS ≠ dA := hneL k_dS k_dA (Nat.ne_of_beq_eq_false rfl)
              have h203 : f195 dS = some (.inl (cI G, 2, .inl gS)) := by rw [ef195, va_up_ne _ _ n204]; exact h201
              have n206 : dL ≠ mo := hne k_dL k_mo (Nat.ne_of_beq_eq_false rfl)
              have h205 : f191 dL = some (.inl (cI G, 2, .inl gL)) := by rw [ef191, va_up_ne _ _ n206]; exact k_dL
              have n208 : dL ≠ dA := hneL k_dL k_dA (Nat.ne_of_beq_eq_false rfl)
              have h207 : f195 dL = some (.inl (cI G, 2, .inl gL)) := by rw [ef195, va_up_ne _ _ n208]; exact h205
              have n210 : dR ≠ mo := hne k_dR k_mo (Nat.ne_of_beq_eq_false rfl)
              have h209 : f191 dR = some (.inl (cI G, 2, .inl gR)) := by rw [ef191, va_up_ne _ _ n210]; exact k_dR
              have n212 : dR ≠ dA := hneL k_dR k_dA (Nat.ne_of_beq_eq_false rfl)
              have h211 : f195 dR = some (.inl (cI G, 2, .inl gR)) := by rw [ef195, va_up_ne _ _ n212]; exact h209
              have n214 : dT ≠ mo := hne k_dT k_mo (Nat.ne_of_beq_eq_false rfl)
              have h213 : f191 dT = some (.inl (cI G, 2, .inl gT)) := by rw [ef191, va_up_ne _ _ n214]; exact k_dT
              have n216 : dT ≠ dA := hneL k_dT k_dA (Nat.ne_of_beq_eq_false rfl)
              have h215 : f195 dT = some (.inl (cI G, 2, .inl gT)) := by rw [ef195, va_up_ne _ _ n216]; exact h213
              have n218 : dZ ≠ mo := hne k_dZ k_mo (Nat.ne_of_beq_eq_false rfl)
              have h217 : f191 dZ = some (.inl (cZ G, 2, .inl gZ)) := by rw [ef191, va_up_ne _ _ n218]; exact k_dZ
              have n220 : dZ ≠ dA := hneL k_dZ k_dA (Nat.ne_of_beq_eq_false rfl)
              have h219 : f195 dZ = some (.inl (cZ G, 2, .inl gZ)) := by rw [ef195, va_up_ne _ _ n220]; exact h217
              have n222 : dI ≠ mo := hne k_dI k_mo (Nat.ne_of_beq_eq_false rfl)
              have h221 : f191 dI = some (.inl (cI G, 2, .inl gI)) := by rw [ef191, va_up_ne _ _ n222]; exact k_dI
              have n224 : dI ≠ dA := hneL k_dI k_dA (Nat.ne_of_beq_eq_false rfl)
              have h223 : f195 dI = some (.inl (cI G, 2, .inl gI)) := by rw [ef195, va_up_ne _ _ n224]; exact h221
              have n226 : dH ≠ mo := hne k_dH k_mo (Nat.ne_of_beq_eq_false rfl)
              have h225 : f191 dH = some (.inl (cI G, 2, .inl gH)) := by rw [ef191, va_up_ne _ _ n226]; exact k_dH
              have n228 : dH ≠ dA := hneL k_dH k_dA (Nat.ne_of_beq_eq_false rfl)
              have h227 : f195 dH = some (.inl (cI G, 2, .inl gH)) := by rw [ef195, va_up_ne _ _ n228]; exact h225
              have n230 : dN ≠ mo := hne k_dN k_mo (Nat.ne_of_beq_eq_false rfl)
              have h229 : f191 dN = some (.inl (cI G, 2, .inl gN)) := by rw [ef191, va_up_ne _ _ n230]; exact k_dN
              have n232 : dN ≠ dA := hneL k_dN k_dA (Nat.ne_of_beq_eq_false rfl)
              have h231 : f195 dN = some (.inl (cI G, 2, .inl gN)) := by rw [ef195, va_up_ne _ _ n232]; exact h229
              have n234 : dK ≠ mo := hne k_dK k_mo (Nat.ne_of_beq_eq_false rfl)
              have h233 : f191 dK = some (.inl (cI G, 2048, .inl gK)) := by rw [ef191, va_up_ne _ _ n234]; exact k_dK
              have n236 : dK ≠ dA := hneL k_dK k_dA (Nat.ne_of_beq_eq_false rfl)
              have h235 : f195 dK = some (.inl (cI G, 2048, .inl gK)) := by rw [ef195, va_up_ne _ _ n236]; exact h233
              have n238 : dJ ≠ mo := hne k_dJ k_mo (Nat.ne_of_beq_eq_false rfl)
              have h237 : f191 dJ = some (.inl (cI G, 2048, .inl gJ)) := by rw [ef191, va_up_ne _ _ n238]; exact k_dJ
              have n240 : dJ ≠ dA := hneL k_dJ k_dA (Nat.ne_of_beq_eq_false rfl)
              have h239 : f195 dJ = some (.inl (cI G, 2048, .inl gJ)) := by rw [ef195, va_up_ne _ _ n240]; exact h237
              have n242 : dU ≠ mo := hne k_dU k_mo (Nat.ne_of_beq_eq_false rfl)
              have h241 : f191 dU = some (.inl (cI G, 2048, .inl gU)) := by rw [ef191, va_up_ne _ _ n242]; exact k_dU
              have n244 : dU ≠ dA := hneL k_dU k_dA (Nat.ne_of_beq_eq_false rfl)
              have h243 : f195 dU = some (.inl (cI G, 2048, .inl gU)) := by rw [ef195, va_up_ne _ _ n244]; exact h241
              have n246 : dO ≠ mo := hne k_dO k_mo (Nat.ne_of_beq_eq_false rfl)
              have h245 : f191 dO = some (.inl (cI G, 2048, .inl gO)) := by rw [ef191, va_up_ne _ _ n246]; exact k_dO
              have n248 : dO ≠ dA := hneL k_dO k_dA (Nat.ne_of_beq_eq_false rfl)
              have h247 : f195 dO = some (.inl (cI G, 2048, .inl gO)) := by rw [ef195, va_up_ne _ _ n248]; exact h245
              have n250 : dW ≠ mo := hne k_dW k_mo (Nat.ne_of_beq_eq_false rfl)
              have h249 : f191 dW = some (.inl (cI G, 12, .inl (jn gw0 gw1))) := by rw [ef191, va_up_ne _ _ n250]; exact k_dW
              have h251 : f195 dW = some (.inl (cI G, 12, .inl (jn gw0 gw1))) := by rw [ef195, va_up_ne _ _ nd_dW_dA]; exact h249
              have n253 : dM ≠ mo := hne k_dM k_mo (Nat.ne_of_beq_eq_false rfl)
              have h252 : f191 dM = some (.inl (cI G, 2, .inl (mA2 mg0 mg1))) := by rw [ef191, va_up_ne _ _ n253]; exact k_dM
              have n255 : dM ≠ dA := hneL k_dM k_dA (Nat.ne_of_beq_eq_false rfl)
              have h254 : f195 dM = some (.inl (cI G, 2, .inl (mA2 mg0 mg1))) := by rw [ef195, va_up_ne _ _ n255]; exact h252
              have n257 : dF ≠ mo := hne k_dF k_mo (Nat.ne_of_beq_eq_false rfl)
              have h256 : f191 dF = some (.inl (cI G, 61, .inl (nf sa))) := by rw [ef191, va_up_ne _ _ n257]; exact k_dF
              have n259 : dF ≠ dA := hneL k_dF k_dA (Nat.ne_of_beq_eq_false rfl)
              have h258 : f195 dF = some (.inl (cI G, 61, .inl (nf sa))) := by rw [ef195, va_up_ne _ _ n259]; exact h256
              have n261 : dP ≠ mo := hne k_dP k_mo (Nat.ne_of_beq_eq_false rfl)
              have h260 : f191 dP = some (.inl (cI G, 240, .inl (nf pk))) := by rw [ef191, va_up_ne _ _ n261]; exact k_dP
              have n263 : dP ≠ dA := hneL k_dP k_dA (Nat.ne_of_beq_eq_false rfl)
              have h262 : f195 dP = some (.inl (cI G, 240, .inl (nf pk))) := by rw [ef195, va_up_ne _ _ n263]; exact h260
              have n265 : dE ≠ mo := hne k_dE k_mo (Nat.ne_of_beq_eq_false rfl)
              have h264 : f191 dE = some (.inl (cZ G, 240, .inl gh)) := by rw [ef191, va_up_ne _ _ n265]; exact k_dE
              have n267 : dE ≠ dA := hneL k_dE k_dA (Nat.ne_of_beq_eq_false rfl)
              have h266 : f195 dE = some (.inl (cZ G, 240, .inl gh)) := by rw [ef195, va_up_ne _ _ n267]; exact h264
              have n269 : dX ≠ mo := hne k_dX k_mo (Nat.ne_of_beq_eq_false rfl)
              have h268 : f191 dX = some (.inl (cI G, 3, .inl (nf fl))) := by rw [ef191, va_up_ne _ _ n269]; exact k_dX
              have n271 : dX ≠ dA := hneL k_dX k_dA (Nat.ne_of_beq_eq_false rfl)
              have h270 : f195 dX = some (.inl (cI G, 3, .inl (nf fl))) := by rw [ef195, va_up_ne _ _ n271]; exact h268
              have n273 : dY ≠ mo := hne k_dY k_mo (Nat.ne_of_beq_eq_false rfl)
              have h272 : f191 dY = some (.inl (cI G, 3, .inl gl)) := by rw [ef191, va_up_ne _ _ n273]; exact k_dY
              have n275 : dY ≠ dA := hneL k_dY k_dA (Nat.ne_of_beq_eq_false rfl)
              have h274 : f195 dY = some (.inl (cI G, 3, .inl gl)) := by rw [ef195, va_up_ne _ _ n275]; exact h272
              have n277 : dG ≠ mo := hne k_dG k_mo (Nat.ne_of_beq_eq_false rfl)
              have h276 : f191 dG = some (.inl (cI G, 60, .inl (nf gv))) := by rw [ef191, va_up_ne _ _ n277]; exact k_dG
              have n279 : dG ≠ dA := hneL k_dG k_dA (Nat.ne_of_beq_eq_false rfl)
              have h278 : f195 dG = some (.inl (cI G, 60, .inl (nf gv))) := by rw [ef195, va_up_ne _ _ n279]; exact h276
              exact hp_iret (v := (ga1 ko)) B0 hw hS hr ⟨Nat.le_of_ble_eq_true rfl, Nat.le_of_ble_eq_true rfl⟩ dX5_allow_74 (⟨Or.inl ⟨spc_0 ⟨(Or.inr rfl), b188⟩ hv8, (by rw [selE_1 rfl, nI_clamp (show ko < 2 ^ 31 by omega)]), ⟨h197, hND, ⟨_, _, _, _, _, _, _, _, _, _, _, _, _, h200, h203, h207, h211, h215, h219, h223, h227, h231, h235, h239, h243, h247, hHd9, (hMn.mono hMn9 (by omega))⟩, h251, (by rw [updE_0 (show ¬ ((1 : Int32) = 0) by decide), updE_1 (show ((1 : Int32) = 1) from rfl), nI_clamp (show ko < 2 ^ 31 by omega)]; exact h196), h254, h258, h262, h266, h270, h274, h278, (by rw [updE_0 (show ¬ ((1 : Int32) = 0) by decide), updE_1 (show ((1 : Int32) = 1) from rfl), nI_clamp (show ko < 2 ^ 31 by omega)]; intro j9 hj9; have h7 := sA_up (k := (nI (6 + ko)).toNatClampNeg) (v := xv) hSA hv8 j9 hj9; rw [jn_up1 hko] at h7; exact h7), hB9, hfl9⟩⟩, ((show hEq [mo, dW, dA, dQ, dM, dS, dL, dR, dT, dZ, dI, dH, dN, dK, dJ, dU, dO, dF, dP, dE, dX, dY, dG] f f191 from (by rw [ef191]; exact hEq.up List.mem_cons_self)).tr (show hEq [mo, dW, dA, dQ, dM, dS, dL, dR, dT, dZ, dI, dH, dN, dK, dJ, dU, dO, dF, dP, dE, dX, dY, dG] f191 f195 from (by rw [ef195]; exact hEq.up (List.mem_cons_of_mem _ (List.mem_cons_of_mem _ List.mem_cons_self)))))⟩)
            · subst ev9
              refine W.eq (g2 := F0 m 27 ls [.int 0, .ref mo]) rfl ?_
              refine lv_if_eq (tgt := 34) hx hb dX5_allow_27 (by decide) (fun _ => ?_) (fun c9 => absurd (by decide) c9)
              refine lv_iconst (v := 2) hx hb dX5_allow_34 (by decide) ?_
              refine hp_put (fs1 := [.int 2, .ref dW, .ref dA, .ref dQ, .ref dM, .ref dS, .ref dL, .ref dR, .ref dT, .ref dZ, .ref dI, .ref dH, .ref dN, .ref dK, .ref dJ, .ref dU, .ref dO, .int (nI n), .int (nI a), .ref dF, .ref dP, .ref dE, .ref dX, .ref dY, .int (nI x), .int (nI cg), .ref dG]) (ty := .int) B0 hw hS 5 rfl in_X5 tyX5 tyX5_ok nmX5 k_mo 0 (by decide) qF_X5_77 rfl (by decide +kernel) rfl rfl (Nat.le_of_ble_eq_true rfl) rfl dX5_allow_35 (fun H locs f280 ef280 hw hS => ?_)
              have h281 : f280 mo = some (.inr (5, [.int 2, .ref dW, .ref dA, .ref dQ, .ref dM, .ref dS, .ref dL, .ref dR, .ref dT, .ref dZ, .ref dI, .ref dH, .ref dN, .ref dK, .ref dJ, .ref dU, .ref dO, .int (nI n), .int (nI a), .ref dF, .ref dP, .ref dE, .ref dX, .ref dY, .int (nI x), .int (nI cg), .ref dG])) := by rw [ef280, va_up_self]
              refine lv_aload_n hx hb dX5_allow_38 rfl (lv_at hl9 0 rfl) ?_
              refine hp_get B0 hw 5 rfl in_X5 h281 0 (by decide) qF_X5_77 rfl dX5_allow_39 ?_
              refine lv_if_le (tgt := 47) hx hb dX5_allow_42 (by decide) (fun c9 => absurd c9 (by decide)) (fun _ => ?_)
              refine lv_iconst (v := 0) hx hb dX5_allow_45 (by decide) ?_
              have hs9 : spc (sE (1 : Int32) ∧ sO o) (sA xv) = 2 := spc_2 ⟨(Or.inr rfl), b188⟩ (fun h9 => b190 (by simp only [jlt, jle, tq0, tq1, tq2, tq3, tq4, tq5, tq6, tq9, tq50, tq60, tq1023, tqm1]; exact ⟨by omega, by omega⟩))
              have n283 : dQ ≠ mo := hne k_dQ k_mo (Nat.ne_of_beq_eq_false rfl)
              have h282 : f280 dQ = some (.inl (cI G, 12, .inl gQ)) := by rw [ef280, va_up_ne _ _ n283]; exact k_dQ
              have n285 : dS ≠ mo := hne k_dS k_mo (Nat.ne_of_beq_eq_false rfl)
              have h284 : f280 dS = some (.inl (cI G, 2, .inl gS)) := by rw [ef280, va_up_ne _ _ n285]; exact k_dS
              have n287 : dL ≠ mo := hne k_dL k_mo (Nat.ne_of_beq_eq_false rfl)
              have h286 : f280 dL = some (.inl (cI G, 2, .inl gL)) := by rw [ef280, va_up_ne _ _ n287]; exact k_dL
              have n289 : dR ≠ mo := hne k_dR k_mo (Nat.ne_of_beq_eq_false rfl)
              have h288 : f280 dR = some (.inl (cI G, 2, .inl gR)) := by rw [ef280, va_up_ne _ _ n289]; exact k_dR
              have n291 : dT ≠ mo := hne k_dT k_mo (Nat.ne_of_beq_eq_false rfl)
              have h290 : f280 dT = some (.inl (cI G, 2, .inl gT)) := by rw [ef280, va_up_ne _ _ n291]; exact k_dT
              have n293 : dZ ≠ mo := hne k_dZ k_mo (Nat.ne_of_beq_eq_false rfl)
              have h292 : f280 dZ = some (.inl (cZ G, 2, .inl gZ)) := by rw [ef280, va_up_ne _ _ n293]; exact k_dZ
              have n295 : dI ≠ mo := hne k_dI k_mo (Nat.ne_of_beq_eq_false rfl)
              have h294 : f280 dI = some (.inl (cI G, 2, .inl gI)) := by rw [ef280, va_up_ne _ _ n295]; exact k_dI
              have n297 : dH ≠ mo := hne k_dH k_mo (Nat.ne_of_beq_eq_false rfl)
              have h296 : f280 dH = some (.inl (cI G, 2, .inl gH)) := by rw [ef280, va_up_ne _ _ n297]; exact k_dH
              have n299 : dN ≠ mo := hne k_dN k_mo (Nat.ne_of_beq_eq_false rfl)
              have h298 : f280 dN = some (.inl (cI G, 2, .inl gN)) := by rw [ef280, va_up_ne _ _ n299]; exact k_dN
              have n301 : dK ≠ mo := hne k_dK k_mo (Nat.ne_of_beq_eq_false rfl)
              have h300 : f280 dK = some (.inl (cI G, 2048, .inl gK)) := by rw [ef280, va_up_ne _ _ n301]; exact k_dK
              have n303 : dJ ≠ mo := hne k_dJ k_mo (Nat.ne_of_beq_eq_false rfl)
              have h302 : f280 dJ = some (.inl (cI G, 2048, .inl gJ)) := by rw [ef280, va_up_ne _ _ n303]; exact k_dJ
              have n305 : dU ≠ mo := hne k_dU k_mo (Nat.ne_of_beq_eq_false rfl)
              have h304 : f280 dU = some (.inl (cI G, 2048, .inl gU)) := by rw [ef280, va_up_ne _ _ n305]; exact k_dU
              have n307 : dO ≠ mo := hne k_dO k_mo (Nat.ne_of_beq_eq_false rfl)
              have h306 : f280 dO = some (.inl (cI G, 2048, .inl gO)) := by rw [ef280, va_up_ne _ _ n307]; exact k_dO
              have n309 : dW ≠ mo := hne k_dW k_mo (Nat.ne_of_beq_eq_false rfl)
              have h308 : f280 dW = some (.inl (cI G, 12, .inl (jn gw0 gw1))) := by rw [ef280, va_up_ne _ _ n309]; exact k_dW
              have n311 : dA ≠ mo := hne k_dA k_mo (Nat.ne_of_beq_eq_false rfl)
              have h310 : f280 dA = some (.inl (cI G, 12, .inl (jn ga0 ga1))) := by rw [ef280, va_up_ne _ _ n311]; exact k_dA
              have n313 : dM ≠ mo := hne k_dM k_mo (Nat.ne_of_beq_eq_false rfl)
              have h312 : f280 dM = some (.inl (cI G, 2, .inl (mA2 mg0 mg1))) := by rw [ef280, va_up_ne _ _ n313]; exact k_dM
              have n315 : dF ≠ mo := hne k_dF k_mo (Nat.ne_of_beq_eq_false rfl)
              have h314 : f280 dF = some (.inl (cI G, 61, .inl (nf sa))) := by rw [ef280, va_up_ne _ _ n315]; exact k_dF
              have n317 : dP ≠ mo := hne k_dP k_mo (Nat.ne_of_beq_eq_false rfl)
              have h316 : f280 dP = some (.inl (cI G, 240, .inl (nf pk))) := by rw [ef280, va_up_ne _ _ n317]; exact k_dP
              have n319 : dE ≠ mo := hne k_dE k_mo (Nat.ne_of_beq_eq_false rfl)
              have h318 : f280 dE = some (.inl (cZ G, 240, .inl gh)) := by rw [ef280, va_up_ne _ _ n319]; exact k_dE
              have n321 : dX ≠ mo := hne k_dX k_mo (Nat.ne_of_beq_eq_false rfl)
              have h320 : f280 dX = some (.inl (cI G, 3, .inl (nf fl))) := by rw [ef280, va_up_ne _ _ n321]; exact k_dX
              have n323 : dY ≠ mo := hne k_dY k_mo (Nat.ne_of_beq_eq_false rfl)
              have h322 : f280 dY = some (.inl (cI G, 3, .inl gl)) := by rw [ef280, va_up_ne _ _ n323]; exact k_dY
              have n325 : dG ≠ mo := hne k_dG k_mo (Nat.ne_of_beq_eq_false rfl)
              have h324 : f280 dG = some (.inl (cI G, 60, .inl (nf gv))) := by rw [ef280, va_up_ne _ _ n325]; exact k_dG
              exact hp_iret (v := 0) B0 hw hS hr ⟨Nat.le_of_ble_eq_true rfl, Nat.le_of_ble_eq_true rfl⟩ dX5_allow_46 (⟨Or.inr ⟨(by rw [hs9]; decide), ⟨_, rfl⟩, ⟨(by rw [hs9]; exact h281), hND, ⟨_, _, _, _, _, _, _, _, _, _, _, _, _, h282, h284, h286, h288, h290, h292, h294, h296, h298, h300, h302, h304, h306, hHd9, (hMn.mono hMn9 (by omega))⟩, h308, h310, h312, h314, h316, h318, h320, h322, h324, hSA, hB9, hfl9⟩⟩, (show hEq [mo, dW, dA, dQ, dM, dS, dL, dR, dT, dZ, dI, dH, dN, dK, dJ, dU, dO, dF, dP, dE, dX, dY, dG] f f280 from (by rw [ef280]; exact hEq.up List.mem_cons_self))⟩)
        · subst ev9
          refine W.eq (g2 := F0 m 12 ls [.int 0, .ref mo]) rfl ?_
          refine lv_if_ne (tgt := 19) hx hb dX5_allow_12 (by decide) (fun c9 => absurd (by decide) c9) (fun _ => ?_)
          refine lv_iconst (v := 1) hx hb dX5_allow_15 (by decide) ?_
          refine lv_goto (tgt := 35) hx hb dX5_allow_16 (by decide) ?_
          refine hp_put (fs1 := [.int 1, .ref dW, .ref dA, .ref dQ, .ref dM, .ref dS, .ref dL, .ref dR, .ref dT, .ref dZ, .ref dI, .ref dH, .ref dN, .ref dK, .ref dJ, .ref dU, .ref dO, .int (nI n), .int (nI a), .ref dF, .ref dP, .ref dE, .ref dX, .ref dY, .int (nI x), .int (nI cg), .ref dG]) (ty := .int) B0 hw hS 5 rfl in_X5 tyX5 tyX5_ok nmX5 k_mo 0 (by decide) qF_X5_77 rfl (by decide +kernel) rfl rfl (Nat.le_of_ble_eq_true rfl) rfl dX5_allow_35 (fun H locs f326 ef326 hw hS => ?_)
          have h327 : f326 mo = some (.inr (5, [.int 1, .ref dW, .ref dA, .ref dQ, .ref dM, .ref dS, .ref dL, .ref dR, .ref dT, .ref dZ, .ref dI, .ref dH, .ref dN, .ref dK, .ref dJ, .ref dU, .ref dO, .int (nI n), .int (nI a), .ref dF, .ref dP, .ref dE, .ref dX, .ref dY, .int (nI x), .int (nI cg), .ref dG])) := by rw [ef326, va_up_self]
          refine lv_aload_n hx hb dX5_allow_38 rfl (lv_at hl9 0 rfl) ?_
          refine hp_get B0 hw 5 rfl in_X5 h327 0 (by decide) qF_X5_77 rfl dX5_allow_39 ?_
          refine lv_if_le (tgt := 47) hx hb dX5_allow_42 (by decide) (fun c9 => absurd c9 (by decide)) (fun _ => ?_)
          refine lv_iconst (v := 0) hx hb dX5_allow_45 (by decide) ?_
          have hs9 : spc (sE (1 : Int32) ∧ sO o) (sA xv) = 1 := spc_1 (fun h9 => b188 h9.2)
          have n329 : dQ ≠ mo := hne k_dQ k_mo (Nat.ne_of_beq_eq_false rfl)
          have h328 : f326 dQ = some (.inl (cI G, 12, .inl gQ)) := by rw [ef326, va_up_ne _ _ n329]; exact k_dQ
          have n331 : dS ≠ mo := hne k_dS k_mo (Nat.ne_of_beq_eq_false rfl)
          have h330 : f326 dS = some (.inl (cI G, 2, .inl gS)) := by rw [ef326, va_up_ne _ _ n331]; exact k_dS
          have n333 : dL ≠ mo := hne k_dL k_mo (Nat.ne_of_beq_eq_false rfl)
          have h332 : f326 dL = some (.inl (cI G, 2, .inl gL)) := by rw [ef326, va_up_ne _ _ n333]; exact k_dL
          have n335 : dR ≠ mo := hne k_dR k_mo (Nat.ne_of_beq_eq_false rfl)
          have h334 : f326 dR = some (.inl (cI G, 2, .inl gR)) := by rw [ef326, va_up_ne _ _ n335]; exact k_dR
          have n337 : dT ≠ mo := hne k_dT k_mo (Nat.ne_of_beq_eq_false rfl)
          have h336 : f326 dT = some (.inl (cI G, 2, .inl gT)) := by rw [ef326, va_up_ne _ _ n337]; exact k_dT
          have n339 : dZ ≠ mo := hne k_dZ k_mo (Nat.ne_of_beq_eq_false rfl)
          have h338 : f326 dZ = some (.inl (cZ G, 2, .inl gZ)) := by rw [ef326, va_up_ne _ _ n339]; exact k_dZ
          have n341 : dI ≠ mo := hne k_dI k_mo (Nat.ne_of_beq_eq_false rfl)
          have h340 : f326 dI = some (.inl (cI G, 2, .inl gI)) := by rw [ef326, va_up_ne _ _ n341]; exact k_dI
          have n343 : dH ≠ mo := hne k_dH k_mo (Nat.ne_of_beq_eq_false rfl)
          have h342 : f326 dH = some (.inl (cI G, 2, .inl gH)) := by rw [ef326, va_up_ne _ _ n343]; exact k_dH
          have n345 : dN ≠ mo := hne k_dN k_mo (Nat.ne_of_beq_eq_false rfl)
          have h344 : f326 dN = some (.inl (cI G, 2, .inl gN)) := by rw [ef326, va_up_ne _ _ n345]; exact k_dN
          have n347 : dK ≠ mo := hne k_dK k_mo (Nat.ne_of_beq_eq_false rfl)
          have h346 : f326 dK = some (.inl (cI G, 2048, .inl gK)) := by rw [ef326, va_up_ne _ _ n347]; exact k_dK
          have n349 : dJ ≠ mo := hne k_dJ k_mo (Nat.ne_of_beq_eq_false rfl)
          have h348 : f326 dJ = some (.inl (cI G, 2048, .inl gJ)) := by rw [ef326, va_up_ne _ _ n349]; exact k_dJ
          have n351 : dU ≠ mo := hne k_dU k_mo (Nat.ne_of_beq_eq_false rfl)
          have h350 : f326 dU = some (.inl (cI G, 2048, .inl gU)) := by rw [ef326, va_up_ne _ _ n351]; exact k_dU
          have n353 : dO ≠ mo := hne k_dO k_mo (Nat.ne_of_beq_eq_false rfl)
          have h352 : f326 dO = some (.inl (cI G, 2048, .inl gO)) := by rw [ef326, va_up_ne _ _ n353]; exact k_dO
          have n355 : dW ≠ mo := hne k_dW k_mo (Nat.ne_of_beq_eq_false rfl)
          have h354 : f326 dW = some (.inl (cI G, 12, .inl (jn gw0 gw1))) := by rw [ef326, va_up_ne _ _ n355]; exact k_dW
          have n357 : dA ≠ mo := hne k_dA k_mo (Nat.ne_of_beq_eq_false rfl)
          have h356 : f326 dA = some (.inl (cI G, 12, .inl (jn ga0 ga1))) := by rw [ef326, va_up_ne _ _ n357]; exact k_dA
          have n359 : dM ≠ mo := hne k_dM k_mo (Nat.ne_of_beq_eq_false rfl)
          have h358 : f326 dM = some (.inl (cI G, 2, .inl (mA2 mg0 mg1))) := by rw [ef326, va_up_ne _ _ n359]; exact k_dM
          have n361 : dF ≠ mo := hne k_dF k_mo (Nat.ne_of_beq_eq_false rfl)
          have h360 : f326 dF = some (.inl (cI G, 61, .inl (nf sa))) := by rw [ef326, va_up_ne _ _ n361]; exact k_dF
          have n363 : dP ≠ mo := hne k_dP k_mo (Nat.ne_of_beq_eq_false rfl)
          have h362 : f326 dP = some (.inl (cI G, 240, .inl (nf pk))) := by rw [ef326, va_up_ne _ _ n363]; exact k_dP
          have n365 : dE ≠ mo := hne k_dE k_mo (Nat.ne_of_beq_eq_false rfl)
          have h364 : f326 dE = some (.inl (cZ G, 240, .inl gh)) := by rw [ef326, va_up_ne _ _ n365]; exact k_dE
          have n367 : dX ≠ mo := hne k_dX k_mo (Nat.ne_of_beq_eq_false rfl)
          have h366 : f326 dX = some (.inl (cI G, 3, .inl (nf fl))) := by rw [ef326, va_up_ne _ _ n367]; exact k_dX
          have n369 : dY ≠ mo := hne k_dY k_mo (Nat.ne_of_beq_eq_false rfl)
          have h368 : f326 dY = some (.inl (cI G, 3, .inl gl)) := by rw [ef326, va_up_ne _ _ n369]; exact k_dY
          have n371 : dG ≠ mo := hne k_dG k_mo (Nat.ne_of_beq_eq_false rfl)
          have h370 : f326 dG = some (.inl (cI G, 60, .inl (nf gv))) := by rw [ef326, va_up_ne _ _ n371]; exact k_dG
          exact hp_iret (v := 0) B0 hw hS hr ⟨Nat.le_of_ble_eq_true rfl, Nat.le_of_ble_eq_true rfl⟩ dX5_allow_46 (⟨Or.inr ⟨(by rw [hs9]; decide), ⟨_, rfl⟩, ⟨(by rw [hs9]; exact h327), hND, ⟨_, _, _, _, _, _, _, _, _, _, _, _, _, h328, h330, h332, h334, h336, h338, h340, h342, h344, h346, h348, h350, h352, hHd9, (hMn.mono hMn9 (by omega))⟩, h354, h356, h358, h360, h362, h364, h366, h368, h370, hSA, hB9, hfl9⟩⟩, (show hEq [mo, dW, dA, dQ, dM, dS, dL, dR, dT, dZ, dI, dH, dN, dK, dJ, dU, dO, dF, dP, dE, dX, dY, dG] f f326 from (by rw [ef326]; exact hEq.up List.mem_cons_self))⟩)
    · subst ev9
      refine W.eq (g2 := F0 m 5 ls [.int 0, .ref mo]) rfl ?_
      refine lv_if_eq (tgt := 15) hx hb dX5_allow_5 (by decide) (fun _ => ?_) (fun c9 => absurd (by decide) c9)
      refine lv_iconst (v := 1) hx hb dX5_allow_15 (by decide) ?_
      refine lv_goto (tgt := 35) hx hb dX5_allow_16 (by decide) ?_
      refine hp_put (fs1 := [.int 1, .ref dW, .ref dA, .ref dQ, .ref dM, .ref dS, .ref dL, .ref dR, .ref dT, .ref dZ, .ref dI, .ref dH, .ref dN, .ref dK, .ref dJ, .ref dU, .ref dO, .int (nI n), .int (nI a), .ref dF, .ref dP, .ref dE, .ref dX, .ref dY, .int (nI x), .int (nI cg), .ref dG]) (ty := .int) B0 hw hS 5 rfl in_X5 tyX5 tyX5_ok nmX5 k_mo 0 (by decide) qF_X5_77 rfl (by decide +kernel) rfl rfl (Nat.le_of_ble_eq_true rfl) rfl dX5_allow_35 (fun H locs f372 ef372 hw hS => ?_)
      have h373 : f372 mo = some (.inr (5, [.int 1, .ref dW, .ref dA, .ref dQ, .ref dM, .ref dS, .ref dL, .ref dR, .ref dT, .ref dZ, .ref dI, .ref dH, .ref dN, .ref dK, .ref dJ, .ref dU, .ref dO, .int (nI n), .int (nI a), .ref dF, .ref dP, .ref dE, .ref dX, .ref dY, .int (nI x), .int (nI cg), .ref dG])) := by rw [ef372, va_up_self]
      refine lv_aload_n hx hb dX5_allow_38 rfl (lv_at hl9 0 rfl) ?_
      refine hp_get B0 hw 5 rfl in_X5 h373 0 (by decide) qF_X5_77 rfl dX5_allow_39 ?_
      refine lv_if_le (tgt := 47) hx hb dX5_allow_42 (by decide) (fun c9 => absurd c9 (by decide)) (fun _ => ?_)
      refine lv_iconst (v := 0) hx hb dX5_allow_45 (by decide) ?_
      have hs9 : spc (sE i ∧ sO o) (sA xv) = 1 := spc_1 (fun h9 => hnE h9.1)
      have n375 : dQ ≠ mo := hne k_dQ k_mo (Nat.ne_of_beq_eq_false rfl)
      have h374 : f372 dQ = some (.inl (cI G, 12, .inl gQ)) := by rw [ef372, va_up_ne _ _ n375]; exact k_dQ
      have n377 : dS ≠ mo := hne k_dS k_mo (Nat.ne_of_beq_eq_false rfl)
      have h376 : f372 dS = some (.inl (cI G, 2, .inl gS)) := by rw [ef372, va_up_ne _ _ n377]; exact k_dS
      have n379 : dL ≠ mo := hne k_dL k_mo (Nat.ne_of_beq_eq_false rfl)
      have h378 : f372 dL = some (.inl (cI G, 2, .inl gL)) := by rw [ef372, va_up_ne _ _ n379]; exact k_dL
      have n381 : dR ≠ mo := hne k_dR k_mo (Nat.ne_of_beq_eq_false rfl)
      have h380 : f372 dR = some (.inl (cI G, 2, .inl gR)) := by rw [ef372, va_up_ne _ _ n381]; exact k_dR
      have n383 : dT ≠ mo := hne k_dT k_mo (Nat.ne_of_beq_eq_false rfl)
      have h382 : f372 dT = some (.inl (cI G, 2, .inl gT)) := by rw [ef372, va_up_ne _ _ n383]; exact k_dT
      have n385 : dZ ≠ mo := hne k_dZ k_mo (Nat.ne_of_beq_eq_false rfl)
      have h384 : f372 dZ = some (.inl (cZ G, 2, .inl gZ)) := by rw [ef372, va_up_ne _ _ n385]; exact k_dZ
      have n387 : dI ≠ mo := hne k_dI k_mo (Nat.ne_of_beq_eq_false rfl)
      have h386 : f372 dI = some (.inl (cI G, 2, .inl gI)) := by rw [ef372, va_up_ne _ _ n387]; exact k_dI
      have n389 : dH ≠ mo := hne k_dH k_mo (Nat.ne_of_beq_eq_false rfl)
      have h388 : f372 dH = some (.inl (cI G, 2, .inl gH)) := by rw [ef372, va_up_ne _ _ n389]; exact k_dH
      have n391 : dN ≠ mo := hne k_dN k_mo (Nat.ne_of_beq_eq_false rfl)
      have h390 : f372 dN = some (.inl (cI G, 2, .inl gN)) := by rw [ef372, va_up_ne _ _ n391]; exact k_dN
      have n393 : dK ≠ mo := hne k_dK k_mo (Nat.ne_of_beq_eq_false rfl)
      have h392 : f372 dK = some (.inl (cI G, 2048, .inl gK)) := by rw [ef372, va_up_ne _ _ n393]; exact k_dK
      have n395 : dJ ≠ mo := hne k_dJ k_mo (Nat.ne_of_beq_eq_false rfl)
      have h394 : f372 dJ = some (.inl (cI G, 2048, .inl gJ)) := by rw [ef372, va_up_ne _ _ n395]; exact k_dJ
      have n397 : dU ≠ mo := hne k_dU k_mo (Nat.ne_of_beq_eq_false rfl)
      have h396 : f372 dU = some (.inl (cI G, 2048, .inl gU)) := by rw [ef372, va_up_ne _ _ n397]; exact k_dU
      have n399 : dO ≠ mo := hne k_dO k_mo (Nat.ne_of_beq_eq_false rfl)
      have h398 : f372 dO = some (.inl (cI G, 2048, .inl gO)) := by rw [ef372, va_up_ne _ _ n399]; exact k_dO
      have n401 : dW ≠ mo := hne k_dW k_mo (Nat.ne_of_beq_eq_false rfl)
      have h400 : f372 dW = some (.inl (cI G, 12, .inl (jn gw0 gw1))) := by rw [ef372, va_up_ne _ _ n401]; exact k_dW
      have n403 : dA ≠ mo := hne k_dA k_mo (Nat.ne_of_beq_eq_false rfl)
      have h402 : f372 dA = some (.inl (cI G, 12, .inl (jn ga0 ga1))) := by rw [ef372, va_up_ne _ _ n403]; exact k_dA
      have n405 : dM ≠ mo := hne k_dM k_mo (Nat.ne_of_beq_eq_false rfl)
      have h404 : f372 dM = some (.inl (cI G, 2, .inl (mA2 mg0 mg1))) := by rw [ef372, va_up_ne _ _ n405]; exact k_dM
      have n407 : dF ≠ mo := hne k_dF k_mo (Nat.ne_of_beq_eq_false rfl)
      have h406 : f372 dF = some (.inl (cI G, 61, .inl (nf sa))) := by rw [ef372, va_up_ne _ _ n407]; exact k_dF
      have n409 : dP ≠ mo := hne k_dP k_mo (Nat.ne_of_beq_eq_false rfl)
      have h408 : f372 dP = some (.inl (cI G, 240, .inl (nf pk))) := by rw [ef372, va_up_ne _ _ n409]; exact k_dP
      have n411 : dE ≠ mo := hne k_dE k_mo (Nat.ne_of_beq_eq_false rfl)
      have h410 : f372 dE = some (.inl (cZ G, 240, .inl gh)) := by rw [ef372, va_up_ne _ _ n411]; exact k_dE
      have n413 : dX ≠ mo := hne k_dX k_mo (Nat.ne_of_beq_eq_false rfl)
      have h412 : f372 dX = some (.inl (cI G, 3, .inl (nf fl))) := by rw [ef372, va_up_ne _ _ n413]; exact k_dX
      have n415 : dY ≠ mo := hne k_dY k_mo (Nat.ne_of_beq_eq_false rfl)
      have h414 : f372 dY = some (.inl (cI G, 3, .inl gl)) := by rw [ef372, va_up_ne _ _ n415]; exact k_dY
      have n417 : dG ≠ mo := hne k_dG k_mo (Nat.ne_of_beq_eq_false rfl)
      have h416 : f372 dG = some (.inl (cI G, 60, .inl (nf gv))) := by rw [ef372, va_up_ne _ _ n417]; exact k_dG
      exact hp_iret (v := 0) B0 hw hS hr ⟨Nat.le_of_ble_eq_true rfl, Nat.le_of_ble_eq_true rfl⟩ dX5_allow_46 (⟨Or.inr ⟨(by rw [hs9]; decide), ⟨_, rfl⟩, ⟨(by rw [hs9]; exact h373), hND, ⟨_, _, _, _, _, _, _, _, _, _, _, _, _, h374, h376, h378, h380, h382, h384, h386, h388, h390, h392, h394, h396, h398, hHd9, (hMn.mono hMn9 (by omega))⟩, h400, h402, h404, h406, h408, h410, h412, h414, h416, hSA, hB9, hfl9⟩⟩, (show hEq [mo, dW, dA, dQ, dM, dS, dL, dR, dT, dZ, dI, dH, dN, dK, dJ, dU, dO, dF, dP, dE, dX, dY, dG] f f372 from (by rw [ef372]; exact hEq.up List.mem_cons_self))⟩)

set_option maxHeartbeats 4000000 in
set_option maxRecDepth 100000 in
theorem c_W5_setMagic {l : Launch} (hl : l.stackTraces = false) (G : hG) (f : hM) (mo dW dA dQ dM dS dL dR dT dZ dI dH dN dK dJ dU dO dF dP dE dX dY dG : Nat) (th : Int32) (B : Nat) (gw0 : Nat → Int32) (ga0 : Nat → Int32) (gw1 : Nat → Int32) (ga1 : Nat → Int32) (mg0 : Int32) (mg1 : Int32) (n : Nat) (a : Nat) (cg : Nat) (x : Nat) (sa : Nat → Nat) (pk : Nat → Nat) (fl : Nat → Nat) (gv : Nat → Nat) (gh : Nat → Int32) (gl : Nat → Int32) (hC : MW G f mo dW dA dQ dM dS dL dR dT dZ dI dH dN dK dJ dU dO dF dP dE dX dY dG th B gw0 ga0 gw1 ga1 mg0 mg1 n a cg x sa pk fl gv gh gl) (hBB : B + 100 < 100000) (i xv : Int32) : CT l yX5_setMagic (.code yX5_setMagic cX5_setMagic 4 (some .int)) 2 42 0 0 G [.ref mo, .int i, .int xv] f (fun v f1 => ((spc (sE i) True = 0 ∧ v = some (.int (if i = 0 then mg0 else mg1)) ∧ MW G f1 mo dW dA dQ dM dS dL dR dT dZ dI dH dN dK dJ dU dO dF dP dE dX dY dG 0 B gw0 ga0 gw1 ga1 (if i = 0 then xv else mg0) (if i = 1 then xv else mg1) n a cg x sa pk fl gv gh gl) ∨ (¬ spc (sE i) True = 0 ∧ (∃ r9 : Int32, v = some (.int r9)) ∧ MW G f1 mo dW dA dQ dM dS dL dR dT dZ dI dH dN dK dJ dU dO dF dP dE dX dY dG (spc (sE i) True) B gw0 ga0 gw1 ga1 mg0 mg1 n a cg x sa pk fl gv gh gl)) ∧ hEq [mo, dW, dA, dQ, dM, dS, dL, dR, dT, dZ, dI, dH, dN, dK, dJ, dU, dO, dF, dP, dE, dX, dY, dG] f f1) (fun E f1 => False) := by
  refine hp_start hl (own := RX5) (by decide) rfl (Nat.le_of_ble_eq_true rfl) ?_
  intro p e s m args below meth c B0 hr hnm hout hw hS ls hl9
  have hx := B0.1
  have hb := B0.2.1
  have hl9 : lv_has ls 4 [(0, .ref mo), (1, .int i), (2, .int xv)] := hl9
  obtain ⟨k_mo, hND, hLM, k_dW, k_dA, k_dM, k_dF, k_dP, k_dE, k_dX, k_dY, k_dG, hSA, hB9, hfl9⟩ := id hC
  obtain ⟨nd_dW_dA, nd_dW_dQ, nd_dA_dQ, nd_dM_dS, nd_dM_dL, nd_dM_dR, nd_dM_dT, nd_dM_dZ, nd_dM_dI, nd_dM_dH, nd_dM_dN, nd_dS_dL, nd_dS_dR, nd_dS_dT, nd_dS_dZ, nd_dS_dI, nd_dS_dH, nd_dS_dN, nd_dL_dR, nd_dL_dT, nd_dL_dZ, nd_dL_dI, nd_dL_dH, nd_dL_dN, nd_dR_dT, nd_dR_dZ, nd_dR_dI, nd_dR_dH, nd_dR_dN, nd_dT_dZ, nd_dT_dI, nd_dT_dH, nd_dT_dN, nd_dZ_dI, nd_dZ_dH, nd_dZ_dN, nd_dI_dH, nd_dI_dN, nd_dH_dN, nd_dK_dJ, nd_dK_dU, nd_dK_dO, nd_dJ_dU, nd_dJ_dO, nd_dU_dO, nd_dP_dE, nd_dX_dY⟩ := id hND
  obtain ⟨gQ, gS, gL, gR, gT, gZ, gI, gH, gN, gK, gJ, gU, gO, k_dQ, k_dS, k_dL, k_dR, k_dT, k_dZ, k_dI, k_dH, k_dN, k_dK, k_dJ, k_dU, k_dO, hHd9, hMn9⟩ := id hLM
  refine lv_aload_n hx hb dX5_setMagic_0 rfl (lv_at hl9 0 rfl) ?_
  refine lv_iload_n hx hb dX5_setMagic_1 rfl (lv_at hl9 1 rfl) ?_
  refine hp_S (As := [.int i]) (rest := [.ref mo]) B0 hw hS (c_X5_isEnd hl G f i) mS_X5_isEnd qM_X5_85 rfl rfl hl9.1 (Nat.le_of_ble_eq_true rfl) ⟨⟨Nat.le_of_ble_eq_true rfl, Nat.le_of_ble_eq_true rfl⟩, Nat.le_of_ble_eq_true rfl, Nat.le_of_ble_eq_true rfl⟩ dX5_setMagic_2 (fun E ce q9 f1 H locs hPX hw hS hce hcv hcl => ?_) (fun v f1 H locs hP hw hS => ?_)
  · exact hPX.elim
  · obtain ⟨ef9, hv9⟩ := hP
    rw [ef9] at hw
    rcases hv9 with ⟨b9 | b9, ev9⟩ | ⟨hnE, ev9⟩
    · subst ev9
      subst b9
      refine W.eq (g2 := F0 m 5 ls [.int 1, .ref mo]) rfl ?_
      refine lv_if_eq (tgt := 12) hx hb dX5_setMagic_5 (by decide) (fun c9 => absurd c9 (by decide)) (fun _ => ?_)
      refine lv_iconst (v := 0) hx hb dX5_setMagic_8 (by decide) ?_
      refine lv_goto (tgt := 13) hx hb dX5_setMagic_9 (by decide) ?_
      refine hp_put (fs1 := [.int 0, .ref dW, .ref dA, .ref dQ, .ref dM, .ref dS, .ref dL, .ref dR, .ref dT, .ref dZ, .ref dI, .ref dH, .ref dN, .ref dK, .ref dJ, .ref dU, .ref dO, .int (nI n), .int (nI a), .ref dF, .ref dP, .ref dE, .ref dX, .ref dY, .int (nI x), .int (nI cg), .ref dG]) (ty := .int) B0 hw hS 5 rfl in_X5 tyX5 tyX5_ok nmX5 k_mo 0 (by decide) qF_X5_77 rfl (by decide +kernel) rfl rfl (Nat.le_of_ble_eq_true rfl) rfl dX5_setMagic_13 (fun H locs f2 ef2 hw hS => ?_)
      have h3 : f2 mo = some (.inr (5, [.int 0, .ref dW, .ref dA, .ref dQ, .ref dM, .ref dS, .ref dL, .ref dR, .ref dT, .ref dZ, .ref dI, .ref dH, .ref dN, .ref dK, .ref dJ, .ref dU, .ref dO, .int (nI n), .int (nI a), .ref dF, .ref dP, .ref dE, .ref dX, .ref dY, .int (nI x), .int (nI cg), .ref dG])) := by rw [ef2, va_up_self]
      refine lv_aload_n hx hb dX5_setMagic_16 rfl (lv_at hl9 0 rfl) ?_
      refine hp_get B0 hw 5 rfl in_X5 h3 0 (by decide) qF_X5_77 rfl dX5_setMagic_17 ?_
      refine lv_if_le (tgt := 25) hx hb dX5_setMagic_20 (by decide) (fun _ => ?_) (fun c9 => absurd (by decide) c9)
      refine lv_aload_n hx hb dX5_setMagic_25 rfl (lv_at hl9 0 rfl) ?_
      refine hp_get B0 hw 5 rfl in_X5 h3 4 (by decide) qF_X5_19 rfl dX5_setMagic_26 ?_
      refine lv_iload_n hx hb dX5_setMagic_29 rfl (lv_at hl9 1 rfl) ?_
      have n5 : dM ≠ mo := hne k_dM k_mo (Nat.ne_of_beq_eq_false rfl)
      have h4 : f2 dM = some (.inl (cI G, 2, .inl (mA2 mg0 mg1))) := by rw [ef2, va_up_ne _ _ n5]; exact k_dM
      refine hp_iald B0 hw h4 (by unfold vp_in; decide) dX5_setMagic_30 ?_
      refine hp_c (v := mg0) (rfl) ?_
      refine lv_istore_n (lv' := [(3, .int mg0), (0, .ref mo), (1, .int 0), (2, .int xv)]) hx hb dX5_setMagic_31 rfl hl9 (by decide) rfl (fun ls hl9 => ?_)
      refine lv_aload_n hx hb dX5_setMagic_32 rfl (lv_at hl9 1 rfl) ?_
      refine hp_get B0 hw 5 rfl in_X5 h3 4 (by decide) qF_X5_19 rfl dX5_setMagic_33 ?_
      refine lv_iload_n hx hb dX5_setMagic_36 rfl (lv_at hl9 2 rfl) ?_
      refine lv_iload_n hx hb dX5_setMagic_37 rfl (lv_at hl9 3 rfl) ?_
      refine hp_iast B0 hw hS h4 (by unfold vp_in; decide) dX5_setMagic_38 (fun H locs f6 ef6 hw hS => ?_)
      rw [show (upd (mA2 mg0 mg1) (0 : Int32).toNatClampNeg xv : Nat → Int32) = (mA2 xv mg1) from mA2_up0 _ _ _] at ef6
      have h7 : f6 dM = some (.inl (cI G, 2, .inl (mA2 xv mg1))) := by rw [ef6, va_up_self]
      refine lv_iload_n hx hb dX5_setMagic_39 rfl (lv_at hl9 0 rfl) ?_
      have h8 : f6 mo = some (.inr (5, [.int 0, .ref dW, .ref dA, .ref dQ, .ref dM, .ref dS, .ref dL, .ref dR, .ref dT, .ref dZ, .ref dI, .ref dH, .ref dN, .ref dK, .ref dJ, .ref dU, .ref dO, .int (nI n), .int (nI a), .ref dF, .ref dP, .ref dE, .ref dX, .ref dY, .int (nI x), .int (nI cg), .ref dG])) := by rw [ef6, va_up_ne _ _ (Ne.symm n5)]; exact h3
      have n10 : dQ ≠ mo := hne k_dQ k_mo (Nat.ne_of_beq_eq_false rfl)
      have h9 : f2 dQ = some (.inl (cI G, 12, .inl gQ)) := by rw [ef2, va_up_ne _ _ n10]; exact k_dQ
      have n12 : dQ ≠ dM := hneL k_dQ k_dM (Nat.ne_of_beq_eq_false rfl)
      have h11 : f6 dQ = some (.inl (cI G, 12, .inl gQ)) := by rw [ef6, va_up_ne _ _ n12]; exact h9
      have n14 : dS ≠ mo := hne k_dS k_mo (Nat.ne_of_beq_eq_false rfl)
      have h13 : f2 dS = some (.inl (cI G, 2, .inl gS)) := by rw [ef2, va_up_ne _ _ n14]; exact k_dS
      have h15 : f6 dS = some (.inl (cI G, 2, .inl gS)) := by rw [ef6, va_up_ne _ _ (Ne.symm nd_dM_dS)]; exact h13
      have n17 : dL ≠ mo := hne k_dL k_mo (Nat.ne_of_beq_eq_false rfl)
      have h16 : f2 dL = some (.inl (cI G, 2, .inl gL)) := by rw [ef2, va_up_ne _ _ n17]; exact k_dL
      have h18 : f6 dL = some (.inl (cI G, 2, .inl gL)) := by rw [ef6, va_up_ne _ _ (Ne.symm nd_dM_dL)]; exact h16
      have n20 : dR ≠ mo := hne k_dR k_mo (Nat.ne_of_beq_eq_false rfl)
      have h19 : f2 dR = some (.inl (cI G, 2, .inl gR)) := by rw [ef2, va_up_ne _ _ n20]; exact k_dR
      have h21 : f6 dR = some (.inl (cI G, 2, .inl gR)) := by rw [ef6, va_up_ne _ _ (Ne.symm nd_dM_dR)]; exact h19
      have n23 : dT ≠ mo := hne k_dT k_mo (Nat.ne_of_beq_eq_false rfl)
      have h22 : f2 dT = some (.inl (cI G, 2, .inl gT)) := by rw [ef2, va_up_ne _ _ n23]; exact k_dT
      have h24 : f6 dT = some (.inl (cI G, 2, .inl gT)) := by rw [ef6, va_up_ne _ _ (Ne.symm nd_dM_dT)]; exact h22
      have n26 : dZ ≠ mo := hne k_dZ k_mo (Nat.ne_of_beq_eq_false rfl)
      have h25 : f2 dZ = some (.inl (cZ G, 2, .inl gZ)) := by rw [ef2, va_up_ne _ _ n26]; exact k_dZ
      have h27 : f6 dZ = some (.inl (cZ G, 2, .inl gZ)) := by rw [ef6, va_up_ne _ _ (Ne.symm nd_dM_dZ)]; exact h25
      have n29 : dI ≠ mo := hne k_dI k_mo (Nat.ne_of_beq_eq_false rfl)
      have h28 : f2 dI = some (.inl (cI G, 2, .inl gI)) := by rw [ef2, va_up_ne _ _ n29]; exact k_dI
      have h30 : f6 dI = some (.inl (cI G, 2, .inl gI)) := by rw [ef6, va_up_ne _ _ (Ne.symm nd_dM_dI)]; exact h28
      have n32 : dH ≠ mo := hne k_dH k_mo (Nat.ne_of_beq_eq_false rfl)
      have h31 : f2 dH = some (.inl (cI G, 2, .inl gH)) := by rw [ef2, va_up_ne _ _ n32]; exact k_dH
      have h33 : f6 dH = some (.inl (cI G, 2, .inl gH)) := by rw [ef6, va_up_ne _ _ (Ne.symm nd_dM_dH)]; exact h31
      have n35 : dN ≠ mo := hne k_dN k_mo (Nat.ne_of_beq_eq_false rfl)
      have h34 : f2 dN = some (.inl (cI G, 2, .inl gN)) := by rw [ef2, va_up_ne _ _ n35]; exact k_dN
      have h36 : f6 dN = some (.inl (cI G, 2, .inl gN)) := by rw [ef6, va_up_ne _ _ (Ne.symm nd_dM_dN)]; exact h34
      have n38 : dK ≠ mo := hne k_dK k_mo (Nat.ne_of_beq_eq_false rfl)
      have h37 : f2 dK = some (.inl (cI G, 2048, .inl gK)) := by rw [ef2, va_up_ne _ _ n38]; exact k_dK
      have n40 : dK ≠ dM := hneL k_dK k_dM (Nat.ne_of_beq_eq_false rfl)
      have h39 : f6 dK = some (.inl (cI G, 2048, .inl gK)) := by rw [ef6, va_up_ne _ _ n40]; exact h37
      have n42 : dJ ≠ mo := hne k_dJ k_mo (Nat.ne_of_beq_eq_false rfl)
      have h41 : f2 dJ = some (.inl (cI G, 2048, .inl gJ)) := by rw [ef2, va_up_ne _ _ n42]; exact k_dJ
      have n44 : dJ ≠ dM := hneL k_dJ k_dM (Nat.ne_of_beq_eq_false rfl)
      have h43 : f6 dJ = some (.inl (cI G, 2048, .inl gJ)) := by rw [ef6, va_up_ne _ _ n44]; exact h41
      have n46 : dU ≠ mo := hne k_dU k_mo (Nat.ne_of_beq_eq_false rfl)
      have h45 : f2 dU = some (.inl (cI G, 2048, .inl gU)) := by rw [ef2, va_up_ne _ _ n46]; exact k_dU
      have n48 : dU ≠ dM := hneL k_dU k_dM (Nat.ne_of_beq_eq_false rfl)
      have h47 : f6 dU = some (.inl (cI G, 2048, .inl gU)) := by rw [ef6, va_up_ne _ _ n48]; exact h45
      have n50 : dO ≠ mo := hne k_dO k_mo (Nat.ne_of_beq_eq_false rfl)
      have h49 : f2 dO = some (.inl (cI G, 2048, .inl gO)) := by rw [ef2, va_up_ne _ _ n50]; exact k_dO
      have n52 : dO ≠ dM := hneL k_dO k_dM (Nat.ne_of_beq_eq_false rfl)
      have h51 : f6 dO = some (.inl (cI G, 2048, .inl gO)) := by rw [ef6, va_up_ne _ _ n52]; exact h49
      have n54 : dW ≠ mo := hne k_dW k_mo (Nat.ne_of_beq_eq_false rfl)
      have h53 : f2 dW = some (.inl (cI G, 12, .inl (jn gw0 gw1))) := by rw [ef2, va_up_ne _ _ n54]; exact k_dW
      have n56 : dW ≠ dM := hneL k_dW k_dM (Nat.ne_of_beq_eq_false rfl)
      have h55 : f6 dW = some (.inl (cI G, 12, .inl (jn gw0 gw1))) := by rw [ef6, va_up_ne _ _ n56]; exact h53
      have n58 : dA ≠ mo := hne k_dA k_mo (Nat.ne_of_beq_eq_false rfl)
      have h57 : f2 dA = some (.inl (cI G, 12, .inl (jn ga0 ga1))) := by rw [ef2, va_up_ne _ _ n58]; exact k_dA
      have n60 : dA ≠ dM := hneL k_dA k_dM (Nat.ne_of_beq_eq_false rfl)
      have h59 : f6 dA = some (.inl (cI G, 12, .inl (jn ga0 ga1))) := by rw [ef6, va_up_ne _ _ n60]; exact h57
      have n62 : dF ≠ mo := hne k_dF k_mo (Nat.ne_of_beq_eq_false rfl)
      have h61 : f2 dF = some (.inl (cI G, 61, .inl (nf sa))) := by rw [ef2, va_up_ne _ _ n62]; exact k_dF
      have n64 : dF ≠ dM := hneL k_dF k_dM (Nat.ne_of_beq_eq_false rfl)
      have h63 : f6 dF = some (.inl (cI G, 61, .inl (nf sa))) := by rw [ef6, va_up_ne _ _ n64]; exact h61
      have n66 : dP ≠ mo := hne k_dP k_mo (Nat.ne_of_beq_eq_false rfl)
      have h65 : f2 dP = some (.inl (cI G, 240, .inl (nf pk))) := by rw [ef2, va_up_ne _ _ n66]; exact k_dP
      have n68 : dP ≠ dM := hneL k_dP k_dM (Nat.ne_of_beq_eq_false rfl)
      have h67 : f6 dP = some (.inl (cI G, 240, .inl (nf pk))) := by rw [ef6, va_up_ne _ _ n68]; exact h65
      have n70 : dE ≠ mo := hne k_dE k_mo (Nat.ne_of_beq_eq_false rfl)
      have h69 : f2 dE = some (.inl (cZ G, 240, .inl gh)) := by rw [ef2, va_up_ne _ _ n70]; exact k_dE
      have n72 : dE ≠ dM := hneL k_dE k_dM (Nat.ne_of_beq_eq_false rfl)
      have h71 : f6 dE = some (.inl (cZ G, 240, .inl gh)) := by rw [ef6, va_up_ne _ _ n72]; exact h69
      have n74 : dX ≠ mo := hne k_dX k_mo (Nat.ne_of_beq_eq_false rfl)
      have h73 : f2 dX = some (.inl (cI G, 3, .inl (nf fl))) := by rw [ef2, va_up_ne _ _ n74]; exact k_dX
      have n76 : dX ≠ dM := hneL k_dX k_dM (Nat.ne_of_beq_eq_false rfl)
      have h75 : f6 dX = some (.inl (cI G, 3, .inl (nf fl))) := by rw [ef6, va_up_ne _ _ n76]; exact h73
      have n78 : dY ≠ mo := hne k_dY k_mo (Nat.ne_of_beq_eq_false rfl)
      have h77 : f2 dY = some (.inl (cI G, 3, .inl gl)) := by rw [ef2, va_up_ne _ _ n78]; exact k_dY
      have n80 : dY ≠ dM := hneL k_dY k_dM (Nat.ne_of_beq_eq_false rfl)
      have h79 : f6 dY = some (.inl (cI G, 3, .inl gl)) := by rw [ef6, va_up_ne _ _ n80]; exact h77
      have n82 : dG ≠ mo := hne k_dG k_mo (Nat.ne_of_beq_eq_false rfl)
      have h81 : f2 dG = some (.inl (cI G, 60, .inl (nf gv))) := by rw [ef2, va_up_ne _ _ n82]; exact k_dG
      have n84 : dG ≠ dM := hneL k_dG k_dM (Nat.ne_of_beq_eq_false rfl)
      have h83 : f6 dG = some (.inl (cI G, 60, .inl (nf gv))) := by rw [ef6, va_up_ne _ _ n84]; exact h81
      exact hp_iret (v := mg0) B0 hw hS hr ⟨Nat.le_of_ble_eq_true rfl, Nat.le_of_ble_eq_true rfl⟩ dX5_setMagic_40 (⟨Or.inl ⟨spc_0 (Or.inl rfl) trivial, (by rw [if_pos (show ((0 : Int32) = 0) from rfl)]), ⟨h8, hND, ⟨_, _, _, _, _, _, _, _, _, _, _, _, _, h11, h15, h18, h21, h24, h27, h30, h33, h36, h39, h43, h47, h51, hHd9, (hMn.mono hMn9 (by omega))⟩, h55, h59, (by rw [if_pos (show ((0 : Int32) = 0) from rfl), if_neg (show ¬ ((0 : Int32) = 1) by decide)]; exact h7), h63, h67, h71, h75, h79, h83, hSA, hB9, hfl9⟩⟩, ((show hEq [mo, dW, dA, dQ, dM, dS, dL, dR, dT, dZ, dI, dH, dN, dK, dJ, dU, dO, dF, dP, dE, dX, dY, dG] f f2 from (by rw [ef2]; exact hEq.up List.mem_cons_self)).tr (show hEq [mo, dW, dA, dQ, dM, dS, dL, dR, dT, dZ, dI, dH, dN, dK, dJ, dU, dO, dF, dP, dE, dX, dY, dG] f2 f6 from (by rw [ef6]; exact hEq.up (List.mem_cons_of_mem _ (List.mem_cons_of_mem _ (List.mem_cons_of_mem _ (List.mem_cons_of_mem _ List.mem_cons_self)))))))⟩)
    · subst ev9
      subst b9
      refine W.eq (g2 := F0 m 5 ls [.int 1, .ref mo]) rfl ?_
      refine lv_if_eq (tgt := 12) hx hb dX5_setMagic_5 (by decide) (fun c9 => absurd c9 (by decide)) (fun _ => ?_)
      refine lv_iconst (v := 0) hx hb dX5_setMagic_8 (by decide) ?_
      refine lv_goto (tgt := 13) hx hb dX5_setMagic_9 (by decide) ?_
      refine hp_put (fs1 := [.int 0, .ref dW, .ref dA, .ref dQ, .ref dM, .ref dS, .ref dL, .ref dR, .ref dT, .ref dZ, .ref dI, .ref dH, .ref dN, .ref dK, .ref dJ, .ref dU, .ref dO, .int (nI n), .int (nI a), .ref dF, .ref dP, .ref dE, .ref dX, .ref dY, .int (nI x), .int (nI cg), .ref dG]) (ty := .int) B0 hw hS 5 rfl in_X5 tyX5 tyX5_ok nmX5 k_mo 0 (by decide) qF_X5_77 rfl (by decide +kernel) rfl rfl (Nat.le_of_ble_eq_true rfl) rfl dX5_setMagic_13 (fun H locs f85 ef85 hw hS => ?_)
      have h86 : f85 mo = some (.inr (5, [.int 0, .ref dW, .ref dA, .ref dQ, .ref dM, .ref dS, .ref dL, .ref dR, .ref dT, .ref dZ, .ref dI, .ref dH, .ref dN, .ref dK, .ref dJ, .ref dU, .ref dO, .int (nI n), .int (nI a), .ref dF, .ref dP, .ref dE, .ref dX, .ref dY, .int (nI x), .int (nI cg), .ref dG])) := by rw [ef85, va_up_self]
      refine lv_aload_n hx hb dX5_setMagic_16 rfl (lv_at hl9 0 rfl) ?_
      refine hp_get B0 hw 5 rfl in_X5 h86 0 (by decide) qF_X5_77 rfl dX5_setMagic_17 ?_
      refine lv_if_le (tgt := 25) hx hb dX5_setMagic_20 (by decide) (fun _ => ?_) (fun c9 => absurd (by decide) c9)
      refine lv_aload_n hx hb dX5_setMagic_25 rfl (lv_at hl9 0 rfl) ?_
      refine hp_get B0 hw 5 rfl in_X5 h86 4 (by decide) qF_X5_19 rfl dX5_setMagic_26 ?_
      refine lv_iload_n hx hb dX5_setMagic_29 rfl (lv_at hl9 1 rfl) ?_
      have n88 : dM ≠ mo := hne k_dM k_mo (Nat.ne_of_beq_eq_false rfl)
      have h87 : f85 dM = some (.inl (cI G, 2, .inl (mA2 mg0 mg1))) := by rw [ef85, va_up_ne _ _ n88]; exact k_dM
      refine hp_iald B0 hw h87 (by unfold vp_in; decide) dX5_setMagic_30 ?_
      refine hp_c (v := mg1) (rfl) ?_
      refine lv_istore_n (lv' := [(3, .int mg1), (0, .ref mo), (1, .int 1), (2, .int xv)]) hx hb dX5_setMagic_31 rfl hl9 (by decide) rfl (fun ls hl9 => ?_)
      refine lv_aload_n hx hb dX5_setMagic_32 rfl (lv_at hl9 1 rfl) ?_
      refine hp_get B0 hw 5 rfl in_X5 h86 4 (by decide) qF_X5_19 rfl dX5_setMagic_33 ?_
      refine lv_iload_n hx hb dX5_setMagic_36 rfl (lv_at hl9 2 rfl) ?_
      refine lv_iload_n hx hb dX5_setMagic_37 rfl (lv_at hl9 3 rfl) ?_
      refine hp_iast B0 hw hS h87 (by unfold vp_in; decide) dX5_setMagic_38 (fun H locs f89 ef89 hw hS => ?_)
      rw [show (upd (mA2 mg0 mg1) (1 : Int32).toNatClampNeg xv : Nat → Int32) = (mA2 mg0 xv) from mA2_up1 _ _ _] at ef89
      have h90 : f89 dM = some (.inl (cI G, 2, .inl (mA2 mg0 xv))) := by rw [ef89, va_up_self]
      refine lv_iload_n hx hb dX5_setMagic_39 rfl (lv_at hl9 0 rfl) ?_
      have h91 : f89 mo = some (.inr (5, [.int 0, .ref dW, .ref dA, .ref dQ, .ref dM, .ref dS, .ref dL, .ref dR, .ref dT, .ref dZ, .ref dI, .ref dH, .ref dN, .ref dK, .ref dJ, .ref dU, .ref dO, .int (nI n), .int (nI a), .ref dF, .ref dP, .ref dE, .ref dX, .ref dY, .int (nI x), .int (nI cg), .ref dG])) := by rw [ef89, va_up_ne _ _ (Ne.symm n88)]; exact h86
      have n93 : dQ ≠ mo := hne k_dQ k_mo (Nat.ne_of_beq_eq_false rfl)
      have h92 : f85 dQ = some (.inl (cI G, 12, .inl gQ)) := by rw [ef85, va_up_ne _ _ n93]; exact k_dQ
      have n95 : dQ ≠ dM := hneL k_dQ k_dM (Nat.ne_of_beq_eq_false rfl)
      have h94 : f89 dQ = some (.inl (cI G, 12, .inl gQ)) := by rw [ef89, va_up_ne _ _ n95]; exact h92
      have n97 : dS ≠ mo := hne k_dS k_mo (Nat.ne_of_beq_eq_false rfl)
      have h96 : f85 dS = some (.inl (cI G, 2, .inl gS)) := by rw [ef85, va_up_ne _ _ n97]; exact k_dS
      have h98 : f89 dS = some (.inl (cI G, 2, .inl gS)) := by rw [ef89, va_up_ne _ _ (Ne.symm nd_dM_dS)]; exact h96
      have n100 : dL ≠ mo := hne k_dL k_mo (Nat.ne_of_beq_eq_false rfl)
      have h99 : f85 dL = some (.inl (cI G, 2, .inl gL)) := by rw [ef85, va_up_ne _ _ n100]; exact k_dL
      have h101 : f89 dL = some (.inl (cI G, 2, .inl gL)) := by rw [ef89, va_up_ne _ _ (Ne.symm nd_dM_dL)]; exact h99
      have n103 : dR ≠ mo := hne k_dR k_mo (Nat.ne_of_beq_eq_false rfl)
      have h102 : f85 dR = some (.inl (cI G, 2, .inl gR)) := by rw [ef85, va_up_ne _ _ n103]; exact k_dR
      have h104 : f89 dR = some (.inl (cI G, 2, .inl gR)) := by rw [ef89, va_up_ne _ _ (Ne.symm nd_dM_dR)]; exact h102
      have n106 : dT ≠ mo := hne k_dT k_mo (Nat.ne_of_beq_eq_false rfl)
      have h105 : f85 dT = some (.inl (cI G, 2, .inl gT)) := by rw [ef85, va_up_ne _ _ n106]; exact k_dT
      have h107 : f89 dT = some (.inl (cI G, 2, .inl gT)) := by rw [ef89, va_up_ne _ _ (Ne.symm nd_dM_dT)]; exact h105
      have n109 : dZ ≠ mo := hne k_dZ k_mo (Nat.ne_of_beq_eq_false rfl)
      have h108 : f85 dZ = some (.inl (cZ G, 2, .inl gZ)) := by rw [ef85, va_up_ne _ _ n109]; exact k_dZ
      have h110 : f89 dZ = some (.inl (cZ G, 2, .inl gZ)) := by rw [ef89, va_up_ne _ _ (Ne.symm nd_dM_dZ)]; exact h108
      have n112 : dI ≠ mo := hne k_dI k_mo (Nat.ne_of_beq_eq_false rfl)
      have h111 : f85 dI = some (.inl (cI G, 2, .inl gI)) := by rw [ef85, va_up_ne _ _ n112]; exact k_dI
      have h113 : f89 dI = some (.inl (cI G, 2, .inl gI)) := by rw [ef89, va_up_ne _ _ (Ne.symm nd_dM_dI)]; exact h111
      have n115 : dH ≠ mo := hne k_dH k_mo (Nat.ne_of_beq_eq_false rfl)
      have h114 : f85 dH = some (.inl (cI G, 2, .inl gH)) := by rw [ef85, va_up_ne _ _ n115]; exact k_dH
      have h116 : f89 dH = some (.inl (cI G, 2, .inl gH)) := by rw [ef89, va_up_ne _ _ (Ne.symm nd_dM_dH)]; exact h114
      have n118 : dN ≠ mo := hne k_dN k_mo (Nat.ne_of_beq_eq_false rfl)
      have h117 : f85 dN = some (.inl (cI G, 2, .inl gN)) := by rw [ef85, va_up_ne _ _ n118]; exact k_dN
      have h119 : f89 dN = some (.inl (cI G, 2, .inl gN)) := by rw [ef89, va_up_ne _ _ (Ne.symm nd_dM_dN)]; exact h117
      have n121 : dK ≠ mo := hne k_dK k_mo (Nat.ne_of_beq_eq_false rfl)
      have h120 : f85 dK = some (.inl (cI G, 2048, .inl gK)) := by rw [ef85, va_up_ne _ _ n121]; exact k_dK
      have n123 : dK ≠ dM := hneL k_dK k_dM (Nat.ne_of_beq_eq_false rfl)
      have h122 : f89 dK = some (.inl (cI G, 2048, .inl gK)) := by rw [ef89, va_up_ne _ _ n123]; exact h120
      have n125 : dJ ≠ mo := hne k_dJ k_mo (Nat.ne_of_beq_eq_false rfl)
      have h124 : f85 dJ = some (.inl (cI G, 2048, .inl gJ)) := by rw [ef85, va_up_ne _ _ n125]; exact k_dJ
      have n127 : dJ ≠ dM := hneL k_dJ k_dM (Nat.ne_of_beq_eq_false rfl)
      have h126 : f89 dJ = some (.inl (cI G, 2048, .inl gJ)) := by rw [ef89, va_up_ne _ _ n127]; exact h124
      have n129 : dU ≠ mo := hne k_dU k_mo (Nat.ne_of_beq_eq_false rfl)
      have h128 : f85 dU = some (.inl (cI G, 2048, .inl gU)) := by rw [ef85, va_up_ne _ _ n129]; exact k_dU
      have n131 : dU ≠ dM := hneL k_dU k_dM (Nat.ne_of_beq_eq_false rfl)
      have h130 : f89 dU = some (.inl (cI G, 2048, .inl gU)) := by rw [ef89, va_up_ne _ _ n131]; exact h128
      have n133 : dO ≠ mo := hne k_dO k_mo (Nat.ne_of_beq_eq_false rfl)
      have h132 : f85 dO = some (.inl (cI G, 2048, .inl gO)) := by rw [ef85, va_up_ne _ _ n133]; exact k_dO
      have n135 : dO ≠ dM := hneL k_dO k_dM (Nat.ne_of_beq_eq_false rfl)
      have h134 : f89 dO = some (.inl (cI G, 2048, .inl gO)) := by rw [ef89, va_up_ne _ _ n135]; exact h132
      have n137 : dW ≠ mo := hne k_dW k_mo (Nat.ne_of_beq_eq_false rfl)
      have h136 : f85 dW = some (.inl (cI G, 12, .inl (jn gw0 gw1))) := by rw [ef85, va_up_ne _ _ n137]; exact k_dW
      have n139 : dW ≠ dM := hneL k_dW k_dM (Nat.ne_of_beq_eq_false rfl)
      have h138 : f89 dW = some (.inl (cI G, 12, .inl (jn gw0 gw1))) := by rw [ef89, va_up_ne _ _ n139]; exact h136
      have n141 : dA ≠ mo := hne k_dA k_mo (Nat.ne_of_beq_eq_false rfl)
      have h140 : f85 dA = some (.inl (cI G, 12, .inl (jn ga0 ga1))) := by rw [ef85, va_up_ne _ _ n141]; exact k_dA
      have n143 : dA ≠ dM := hneL k_dA k_dM (Nat.ne_of_beq_eq_false rfl)
      have h142 : f89 dA = some (.inl (cI G, 12, .inl (jn ga0 ga1))) := by rw [ef89, va_up_ne _ _ n143]; exact h140
      have n145 : dF ≠ mo := hne k_dF k_mo (Nat.ne_of_beq_eq_false rfl)
      have h144 : f85 dF = some (.inl (cI G, 61, .inl (nf sa))) := by rw [ef85, va_up_ne _ _ n145]; exact k_dF
      have n147 : dF ≠ dM := hneL k_dF k_dM (Nat.ne_of_beq_eq_false rfl)
      have h146 : f89 dF = some (.inl (cI G, 61, .inl (nf sa))) := by rw [ef89, va_up_ne _ _ n147]; exact h144
      have n149 : dP ≠ mo := hne k_dP k_mo (Nat.ne_of_beq_eq_false rfl)
      have h148 : f85 dP = some (.inl (cI G, 240, .inl (nf pk))) := by rw [ef85, va_up_ne _ _ n149]; exact k_dP
      have n151 : dP ≠ dM := hneL k_dP k_dM (Nat.ne_of_beq_eq_false rfl)
      have h150 : f89 dP = some (.inl (cI G, 240, .inl (nf pk))) := by rw [ef89, va_up_ne _ _ n151]; exact h148
      have n153 : dE ≠ mo := hne k_dE k_mo (Nat.ne_of_beq_eq_false rfl)
      have h152 : f85 dE = some (.inl (cZ G, 240, .inl gh)) := by rw [ef85, va_up_ne _ _ n153]; exact k_dE
      have n155 : dE ≠ dM := hneL k_dE k_dM (Nat.ne_of_beq_eq_false rfl)
      have h154 : f89 dE = some (.inl (cZ G, 240, .inl gh)) := by rw [ef89, va_up_ne _ _ n155]; exact h152
      have n157 : dX ≠ mo := hne k_dX k_mo (Nat.ne_of_beq_eq_false rfl)
      have h156 : f85 dX = some (.inl (cI G, 3, .inl (nf fl))) := by rw [ef85, va_up_ne _ _ n157]; exact k_dX
      have n159 : dX ≠ dM := hneL k_dX k_dM (Nat.ne_of_beq_eq_false rfl)
      have h158 : f89 dX = some (.inl (cI G, 3, .inl (nf fl))) := by rw [ef89, va_up_ne _ _ n159]; exact h156
      have n161 : dY ≠ mo := hne k_dY k_mo (Nat.ne_of_beq_eq_false rfl)
      have h160 : f85 dY = some (.inl (cI G, 3, .inl gl)) := by rw [ef85, va_up_ne _ _ n161]; exact k_dY
      have n163 : dY ≠ dM := hneL k_dY k_dM (Nat.ne_of_beq_eq_false rfl)
      have h162 : f89 dY = some (.inl (cI G, 3, .inl gl)) := by rw [ef89, va_up_ne _ _ n163]; exact h160
      have n165 : dG ≠ mo := hne k_dG k_mo (Nat.ne_of_beq_eq_false rfl)
      have h164 : f85 dG = some (.inl (cI G, 60, .inl (nf gv))) := by rw [ef85, va_up_ne _ _ n165]; exact k_dG
      have n167 : dG ≠ dM := hneL k_dG k_dM (Nat.ne_of_beq_eq_false rfl)
      have h166 : f89 dG = some (.inl (cI G, 60, .inl (nf gv))) := by rw [ef89, va_up_ne _ _ n167]; exact h164
      exact hp_iret (v := mg1) B0 hw hS hr ⟨Nat.le_of_ble_eq_true rfl, Nat.le_of_ble_eq_true rfl⟩ dX5_setMagic_40 (⟨Or.inl ⟨spc_0 (Or.inr rfl) trivial, (by rw [if_neg (show ¬ ((1 : Int32) = 0) by decide)]), ⟨h91, hND, ⟨_, _, _, _, _, _, _, _, _, _, _, _, _, h94, h98, h101, h104, h107, h110, h113, h116, h119, h122, h126, h130, h134, hHd9, (hMn.mono hMn9 (by omega))⟩, h138, h142, (by rw [if_neg (show ¬ ((1 : Int32) = 0) by decide), if_pos (show ((1 : Int32) = 1) from rfl)]; exact h90), h146, h150, h154, h158, h162, h166, hSA, hB9, hfl9⟩⟩, ((show hEq [mo, dW, dA, dQ, dM, dS, dL, dR, dT, dZ, dI, dH, dN, dK, dJ, dU, dO, dF, dP, dE, dX, dY, dG] f f85 from (by rw [ef85]; exact hEq.up List.mem_cons_self)).tr (show hEq [mo, dW, dA, dQ, dM, dS, dL, dR, dT, dZ, dI, dH, dN, dK, dJ, dU, dO, dF, dP, dE, dX, dY, dG] f85 f89 from (by rw [ef89]; exact hEq.up (List.mem_cons_of_mem _ (List.mem_cons_of_mem _ (List.mem_cons_of_mem _ (List.mem_cons_of_mem _ List.mem_cons_self)))))))⟩)
    · subst ev9
      refine W.eq (g2 := F0 m 5 ls [.int 0, .ref mo]) rfl ?_
      refine lv_if_eq (tgt := 12) hx hb dX5_setMagic_5 (by decide) (fun _ => ?_) (fun c9 => absurd (by decide) c9)
      refine lv_iconst (v := 1) hx hb dX5_setMagic_12 (by decide) ?_
      refine hp_put (fs1 := [.int 1, .ref dW, .ref dA, .ref dQ, .ref dM, .ref dS, .ref dL, .ref dR, .ref dT, .ref dZ, .ref dI, .ref dH, .ref dN, .ref dK, .ref dJ, .ref dU, .ref dO, .int (nI n), .int (nI a), .ref dF, .ref dP, .ref dE, .ref dX, .ref dY, .int (nI x), .int (nI cg), .ref dG]) (ty := .int) B0 hw hS 5 rfl in_X5 tyX5 tyX5_ok nmX5 k_mo 0 (by decide) qF_X5_77 rfl (by decide +kernel) rfl rfl (Nat.le_of_ble_eq_true rfl) rfl dX5_setMagic_13 (fun H locs f168 ef168 hw hS => ?_)
      have h169 : f168 mo = some (.inr (5, [.int 1, .ref dW, .ref dA, .ref dQ, .ref dM, .ref dS, .ref dL, .ref dR, .ref dT, .ref dZ, .ref dI, .ref dH, .ref dN, .ref dK, .ref dJ, .ref dU, .ref dO, .int (nI n), .int (nI a), .ref dF, .ref dP, .ref dE, .ref dX, .ref dY, .int (nI x), .int (nI cg), .ref dG])) := by rw [ef168, va_up_self]
      refine lv_aload_n hx hb dX5_setMagic_16 rfl (lv_at hl9 0 rfl) ?_
      refine hp_get B0 hw 5 rfl in_X5 h169 0 (by decide) qF_X5_77 rfl dX5_setMagic_17 ?_
      refine lv_if_le (tgt := 25) hx hb dX5_setMagic_20 (by decide) (fun c9 => absurd c9 (by decide)) (fun _ => ?_)
      refine lv_iconst (v := 0) hx hb dX5_setMagic_23 (by decide) ?_
      have hs9 : spc (sE i) True = 1 := spc_1 hnE
      have n171 : dQ ≠ mo := hne k_dQ k_mo (Nat.ne_of_beq_eq_false rfl)
      have h170 : f168 dQ = some (.inl (cI G, 12, .inl gQ)) := by rw [ef168, va_up_ne _ _ n171]; exact k_dQ
      have n173 : dS ≠ mo := hne k_dS k_mo (Nat.ne_of_beq_eq_false rfl)
      have h172 : f168 dS = some (.inl (cI G, 2, .inl gS)) := by rw [ef168, va_up_ne _ _ n173]; exact k_dS
      have n175 : dL ≠ mo := hne k_dL k_mo (Nat.ne_of_beq_eq_false rfl)
      have h174 : f168 dL = some (.inl (cI G, 2, .inl gL)) := by rw [ef168, va_up_ne _ _ n175]; exact k_dL
      have n177 : dR ≠ mo := hne k_dR k_mo (Nat.ne_of_beq_eq_false rfl)
      have h176 : f168 dR = some (.inl (cI G, 2, .inl gR)) := by rw [ef168, va_up_ne _ _ n177]; exact k_dR
      have n179 : dT ≠ mo := hne k_dT k_mo (Nat.ne_of_beq_eq_false rfl)
      have h178 : f168 dT = some (.inl (cI G, 2, .inl gT)) := by rw [ef168, va_up_ne _ _ n179]; exact k_dT
      have n181 : dZ ≠ mo := hne k_dZ k_mo (Nat.ne_of_beq_eq_false rfl)
      have h180 : f168 dZ = some (.inl (cZ G, 2, .inl gZ)) := by rw [ef168, va_up_ne _ _ n181]; exact k_dZ
      have n183 : dI ≠ mo := hne k_dI k_mo (Nat.ne_of_beq_eq_false rfl)
      have h182 : f168 dI = some (.inl (cI G, 2, .inl gI)) := by rw [ef168, va_up_ne _ _ n183]; exact k_dI
      have n185 : dH ≠ mo := hne k_dH k_mo (Nat.ne_of_beq_eq_false rfl)
      have h184 : f168 dH = some (.inl (cI G, 2, .inl gH)) := by rw [ef168, va_up_ne _ _ n185]; exact k_dH
      have n187 : dN ≠ mo := hne k_dN k_mo (Nat.ne_of_beq_eq_false rfl)
      have h186 : f168 dN = some (.inl (cI G, 2, .inl gN)) := by rw [ef168, va_up_ne _ _ n187]; exact k_dN
      have n189 : dK ≠ mo := hne k_dK k_mo (Nat.ne_of_beq_eq_false rfl)
      have h188 : f168 dK = some (.inl (cI G, 2048, .inl gK)) := by rw [ef168, va_up_ne _ _ n189]; exact k_dK
      have n191 : dJ ≠ mo := hne k_dJ k_mo (Nat.ne_of_beq_eq_false rfl)
      have h190 : f168 dJ = some (.inl (cI G, 2048, .inl gJ)) := by rw [ef168, va_up_ne _ _ n191]; exact k_dJ
      have n193 : dU ≠ mo := hne k_dU k_mo (Nat.ne_of_beq_eq_false rfl)
      have h192 : f168 dU = some (.inl (cI G, 2048, .inl gU)) := by rw [ef168, va_up_ne _ _ n193]; exact k_dU
      have n195 : dO ≠ mo := hne k_dO k_mo (Nat.ne_of_beq_eq_false rfl)
      have h194 : f168 dO = some (.inl (cI G, 2048, .inl gO)) := by rw [ef168, va_up_ne _ _ n195]; exact k_dO
      have n197 : dW ≠ mo := hne k_dW k_mo (Nat.ne_of_beq_eq_false rfl)
      have h196 : f168 dW = some (.inl (cI G, 12, .inl (jn gw0 gw1))) := by rw [ef168, va_up_ne _ _ n197]; exact k_dW
      have n199 : dA ≠ mo := hne k_dA k_mo (Nat.ne_of_beq_eq_false rfl)
      have h198 : f168 dA = some (.inl (cI G, 12, .inl (jn ga0 ga1))) := by rw [ef168, va_up_ne _ _ n199]; exact k_dA
      have n201 : dM ≠ mo := hne k_dM k_mo (Nat.ne_of_beq_eq_false rfl)
      have h200 : f168 dM = some (.inl (cI G, 2, .inl (mA2 mg0 mg1))) := by rw [ef168, va_up_ne _ _ n201]; exact k_dM
      have n203 : dF ≠ mo := hne k_dF k_mo (Nat.ne_of_beq_eq_false rfl)
      have h202 : f168 dF = some (.inl (cI G, 61, .inl (nf sa))) := by rw [ef168, va_up_ne _ _ n203]; exact k_dF
      have n205 : dP ≠ mo := hne k_dP k_mo (Nat.ne_of_beq_eq_false rfl)
      have h204 : f168 dP = some (.inl (cI G, 240, .inl (nf pk))) := by rw [ef168, va_up_ne _ _ n205]; exact k_dP
      have n207 : dE ≠ mo := hne k_dE k_mo (Nat.ne_of_beq_eq_false rfl)
      have h206 : f168 dE = some (.inl (cZ G, 240, .inl gh)) := by rw [ef168, va_up_ne _ _ n207]; exact k_dE
      have n209 : dX ≠ mo := hne k_dX k_mo (Nat.ne_of_beq_eq_false rfl)
      have h208 : f168 dX = some (.inl (cI G, 3, .inl (nf fl))) := by rw [ef168, va_up_ne _ _ n209]; exact k_dX
      have n211 : dY ≠ mo := hne k_dY k_mo (Nat.ne_of_beq_eq_false rfl)
      have h210 : f168 dY = some (.inl (cI G, 3, .inl gl)) := by rw [ef168, va_up_ne _ _ n211]; exact k_dY
      have n213 : dG ≠ mo := hne k_dG k_mo (Nat.ne_of_beq_eq_false rfl)
      have h212 : f168 dG = some (.inl (cI G, 60, .inl (nf gv))) := by rw [ef168, va_up_ne _ _ n213]; exact k_dG
      exact hp_iret (v := 0) B0 hw hS hr ⟨Nat.le_of_ble_eq_true rfl, Nat.le_of_ble_eq_true rfl⟩ dX5_setMagic_24 (⟨Or.inr ⟨(by rw [hs9]; decide), ⟨_, rfl⟩, ⟨(by rw [hs9]; exact h169), hND, ⟨_, _, _, _, _, _, _, _, _, _, _, _, _, h170, h172, h174, h176, h178, h180, h182, h184, h186, h188, h190, h192, h194, hHd9, (hMn.mono hMn9 (by omega))⟩, h196, h198, h200, h202, h204, h206, h208, h210, h212, hSA, hB9, hfl9⟩⟩, (show hEq [mo, dW, dA, dQ, dM, dS, dL, dR, dT, dZ, dI, dH, dN, dK, dJ, dU, dO, dF, dP, dE, dX, dY, dG] f f168 from (by rw [ef168]; exact hEq.up List.mem_cons_self))⟩)

theorem mn_le {x y : Int32} (h : x ≤ y) : mnI x y = x := by
  unfold mnI
  rw [if_neg (by rw [jlt]; rw [jle] at h; omega)]
theorem mn_gt {x y : Int32} (h : ¬ x ≤ y) : mnI x y = y := by
  unfold mnI
  rw [if_pos (by rw [jlt]; rw [jle] at h; omega)]
theorem nleI {a b : Int32} (h : ¬ b ≤ a) : a < b := by rw [jlt]; rw [jle] at h; omega
theorem leNI {a b : Int32} (h : b ≤ a) : ¬ a < b := by rw [jlt]; rw [jle] at h; omega
theorem nf_same {g : Nat → Nat} {k v : Nat} (h : g k = v) : upd (nf g) k (nI v) = nf g := by
  funext j
  unfold upd nf
  by_cases e : j = k
  · rw [if_pos e, e, h]
  · rw [if_neg e]
theorem nI_sub3 (n : Nat) : nI (n + 3) - 3 = nI n := by
  rw [← nI_add]
  exact Int32.add_sub_cancel _ _
theorem nI_m1 {n : Nat} (h : n < 2 ^ 31) : (nI n - 1).toInt = (n : Int) - 1 := by
  cases n with
  | zero => decide
  | succ n => rw [nI_pred, nI_toInt (by omega)]; omega
set_option maxHeartbeats 4000000 in
set_option maxRecDepth 100000 in
theorem c_W5_bound {l : Launch} (hl : l.stackTraces = false) (G : hG) (f : hM) (mo dW dA dQ dM dS dL dR dT dZ dI dH dN dK dJ dU dO dF dP dE dX dY dG : Nat) (vth : Int32) (n a cg x : Nat) (sa pk fl gv : Nat → Nat) (gh gl : Nat → Int32) (k_mo : f mo = some (.inr (5, [.int vth, .ref dW, .ref dA, .ref dQ, .ref dM, .ref dS, .ref dL, .ref dR, .ref dT, .ref dZ, .ref dI, .ref dH, .ref dN, .ref dK, .ref dJ, .ref dU, .ref dO, .int (nI n), .int (nI a), .ref dF, .ref dP, .ref dE, .ref dX, .ref dY, .int (nI x), .int (nI cg), .ref dG]))) (k_dF : f dF = some (.inl (cI G, 61, .inl (nf sa)))) (k_dP : f dP = some (.inl (cI G, 240, .inl (nf pk)))) (k_dE : f dE = some (.inl (cZ G, 240, .inl gh))) (k_dX : f dX = some (.inl (cI G, 3, .inl (nf fl)))) (k_dY : f dY = some (.inl (cI G, 3, .inl gl))) (k_dG : f dG = some (.inl (cI G, 60, .inl (nf gv)))) (hB9 : BOK n a cg x sa pk) (hND : ND5 dW dA dQ dM dS dL dR dT dZ dI dH dN dK dJ dU dO dF dP dE dX dY dG)  : CT l yX5_bound (.code yX5_bound cX5_bound 3 (some .int)) 0 0 0 0 G [.ref mo] f (fun v f1 => f1 = f ∧ v = some (.int (bnd gl))) (fun E f1 => False) := by
  refine hp_start hl (own := RX5) (by decide) rfl (Nat.le_of_ble_eq_true rfl) ?_
  intro p e s m args below meth c B0 hr hnm hout hw hS ls hl9
  have hx := B0.1
  have hb := B0.2.1
  have hl9 : lv_has ls 3 [(0, .ref mo)] := hl9
  obtain ⟨nd_dW_dA, nd_dW_dQ, nd_dA_dQ, nd_dM_dS, nd_dM_dL, nd_dM_dR, nd_dM_dT, nd_dM_dZ, nd_dM_dI, nd_dM_dH, nd_dM_dN, nd_dS_dL, nd_dS_dR, nd_dS_dT, nd_dS_dZ, nd_dS_dI, nd_dS_dH, nd_dS_dN, nd_dL_dR, nd_dL_dT, nd_dL_dZ, nd_dL_dI, nd_dL_dH, nd_dL_dN, nd_dR_dT, nd_dR_dZ, nd_dR_dI, nd_dR_dH, nd_dR_dN, nd_dT_dZ, nd_dT_dI, nd_dT_dH, nd_dT_dN, nd_dZ_dI, nd_dZ_dH, nd_dZ_dN, nd_dI_dH, nd_dI_dN, nd_dH_dN, nd_dK_dJ, nd_dK_dU, nd_dK_dO, nd_dJ_dU, nd_dJ_dO, nd_dU_dO, nd_dP_dE, nd_dX_dY⟩ := id hND
  refine lv_aload_n hx hb dX5_bound_0 rfl (lv_at hl9 0 rfl) ?_
  refine hp_get B0 hw 5 rfl in_X5 k_mo 23 (by decide) qF_X5_71 rfl dX5_bound_1 ?_
  refine lv_iconst (v := 0) hx hb dX5_bound_4 (by decide) ?_
  refine hp_iald B0 hw k_dY (by unfold vp_in; decide) dX5_bound_5 ?_
  refine hp_c (v := (gl 0)) (rfl) ?_
  refine lv_istore_n (lv' := [(1, .int (gl 0)), (0, .ref mo)]) hx hb dX5_bound_6 rfl hl9 (by decide) rfl (fun ls hl9 => ?_)
  refine lv_iconst (v := 1) hx hb dX5_bound_7 (by decide) ?_
  refine lv_istore_n (lv' := [(2, .int 1), (1, .int (gl 0)), (0, .ref mo)]) hx hb dX5_bound_8 rfl hl9 (by decide) rfl (fun ls hl9 => ?_)
  refine lv_iload_n hx hb dX5_bound_9 rfl (lv_at hl9 0 rfl) ?_
  refine lv_iconst (v := 3) hx hb dX5_bound_10 (by decide) ?_
  refine lv_icmp_ge (tgt := 41) hx hb dX5_bound_11 (by decide) (fun c9 => absurd c9 (by decide)) (fun _ => ?_)
  refine lv_aload_n hx hb dX5_bound_14 rfl (lv_at hl9 2 rfl) ?_
  refine hp_get B0 hw 5 rfl in_X5 k_mo 23 (by decide) qF_X5_71 rfl dX5_bound_15 ?_
  refine lv_iload_n hx hb dX5_bound_18 rfl (lv_at hl9 0 rfl) ?_
  refine hp_iald B0 hw k_dY (by unfold vp_in; decide) dX5_bound_19 ?_
  refine hp_c (v := (gl 1)) (rfl) ?_
  refine lv_iload_n hx hb dX5_bound_20 rfl (lv_at hl9 1 rfl) ?_
  refine lv_icmp_ge (tgt := 33) hx hb dX5_bound_21 (by decide) (fun c1 => ?_) (fun c1 => ?_)
  · refine lv_iload_n hx hb dX5_bound_33 rfl (lv_at hl9 1 rfl) ?_
    refine lv_istore_n (lv' := [(1, .int (gl 0)), (2, .int 1), (0, .ref mo)]) hx hb dX5_bound_34 rfl hl9 (by decide) rfl (fun ls hl9 => ?_)
    refine lv_iinc (v := 2) (lv' := [(2, .int 2), (1, .int (gl 0)), (0, .ref mo)]) hx hb dX5_bound_35 hl9 (k := 1) rfl (by decide) (by decide) rfl (fun ls hl9 => ?_)
    refine lv_goto (tgt := 9) hx hb dX5_bound_38 (by decide) ?_
    refine lv_iload_n hx hb dX5_bound_9 rfl (lv_at hl9 0 rfl) ?_
    refine lv_iconst (v := 3) hx hb dX5_bound_10 (by decide) ?_
    refine lv_icmp_ge (tgt := 41) hx hb dX5_bound_11 (by decide) (fun c9 => absurd c9 (by decide)) (fun _ => ?_)
    refine lv_aload_n hx hb dX5_bound_14 rfl (lv_at hl9 2 rfl) ?_
    refine hp_get B0 hw 5 rfl in_X5 k_mo 23 (by decide) qF_X5_71 rfl dX5_bound_15 ?_
    refine lv_iload_n hx hb dX5_bound_18 rfl (lv_at hl9 0 rfl) ?_
    refine hp_iald B0 hw k_dY (by unfold vp_in; decide) dX5_bound_19 ?_
    refine hp_c (v := (gl 2)) (rfl) ?_
    refine lv_iload_n hx hb dX5_bound_20 rfl (lv_at hl9 1 rfl) ?_
    refine lv_icmp_ge (tgt := 33) hx hb dX5_bound_21 (by decide) (fun c2 => ?_) (fun c2 => ?_)
    · refine lv_iload_n hx hb dX5_bound_33 rfl (lv_at hl9 1 rfl) ?_
      refine lv_istore_n (lv' := [(1, .int (gl 0)), (2, .int 2), (0, .ref mo)]) hx hb dX5_bound_34 rfl hl9 (by decide) rfl (fun ls hl9 => ?_)
      refine lv_iinc (v := 3) (lv' := [(2, .int 3), (1, .int (gl 0)), (0, .ref mo)]) hx hb dX5_bound_35 hl9 (k := 1) rfl (by decide) (by decide) rfl (fun ls hl9 => ?_)
      refine lv_goto (tgt := 9) hx hb dX5_bound_38 (by decide) ?_
      refine lv_iload_n hx hb dX5_bound_9 rfl (lv_at hl9 0 rfl) ?_
      refine lv_iconst (v := 3) hx hb dX5_bound_10 (by decide) ?_
      refine lv_icmp_ge (tgt := 41) hx hb dX5_bound_11 (by decide) (fun _ => ?_) (fun c9 => absurd (by decide) c9)
      refine lv_iload_n hx hb dX5_bound_41 rfl (lv_at hl9 1 rfl) ?_
      exact hp_iret (v := (gl 0)) B0 hw hS hr ⟨Nat.le_of_ble_eq_true rfl, Nat.le_of_ble_eq_true rfl⟩ dX5_bound_42 (⟨rfl, (by unfold bnd; rw [mn_le c1, mn_le c2])⟩)
    · refine lv_aload_n hx hb dX5_bound_24 rfl (lv_at hl9 2 rfl) ?_
      refine hp_get B0 hw 5 rfl in_X5 k_mo 23 (by decide) qF_X5_71 rfl dX5_bound_25 ?_
      refine lv_iload_n hx hb dX5_bound_28 rfl (lv_at hl9 0 rfl) ?_
      refine hp_iald B0 hw k_dY (by unfold vp_in; decide) dX5_bound_29 ?_
      refine hp_c (v := (gl 2)) (rfl) ?_
      refine lv_goto (tgt := 34) hx hb dX5_bound_30 (by decide) ?_
      refine lv_istore_n (lv' := [(1, .int (gl 2)), (2, .int 2), (0, .ref mo)]) hx hb dX5_bound_34 rfl hl9 (by decide) rfl (fun ls hl9 => ?_)
      refine lv_iinc (v := 3) (lv' := [(2, .int 3), (1, .int (gl 2)), (0, .ref mo)]) hx hb dX5_bound_35 hl9 (k := 1) rfl (by decide) (by decide) rfl (fun ls hl9 => ?_)
      refine lv_goto (tgt := 9) hx hb dX5_bound_38 (by decide) ?_
      refine lv_iload_n hx hb dX5_bound_9 rfl (lv_at hl9 0 rfl) ?_
      refine lv_iconst (v := 3) hx hb dX5_bound_10 (by decide) ?_
      refine lv_icmp_ge (tgt := 41) hx hb dX5_bound_11 (by decide) (fun _ => ?_) (fun c9 => absurd (by decide) c9)
      refine lv_iload_n hx hb dX5_bound_41 rfl (lv_at hl9 1 rfl) ?_
      exact hp_iret (v := (gl 2)) B0 hw hS hr ⟨Nat.le_of_ble_eq_true rfl, Nat.le_of_ble_eq_true rfl⟩ dX5_bound_42 (⟨rfl, (by unfold bnd; rw [mn_le c1, mn_gt c2])⟩)
  · refine lv_aload_n hx hb dX5_bound_24 rfl (lv_at hl9 2 rfl) ?_
    refine hp_get B0 hw 5 rfl in_X5 k_mo 23 (by decide) qF_X5_71 rfl dX5_bound_25 ?_
    refine lv_iload_n hx hb dX5_bound_28 rfl (lv_at hl9 0 rfl) ?_
    refine hp_iald B0 hw k_dY (by unfold vp_in; decide) dX5_bound_29 ?_
    refine hp_c (v := (gl 1)) (rfl) ?_
    refine lv_goto (tgt := 34) hx hb dX5_bound_30 (by decide) ?_
    refine lv_istore_n (lv' := [(1, .int (gl 1)), (2, .int 1), (0, .ref mo)]) hx hb dX5_bound_34 rfl hl9 (by decide) rfl (fun ls hl9 => ?_)
    refine lv_iinc (v := 2) (lv' := [(2, .int 2), (1, .int (gl 1)), (0, .ref mo)]) hx hb dX5_bound_35 hl9 (k := 1) rfl (by decide) (by decide) rfl (fun ls hl9 => ?_)
    refine lv_goto (tgt := 9) hx hb dX5_bound_38 (by decide) ?_
    refine lv_iload_n hx hb dX5_bound_9 rfl (lv_at hl9 0 rfl) ?_
    refine lv_iconst (v := 3) hx hb dX5_bound_10 (by decide) ?_
    refine lv_icmp_ge (tgt := 41) hx hb dX5_bound_11 (by decide) (fun c9 => absurd c9 (by decide)) (fun _ => ?_)
    refine lv_aload_n hx hb dX5_bound_14 rfl (lv_at hl9 2 rfl) ?_
    refine hp_get B0 hw 5 rfl in_X5 k_mo 23 (by decide) qF_X5_71 rfl dX5_bound_15 ?_
    refine lv_iload_n hx hb dX5_bound_18 rfl (lv_at hl9 0 rfl) ?_
    refine hp_iald B0 hw k_dY (by unfold vp_in; decide) dX5_bound_19 ?_
    refine hp_c (v := (gl 2)) (rfl) ?_
    refine lv_iload_n hx hb dX5_bound_20 rfl (lv_at hl9 1 rfl) ?_
    refine lv_icmp_ge (tgt := 33) hx hb dX5_bound_21 (by decide) (fun c3 => ?_) (fun c3 => ?_)
    · refine lv_iload_n hx hb dX5_bound_33 rfl (lv_at hl9 1 rfl) ?_
      refine lv_istore_n (lv' := [(1, .int (gl 1)), (2, .int 2), (0, .ref mo)]) hx hb dX5_bound_34 rfl hl9 (by decide) rfl (fun ls hl9 => ?_)
      refine lv_iinc (v := 3) (lv' := [(2, .int 3), (1, .int (gl 1)), (0, .ref mo)]) hx hb dX5_bound_35 hl9 (k := 1) rfl (by decide) (by decide) rfl (fun ls hl9 => ?_)
      refine lv_goto (tgt := 9) hx hb dX5_bound_38 (by decide) ?_
      refine lv_iload_n hx hb dX5_bound_9 rfl (lv_at hl9 0 rfl) ?_
      refine lv_iconst (v := 3) hx hb dX5_bound_10 (by decide) ?_
      refine lv_icmp_ge (tgt := 41) hx hb dX5_bound_11 (by decide) (fun _ => ?_) (fun c9 => absurd (by decide) c9)
      refine lv_iload_n hx hb dX5_bound_41 rfl (lv_at hl9 1 rfl) ?_
      exact hp_iret (v := (gl 1)) B0 hw hS hr ⟨Nat.le_of_ble_eq_true rfl, Nat.le_of_ble_eq_true rfl⟩ dX5_bound_42 (⟨rfl, (by unfold bnd; rw [mn_gt c1, mn_le c3])⟩)
    · refine lv_aload_n hx hb dX5_bound_24 rfl (lv_at hl9 2 rfl) ?_
      refine hp_get B0 hw 5 rfl in_X5 k_mo 23 (by decide) qF_X5_71 rfl dX5_bound_25 ?_
      refine lv_iload_n hx hb dX5_bound_28 rfl (lv_at hl9 0 rfl) ?_
      refine hp_iald B0 hw k_dY (by unfold vp_in; decide) dX5_bound_29 ?_
      refine hp_c (v := (gl 2)) (rfl) ?_
      refine lv_goto (tgt := 34) hx hb dX5_bound_30 (by decide) ?_
      refine lv_istore_n (lv' := [(1, .int (gl 2)), (2, .int 2), (0, .ref mo)]) hx hb dX5_bound_34 rfl hl9 (by decide) rfl (fun ls hl9 => ?_)
      refine lv_iinc (v := 3) (lv' := [(2, .int 3), (1, .int (gl 2)), (0, .ref mo)]) hx hb dX5_bound_35 hl9 (k := 1) rfl (by decide) (by decide) rfl (fun ls hl9 => ?_)
      refine lv_goto (tgt := 9) hx hb dX5_bound_38 (by decide) ?_
      refine lv_iload_n hx hb dX5_bound_9 rfl (lv_at hl9 0 rfl) ?_
      refine lv_iconst (v := 3) hx hb dX5_bound_10 (by decide) ?_
      refine lv_icmp_ge (tgt := 41) hx hb dX5_bound_11 (by decide) (fun _ => ?_) (fun c9 => absurd (by decide) c9)
      refine lv_iload_n hx hb dX5_bound_41 rfl (lv_at hl9 1 rfl) ?_
      exact hp_iret (v := (gl 2)) B0 hw hS hr ⟨Nat.le_of_ble_eq_true rfl, Nat.le_of_ble_eq_true rfl⟩ dX5_bound_42 (⟨rfl, (by unfold bnd; rw [mn_gt c1, mn_gt c3])⟩)

set_option maxHeartbeats 4000000 in
set_option maxRecDepth 100000 in
theorem c_W5_missing {l : Launch} (hl : l.stackTraces = false) (G : hG) (f : hM) (mo dW dA dQ dM dS dL dR dT dZ dI dH dN dK dJ dU dO dF dP dE dX dY dG : Nat) (vth : Int32) (n a cg x : Nat) (sa pk fl gv : Nat → Nat) (gh gl : Nat → Int32) (k_mo : f mo = some (.inr (5, [.int vth, .ref dW, .ref dA, .ref dQ, .ref dM, .ref dS, .ref dL, .ref dR, .ref dT, .ref dZ, .ref dI, .ref dH, .ref dN, .ref dK, .ref dJ, .ref dU, .ref dO, .int (nI n), .int (nI a), .ref dF, .ref dP, .ref dE, .ref dX, .ref dY, .int (nI x), .int (nI cg), .ref dG]))) (k_dF : f dF = some (.inl (cI G, 61, .inl (nf sa)))) (k_dP : f dP = some (.inl (cI G, 240, .inl (nf pk)))) (k_dE : f dE = some (.inl (cZ G, 240, .inl gh))) (k_dX : f dX = some (.inl (cI G, 3, .inl (nf fl)))) (k_dY : f dY = some (.inl (cI G, 3, .inl gl))) (k_dG : f dG = some (.inl (cI G, 60, .inl (nf gv)))) (hB9 : BOK n a cg x sa pk) (hND : ND5 dW dA dQ dM dS dL dR dT dZ dI dH dN dK dJ dU dO dF dP dE dX dY dG) (q : Nat) (hq : q < n) : CT l yX5_missing (.code yX5_missing cX5_missing 3 (some .int)) 0 0 0 0 G [.ref mo, .int (nI q)] f (fun v f1 => f1 = f ∧ v = some (.int (nI (fGap gh (sa (q + 1) - sa q) (sa q))))) (fun E f1 => False) := by
  refine hp_start hl (own := RX5) (by decide) rfl (Nat.le_of_ble_eq_true rfl) ?_
  intro p e s m args below meth c B0 hr hnm hout hw hS ls hl9
  have hx := B0.1
  have hb := B0.2.1
  have hl9 : lv_has ls 3 [(0, .ref mo), (1, .int (nI q))] := hl9
  obtain ⟨nd_dW_dA, nd_dW_dQ, nd_dA_dQ, nd_dM_dS, nd_dM_dL, nd_dM_dR, nd_dM_dT, nd_dM_dZ, nd_dM_dI, nd_dM_dH, nd_dM_dN, nd_dS_dL, nd_dS_dR, nd_dS_dT, nd_dS_dZ, nd_dS_dI, nd_dS_dH, nd_dS_dN, nd_dL_dR, nd_dL_dT, nd_dL_dZ, nd_dL_dI, nd_dL_dH, nd_dL_dN, nd_dR_dT, nd_dR_dZ, nd_dR_dI, nd_dR_dH, nd_dR_dN, nd_dT_dZ, nd_dT_dI, nd_dT_dH, nd_dT_dN, nd_dZ_dI, nd_dZ_dH, nd_dZ_dN, nd_dI_dH, nd_dI_dN, nd_dH_dN, nd_dK_dJ, nd_dK_dU, nd_dK_dO, nd_dJ_dU, nd_dJ_dO, nd_dU_dO, nd_dP_dE, nd_dX_dY⟩ := id hND
  have hq1 := hB9.2.2.2.1 q hq
  have hq2 := hB9.sle (i := q + 1) hq
  have hq3 := hB9.a240
  have hq4 := hB9.1
  refine lv_aload_n hx hb dX5_missing_0 rfl (lv_at hl9 0 rfl) ?_
  refine hp_get B0 hw 5 rfl in_X5 k_mo 19 (by decide) qF_X5_59 rfl dX5_missing_1 ?_
  refine lv_iload_n hx hb dX5_missing_4 rfl (lv_at hl9 1 rfl) ?_
  refine hp_iald B0 hw k_dF (vp_in_nI (show q < 61 by omega) (by decide)) dX5_missing_5 ?_
  refine hp_c (v := (nI (sa q))) (nf_at (nI_clamp (by omega))) ?_
  refine lv_istore_n (lv' := [(2, .int (nI (sa q))), (0, .ref mo), (1, .int (nI q))]) hx hb dX5_missing_6 rfl hl9 (by decide) rfl (fun ls hl9 => ?_)
  refine hp_for (nL := 3) (pc := 7) (fun j f9 lv9 => f9 = f ∧ fGap gh (sa (q + 1) - sa q) (sa q) = fGap gh (sa (q + 1) - sa q - j) (sa q + j) ∧ lv9 = [(2, .int (nI (sa q + j))), (0, .ref mo), (1, .int (nI q))]) (sa (q + 1) - sa q) (fun j f9 lv9 H locs ls hj hI hw hS hl9 ih => ?_) (fun f9 lv9 H locs ls hI hw hS hl9 => ?_) (sa (q + 1) - sa q) 0 (by omega) f _ _ _ ls ⟨rfl, rfl, rfl⟩ hw hS (lv_sub hl9 [0, 1, 2] rfl)
  · obtain ⟨ef9, eg9, el9⟩ := hI
    rw [ef9] at hw
    rw [el9] at hl9
    refine lv_iload_n hx hb dX5_missing_7 rfl (lv_at hl9 0 rfl) ?_
    refine lv_aload_n hx hb dX5_missing_8 rfl (lv_at hl9 1 rfl) ?_
    refine hp_get B0 hw 5 rfl in_X5 k_mo 19 (by decide) qF_X5_59 rfl dX5_missing_9 ?_
    refine lv_iload_n hx hb dX5_missing_12 rfl (lv_at hl9 2 rfl) ?_
    refine lv_iconst (v := 1) hx hb dX5_missing_13 (by decide) ?_
    refine lv_iadd hx hb dX5_missing_14 ?_
    refine hp_c (v := (nI (q + 1))) (nI_1 q) ?_
    refine hp_iald B0 hw k_dF (vp_in_nI (show q + 1 < 61 by omega) (by decide)) dX5_missing_15 ?_
    refine hp_c (v := (nI (sa (q + 1)))) (nf_at (nI_clamp (by omega))) ?_
    refine lv_icmp_ge (tgt := 34) hx hb dX5_missing_16 (by decide) (fun c9 => absurd c9 (nI_ge (by omega) (by omega))) (fun _ => ?_)
    refine lv_aload_n hx hb dX5_missing_19 rfl (lv_at hl9 1 rfl) ?_
    refine hp_get B0 hw 5 rfl in_X5 k_mo 21 (by decide) qF_X5_65 rfl dX5_missing_20 ?_
    refine lv_iload_n hx hb dX5_missing_23 rfl (lv_at hl9 0 rfl) ?_
    refine hp_zald B0 hw k_dE (vp_in_nI (show sa q + j < 240 by omega) (by decide)) dX5_missing_24 ?_
    refine lv_if_eq (tgt := 34) hx hb dX5_missing_25 (by decide) (fun c1 => ?_) (fun c1 => ?_)
    · refine lv_iload_n hx hb dX5_missing_34 rfl (lv_at hl9 0 rfl) ?_
      exact hp_iret (v := (nI (sa q + j))) B0 hw hS hr ⟨Nat.le_of_ble_eq_true rfl, Nat.le_of_ble_eq_true rfl⟩ dX5_missing_35 (⟨rfl, by rw [eg9, show sa (q + 1) - sa q - j = (sa (q + 1) - sa q - (j + 1)) + 1 by omega, fGap_z (by rw [nI_clamp (by omega)] at c1; exact c1)]⟩)
    · refine lv_iinc (v := (nI (sa q + (j + 1)))) (lv' := [(2, .int (nI (sa q + (j + 1)))), (0, .ref mo), (1, .int (nI q))]) hx hb dX5_missing_28 hl9 (k := 0) rfl (nI_1 (sa q + j)) (by decide) rfl (fun ls hl9 => ?_)
      refine lv_goto (tgt := 7) hx hb dX5_missing_31 (by decide) ?_
      exact ih _ _ H locs ls ⟨rfl, (by rw [eg9, show sa (q + 1) - sa q - j = (sa (q + 1) - sa q - (j + 1)) + 1 by omega, fGap_s (by rw [nI_clamp (by omega)] at c1; exact c1)]; rfl), rfl⟩ hw hS (lv_sub hl9 [0, 1, 2] rfl)
  · obtain ⟨ef9, eg9, el9⟩ := hI
    rw [ef9] at hw
    rw [el9] at hl9
    refine lv_iload_n hx hb dX5_missing_7 rfl (lv_at hl9 0 rfl) ?_
    refine lv_aload_n hx hb dX5_missing_8 rfl (lv_at hl9 1 rfl) ?_
    refine hp_get B0 hw 5 rfl in_X5 k_mo 19 (by decide) qF_X5_59 rfl dX5_missing_9 ?_
    refine lv_iload_n hx hb dX5_missing_12 rfl (lv_at hl9 2 rfl) ?_
    refine lv_iconst (v := 1) hx hb dX5_missing_13 (by decide) ?_
    refine lv_iadd hx hb dX5_missing_14 ?_
    refine hp_c (v := (nI (q + 1))) (nI_1 q) ?_
    refine hp_iald B0 hw k_dF (vp_in_nI (show q + 1 < 61 by omega) (by decide)) dX5_missing_15 ?_
    refine hp_c (v := (nI (sa (q + 1)))) (nf_at (nI_clamp (by omega))) ?_
    refine lv_icmp_ge (tgt := 34) hx hb dX5_missing_16 (by decide) (fun _ => ?_) (fun c9 => absurd (nI_le (by omega) (by omega)) c9)
    refine lv_iload_n hx hb dX5_missing_34 rfl (lv_at hl9 0 rfl) ?_
    exact hp_iret (v := (nI (sa q + (sa (q + 1) - sa q)))) B0 hw hS hr ⟨Nat.le_of_ble_eq_true rfl, Nat.le_of_ble_eq_true rfl⟩ dX5_missing_35 (⟨rfl, by rw [eg9, Nat.sub_self, show sa q + (sa (q + 1) - sa q) = sa (q + 1) by omega]; rfl⟩)

set_option maxHeartbeats 4000000 in
set_option maxRecDepth 100000 in
theorem c_W5_goesOn {l : Launch} (hl : l.stackTraces = false) (G : hG) (f : hM) (mo dW dA dQ dM dS dL dR dT dZ dI dH dN dK dJ dU dO dF dP dE dX dY dG : Nat) (vth : Int32) (n a cg x : Nat) (sa pk fl gv : Nat → Nat) (gh gl : Nat → Int32) (k_mo : f mo = some (.inr (5, [.int vth, .ref dW, .ref dA, .ref dQ, .ref dM, .ref dS, .ref dL, .ref dR, .ref dT, .ref dZ, .ref dI, .ref dH, .ref dN, .ref dK, .ref dJ, .ref dU, .ref dO, .int (nI n), .int (nI a), .ref dF, .ref dP, .ref dE, .ref dX, .ref dY, .int (nI x), .int (nI cg), .ref dG]))) (k_dF : f dF = some (.inl (cI G, 61, .inl (nf sa)))) (k_dP : f dP = some (.inl (cI G, 240, .inl (nf pk)))) (k_dE : f dE = some (.inl (cZ G, 240, .inl gh))) (k_dX : f dX = some (.inl (cI G, 3, .inl (nf fl)))) (k_dY : f dY = some (.inl (cI G, 3, .inl gl))) (k_dG : f dG = some (.inl (cI G, 60, .inl (nf gv)))) (hB9 : BOK n a cg x sa pk) (hND : ND5 dW dA dQ dM dS dL dR dT dZ dI dH dN dK dJ dU dO dF dP dE dX dY dG)  : CT l yX5_goesOn (.code yX5_goesOn cX5_goesOn 5 (some .boolean)) 1 22 0 0 G [.ref mo] f (fun v f1 => ((v = some (.int 1) ∧ ∃ (c1 x1 : Nat) (gv1 : Nat → Nat), bStep a sa pk gh (bnd gl) cg x gv = some (c1, x1, gv1) ∧ f1 mo = some (.inr (5, [.int vth, .ref dW, .ref dA, .ref dQ, .ref dM, .ref dS, .ref dL, .ref dR, .ref dT, .ref dZ, .ref dI, .ref dH, .ref dN, .ref dK, .ref dJ, .ref dU, .ref dO, .int (nI n), .int (nI a), .ref dF, .ref dP, .ref dE, .ref dX, .ref dY, .int (nI x1), .int (nI c1), .ref dG])) ∧ f1 dG = some (.inl (cI G, 60, .inl (nf gv1)))) ∨ (v = some (.int 0) ∧ bStep a sa pk gh (bnd gl) cg x gv = none ∧ f1 mo = some (.inr (5, [.int vth, .ref dW, .ref dA, .ref dQ, .ref dM, .ref dS, .ref dL, .ref dR, .ref dT, .ref dZ, .ref dI, .ref dH, .ref dN, .ref dK, .ref dJ, .ref dU, .ref dO, .int (nI n), .int (nI a), .ref dF, .ref dP, .ref dE, .ref dX, .ref dY, .int (nI x), .int (nI cg), .ref dG])) ∧ f1 dG = some (.inl (cI G, 60, .inl (nf gv))))) ∧ hEq [mo, dG] f f1) (fun E f1 => False) := by
  refine hp_start hl (own := RX5) (by decide) rfl (Nat.le_of_ble_eq_true rfl) ?_
  intro p e s m args below meth c B0 hr hnm hout hw hS ls hl9
  have hx := B0.1
  have hb := B0.2.1
  have hl9 : lv_has ls 5 [(0, .ref mo)] := hl9
  obtain ⟨nd_dW_dA, nd_dW_dQ, nd_dA_dQ, nd_dM_dS, nd_dM_dL, nd_dM_dR, nd_dM_dT, nd_dM_dZ, nd_dM_dI, nd_dM_dH, nd_dM_dN, nd_dS_dL, nd_dS_dR, nd_dS_dT, nd_dS_dZ, nd_dS_dI, nd_dS_dH, nd_dS_dN, nd_dL_dR, nd_dL_dT, nd_dL_dZ, nd_dL_dI, nd_dL_dH, nd_dL_dN, nd_dR_dT, nd_dR_dZ, nd_dR_dI, nd_dR_dH, nd_dR_dN, nd_dT_dZ, nd_dT_dI, nd_dT_dH, nd_dT_dN, nd_dZ_dI, nd_dZ_dH, nd_dZ_dN, nd_dI_dH, nd_dI_dN, nd_dH_dN, nd_dK_dJ, nd_dK_dU, nd_dK_dO, nd_dJ_dU, nd_dJ_dO, nd_dU_dO, nd_dP_dE, nd_dX_dY⟩ := id hND
  have hq3 := hB9.a240
  have hq4 := hB9.1
  have hq5 := hB9.2.2.2.2.2.1
  refine lv_aload_n hx hb dX5_goesOn_0 rfl (lv_at hl9 0 rfl) ?_
  refine hp_get B0 hw 5 rfl in_X5 k_mo 24 (by decide) qF_X5_142 rfl dX5_goesOn_1 ?_
  refine lv_aload_n hx hb dX5_goesOn_4 rfl (lv_at hl9 0 rfl) ?_
  refine hp_get B0 hw 5 rfl in_X5 k_mo 18 (by decide) qF_X5_139 rfl dX5_goesOn_5 ?_
  refine lv_icmp_lt (tgt := 13) hx hb dX5_goesOn_8 (by decide) (fun c1 => ?_) (fun c1 => ?_)
  · have hxa : x < a := Nat.lt_of_not_le (fun h9 => nI_nlt h9 (by omega) c1)
    have hqn := (hB9.c60 hxa).2
    have hq2 := hB9.sle (i := pk x) (by omega)
    have hc : cg < 60 := by have h1 := hB9.c60 hxa; omega
    refine lv_aload_n hx hb dX5_goesOn_13 rfl (lv_at hl9 0 rfl) ?_
    refine hp_get B0 hw 5 rfl in_X5 k_mo 20 (by decide) qF_X5_62 rfl dX5_goesOn_14 ?_
    refine lv_aload_n hx hb dX5_goesOn_17 rfl (lv_at hl9 0 rfl) ?_
    refine hp_get B0 hw 5 rfl in_X5 k_mo 24 (by decide) qF_X5_142 rfl dX5_goesOn_18 ?_
    refine hp_iald B0 hw k_dP (vp_in_nI (show x < 240 by omega) (by decide)) dX5_goesOn_21 ?_
    refine hp_c (v := (nI (pk x))) (nf_at (nI_clamp (by omega))) ?_
    refine lv_istore_n (lv' := [(1, .int (nI (pk x))), (0, .ref mo)]) hx hb dX5_goesOn_22 rfl hl9 (by decide) rfl (fun ls hl9 => ?_)
    refine lv_aload_n hx hb dX5_goesOn_23 rfl (lv_at hl9 1 rfl) ?_
    refine hp_get B0 hw 5 rfl in_X5 k_mo 19 (by decide) qF_X5_59 rfl dX5_goesOn_24 ?_
    refine lv_iload_n hx hb dX5_goesOn_27 rfl (lv_at hl9 0 rfl) ?_
    refine hp_iald B0 hw k_dF (vp_in_nI (show pk x < 61 by omega) (by decide)) dX5_goesOn_28 ?_
    refine hp_c (v := (nI (sa (pk x)))) (nf_at (nI_clamp (by omega))) ?_
    refine lv_aload_n hx hb dX5_goesOn_29 rfl (lv_at hl9 1 rfl) ?_
    refine hp_get B0 hw 5 rfl in_X5 k_mo 24 (by decide) qF_X5_142 rfl dX5_goesOn_30 ?_
    refine lv_icmp_ne (tgt := 40) hx hb dX5_goesOn_33 (by decide) (fun c2 => ?_) (fun c2 => ?_)
    · refine lv_iconst (v := 0) hx hb dX5_goesOn_40 (by decide) ?_
      refine lv_istore_n (lv' := [(2, .int 0), (1, .int (nI (pk x))), (0, .ref mo)]) hx hb dX5_goesOn_41 rfl hl9 (by decide) rfl (fun ls hl9 => ?_)
      refine lv_aload_n hx hb dX5_goesOn_42 rfl (lv_at hl9 2 rfl) ?_
      refine hp_V (ci := 5) (As := []) (rest := []) B0 hw hS (c_W5_bound hl G f mo dW dA dQ dM dS dL dR dT dZ dI dH dN dK dJ dU dO dF dP dE dX dY dG vth n a cg x sa pk fl gv gh gl k_mo k_dF k_dP k_dE k_dX k_dY k_dG hB9 hND) mV_X5_bound qM_X5_145 rfl k_mo rfl rfl hl9.1 (Nat.le_of_ble_eq_true rfl) ⟨⟨Nat.le_of_ble_eq_true rfl, Nat.le_of_ble_eq_true rfl⟩, Nat.le_of_ble_eq_true rfl, Nat.le_of_ble_eq_true rfl⟩ dX5_goesOn_43 (fun E ce q9 f3 H locs hPX hw hS hce hcv hcl => ?_) (fun v f3 H locs hP hw hS => ?_)
      · exact hPX.elim
      · obtain ⟨ef9, ev9⟩ := hP
        rw [ef9] at hw
        subst ev9
        refine W.eq (g2 := F0 m 46 ls [.int (bnd gl)]) rfl ?_
        refine lv_istore_n (lv' := [(3, .int (bnd gl)), (2, .int 0), (1, .int (nI (pk x))), (0, .ref mo)]) hx hb dX5_goesOn_46 rfl hl9 (by decide) rfl (fun ls hl9 => ?_)
        refine lv_aload_n hx hb dX5_goesOn_47 rfl (lv_at hl9 3 rfl) ?_
        refine hp_get B0 hw 5 rfl in_X5 k_mo 21 (by decide) qF_X5_65 rfl dX5_goesOn_48 ?_
        refine lv_aload_n hx hb dX5_goesOn_51 rfl (lv_at hl9 3 rfl) ?_
        refine hp_get B0 hw 5 rfl in_X5 k_mo 24 (by decide) qF_X5_142 rfl dX5_goesOn_52 ?_
        refine hp_zald B0 hw k_dE (vp_in_nI (show x < 240 by omega) (by decide)) dX5_goesOn_55 ?_
        refine hp_c (v := (gh x)) (congrArg gh (nI_clamp (by omega))) ?_
        refine lv_if_eq (tgt := 63) hx hb dX5_goesOn_56 (by decide) (fun c4 => ?_) (fun c4 => ?_)
        · refine lv_aload_n hx hb dX5_goesOn_63 rfl (lv_at hl9 3 rfl) ?_
          refine hp_get B0 hw 5 rfl in_X5 k_mo 21 (by decide) qF_X5_65 rfl dX5_goesOn_64 ?_
          refine lv_aload_n hx hb dX5_goesOn_67 rfl (lv_at hl9 3 rfl) ?_
          refine hp_get B0 hw 5 rfl in_X5 k_mo 24 (by decide) qF_X5_142 rfl dX5_goesOn_68 ?_
          refine hp_zald B0 hw k_dE (vp_in_nI (show x < 240 by omega) (by decide)) dX5_goesOn_71 ?_
          refine hp_c (v := (gh x)) (congrArg gh (nI_clamp (by omega))) ?_
          refine lv_if_ne (tgt := 83) hx hb dX5_goesOn_72 (by decide) (fun c9 => absurd c4 c9) (fun _ => ?_)
          refine lv_aload_n hx hb dX5_goesOn_75 rfl (lv_at hl9 3 rfl) ?_
          refine hp_get B0 hw 5 rfl in_X5 k_mo 24 (by decide) qF_X5_142 rfl dX5_goesOn_76 ?_
          refine lv_iload_n hx hb dX5_goesOn_79 rfl (lv_at hl9 0 rfl) ?_
          refine lv_icmp_ge (tgt := 87) hx hb dX5_goesOn_80 (by decide) (fun c5 => ?_) (fun c5 => ?_)
          · refine lv_iconst (v := 0) hx hb dX5_goesOn_87 (by decide) ?_
            refine lv_istore (lv' := [(4, .int 0), (3, .int (bnd gl)), (2, .int 0), (1, .int (nI (pk x))), (0, .ref mo)]) hx hb dX5_goesOn_88 hl9 (by decide) rfl (fun ls hl9 => ?_)
            refine lv_aload_n hx hb dX5_goesOn_90 rfl (lv_at hl9 4 rfl) ?_
            refine lv_dup hx hb dX5_goesOn_91 rfl ?_
            refine hp_get B0 hw 5 rfl in_X5 k_mo 24 (by decide) qF_X5_142 rfl dX5_goesOn_92 ?_
            refine lv_iload hx hb dX5_goesOn_95 (lv_at hl9 0 rfl) ?_
            refine lv_if_eq (tgt := 104) hx hb dX5_goesOn_97 (by decide) (fun _ => ?_) (fun c9 => absurd (by decide) c9)
            refine lv_iconst (v := 0) hx hb dX5_goesOn_104 (by decide) ?_
            refine lv_iadd hx hb dX5_goesOn_105 ?_
            refine hp_c (v := (nI x)) (Int32.add_zero _) ?_
            refine hp_put (fs1 := [.int vth, .ref dW, .ref dA, .ref dQ, .ref dM, .ref dS, .ref dL, .ref dR, .ref dT, .ref dZ, .ref dI, .ref dH, .ref dN, .ref dK, .ref dJ, .ref dU, .ref dO, .int (nI n), .int (nI a), .ref dF, .ref dP, .ref dE, .ref dX, .ref dY, .int (nI x), .int (nI cg), .ref dG]) (ty := .int) B0 hw hS 5 rfl in_X5 tyX5 tyX5_ok nmX5 k_mo 24 (by decide) qF_X5_142 rfl (by decide +kernel) rfl rfl (Nat.le_of_ble_eq_true rfl) rfl dX5_goesOn_106 (fun H locs f6 ef6 hw hS => ?_)
            have h7 : f6 mo = some (.inr (5, [.int vth, .ref dW, .ref dA, .ref dQ, .ref dM, .ref dS, .ref dL, .ref dR, .ref dT, .ref dZ, .ref dI, .ref dH, .ref dN, .ref dK, .ref dJ, .ref dU, .ref dO, .int (nI n), .int (nI a), .ref dF, .ref dP, .ref dE, .ref dX, .ref dY, .int (nI x), .int (nI cg), .ref dG])) := by rw [ef6, va_up_self]
            refine lv_iload hx hb dX5_goesOn_109 (lv_at hl9 0 rfl) ?_
            have n9 : dG ≠ mo := hne k_dG k_mo (Nat.ne_of_beq_eq_false rfl)
            have h8 : f6 dG = some (.inl (cI G, 60, .inl (nf gv))) := by rw [ef6, va_up_ne _ _ n9]; exact k_dG
            exact hp_zret (v := 0) B0 hw hS hr ⟨Nat.le_of_ble_eq_true rfl, Nat.le_of_ble_eq_true rfl⟩ (rfl) dX5_goesOn_111 (⟨Or.inr ⟨rfl, (by unfold bStep; rw [if_pos hxa, if_neg (fun h9 => h9.1 c4), if_pos ⟨c4, leNI c5⟩]), h7, h8⟩, (show hEq [mo, dG] f f6 from (by rw [ef6]; exact hEq.up List.mem_cons_self))⟩)
          · refine lv_iconst (v := 1) hx hb dX5_goesOn_83 (by decide) ?_
            refine lv_goto (tgt := 88) hx hb dX5_goesOn_84 (by decide) ?_
            refine lv_istore (lv' := [(4, .int 1), (3, .int (bnd gl)), (2, .int 0), (1, .int (nI (pk x))), (0, .ref mo)]) hx hb dX5_goesOn_88 hl9 (by decide) rfl (fun ls hl9 => ?_)
            refine lv_aload_n hx hb dX5_goesOn_90 rfl (lv_at hl9 4 rfl) ?_
            refine lv_dup hx hb dX5_goesOn_91 rfl ?_
            refine hp_get B0 hw 5 rfl in_X5 k_mo 24 (by decide) qF_X5_142 rfl dX5_goesOn_92 ?_
            refine lv_iload hx hb dX5_goesOn_95 (lv_at hl9 0 rfl) ?_
            refine lv_if_eq (tgt := 104) hx hb dX5_goesOn_97 (by decide) (fun c9 => absurd c9 (by decide)) (fun _ => ?_)
            refine lv_iconst (v := 1) hx hb dX5_goesOn_100 (by decide) ?_
            refine lv_goto (tgt := 105) hx hb dX5_goesOn_101 (by decide) ?_
            refine lv_iadd hx hb dX5_goesOn_105 ?_
            refine hp_c (v := (nI (x + 1))) (nI_1 x) ?_
            refine hp_put (fs1 := [.int vth, .ref dW, .ref dA, .ref dQ, .ref dM, .ref dS, .ref dL, .ref dR, .ref dT, .ref dZ, .ref dI, .ref dH, .ref dN, .ref dK, .ref dJ, .ref dU, .ref dO, .int (nI n), .int (nI a), .ref dF, .ref dP, .ref dE, .ref dX, .ref dY, .int (nI (x + 1)), .int (nI cg), .ref dG]) (ty := .int) B0 hw hS 5 rfl in_X5 tyX5 tyX5_ok nmX5 k_mo 24 (by decide) qF_X5_142 rfl (by decide +kernel) rfl rfl (Nat.le_of_ble_eq_true rfl) rfl dX5_goesOn_106 (fun H locs f10 ef10 hw hS => ?_)
            have h11 : f10 mo = some (.inr (5, [.int vth, .ref dW, .ref dA, .ref dQ, .ref dM, .ref dS, .ref dL, .ref dR, .ref dT, .ref dZ, .ref dI, .ref dH, .ref dN, .ref dK, .ref dJ, .ref dU, .ref dO, .int (nI n), .int (nI a), .ref dF, .ref dP, .ref dE, .ref dX, .ref dY, .int (nI (x + 1)), .int (nI cg), .ref dG])) := by rw [ef10, va_up_self]
            refine lv_iload hx hb dX5_goesOn_109 (lv_at hl9 0 rfl) ?_
            have n13 : dG ≠ mo := hne k_dG k_mo (Nat.ne_of_beq_eq_false rfl)
            have h12 : f10 dG = some (.inl (cI G, 60, .inl (nf gv))) := by rw [ef10, va_up_ne _ _ n13]; exact k_dG
            exact hp_zret (v := 1) B0 hw hS hr ⟨Nat.le_of_ble_eq_true rfl, Nat.le_of_ble_eq_true rfl⟩ (rfl) dX5_goesOn_111 (⟨Or.inl ⟨rfl, _, _, _, (by unfold bStep; rw [if_pos hxa, if_neg (fun h9 => h9.1 c4), if_neg (fun h9 => h9.2 (nleI c5))]), h11, h12⟩, (show hEq [mo, dG] f f10 from (by rw [ef10]; exact hEq.up List.mem_cons_self))⟩)
        · refine lv_iload_n hx hb dX5_goesOn_59 rfl (lv_at hl9 1 rfl) ?_
          refine lv_if_ne (tgt := 112) hx hb dX5_goesOn_60 (by decide) (fun c9 => absurd (by decide) c9) (fun _ => ?_)
          refine lv_aload_n hx hb dX5_goesOn_63 rfl (lv_at hl9 3 rfl) ?_
          refine hp_get B0 hw 5 rfl in_X5 k_mo 21 (by decide) qF_X5_65 rfl dX5_goesOn_64 ?_
          refine lv_aload_n hx hb dX5_goesOn_67 rfl (lv_at hl9 3 rfl) ?_
          refine hp_get B0 hw 5 rfl in_X5 k_mo 24 (by decide) qF_X5_142 rfl dX5_goesOn_68 ?_
          refine hp_zald B0 hw k_dE (vp_in_nI (show x < 240 by omega) (by decide)) dX5_goesOn_71 ?_
          refine hp_c (v := (gh x)) (congrArg gh (nI_clamp (by omega))) ?_
          refine lv_if_ne (tgt := 83) hx hb dX5_goesOn_72 (by decide) (fun _ => ?_) (fun c9 => absurd c9 c4)
          refine lv_iconst (v := 1) hx hb dX5_goesOn_83 (by decide) ?_
          refine lv_goto (tgt := 88) hx hb dX5_goesOn_84 (by decide) ?_
          refine lv_istore (lv' := [(4, .int 1), (3, .int (bnd gl)), (2, .int 0), (1, .int (nI (pk x))), (0, .ref mo)]) hx hb dX5_goesOn_88 hl9 (by decide) rfl (fun ls hl9 => ?_)
          refine lv_aload_n hx hb dX5_goesOn_90 rfl (lv_at hl9 4 rfl) ?_
          refine lv_dup hx hb dX5_goesOn_91 rfl ?_
          refine hp_get B0 hw 5 rfl in_X5 k_mo 24 (by decide) qF_X5_142 rfl dX5_goesOn_92 ?_
          refine lv_iload hx hb dX5_goesOn_95 (lv_at hl9 0 rfl) ?_
          refine lv_if_eq (tgt := 104) hx hb dX5_goesOn_97 (by decide) (fun c9 => absurd c9 (by decide)) (fun _ => ?_)
          refine lv_iconst (v := 1) hx hb dX5_goesOn_100 (by decide) ?_
          refine lv_goto (tgt := 105) hx hb dX5_goesOn_101 (by decide) ?_
          refine lv_iadd hx hb dX5_goesOn_105 ?_
          refine hp_c (v := (nI (x + 1))) (nI_1 x) ?_
          refine hp_put (fs1 := [.int vth, .ref dW, .ref dA, .ref dQ, .ref dM, .ref dS, .ref dL, .ref dR, .ref dT, .ref dZ, .ref dI, .ref dH, .ref dN, .ref dK, .ref dJ, .ref dU, .ref dO, .int (nI n), .int (nI a), .ref dF, .ref dP, .ref dE, .ref dX, .ref dY, .int (nI (x + 1)), .int (nI cg), .ref dG]) (ty := .int) B0 hw hS 5 rfl in_X5 tyX5 tyX5_ok nmX5 k_mo 24 (by decide) qF_X5_142 rfl (by decide +kernel) rfl rfl (Nat.le_of_ble_eq_true rfl) rfl dX5_goesOn_106 (fun H locs f14 ef14 hw hS => ?_)
          have h15 : f14 mo = some (.inr (5, [.int vth, .ref dW, .ref dA, .ref dQ, .ref dM, .ref dS, .ref dL, .ref dR, .ref dT, .ref dZ, .ref dI, .ref dH, .ref dN, .ref dK, .ref dJ, .ref dU, .ref dO, .int (nI n), .int (nI a), .ref dF, .ref dP, .ref dE, .ref dX, .ref dY, .int (nI (x + 1)), .int (nI cg), .ref dG])) := by rw [ef14, va_up_self]
          refine lv_iload hx hb dX5_goesOn_109 (lv_at hl9 0 rfl) ?_
          have n17 : dG ≠ mo := hne k_dG k_mo (Nat.ne_of_beq_eq_false rfl)
          have h16 : f14 dG = some (.inl (cI G, 60, .inl (nf gv))) := by rw [ef14, va_up_ne _ _ n17]; exact k_dG
          exact hp_zret (v := 1) B0 hw hS hr ⟨Nat.le_of_ble_eq_true rfl, Nat.le_of_ble_eq_true rfl⟩ (rfl) dX5_goesOn_111 (⟨Or.inl ⟨rfl, _, _, _, (by unfold bStep; rw [if_pos hxa, if_neg (fun h9 => c2 (congrArg nI h9.2)), if_neg (fun h9 => c4 h9.1)]), h15, h16⟩, (show hEq [mo, dG] f f14 from (by rw [ef14]; exact hEq.up List.mem_cons_self))⟩)
    · refine lv_iconst (v := 1) hx hb dX5_goesOn_36 (by decide) ?_
      refine lv_goto (tgt := 41) hx hb dX5_goesOn_37 (by decide) ?_
      refine lv_istore_n (lv' := [(2, .int 1), (1, .int (nI (pk x))), (0, .ref mo)]) hx hb dX5_goesOn_41 rfl hl9 (by decide) rfl (fun ls hl9 => ?_)
      refine lv_aload_n hx hb dX5_goesOn_42 rfl (lv_at hl9 2 rfl) ?_
      refine hp_V (ci := 5) (As := []) (rest := []) B0 hw hS (c_W5_bound hl G f mo dW dA dQ dM dS dL dR dT dZ dI dH dN dK dJ dU dO dF dP dE dX dY dG vth n a cg x sa pk fl gv gh gl k_mo k_dF k_dP k_dE k_dX k_dY k_dG hB9 hND) mV_X5_bound qM_X5_145 rfl k_mo rfl rfl hl9.1 (Nat.le_of_ble_eq_true rfl) ⟨⟨Nat.le_of_ble_eq_true rfl, Nat.le_of_ble_eq_true rfl⟩, Nat.le_of_ble_eq_true rfl, Nat.le_of_ble_eq_true rfl⟩ dX5_goesOn_43 (fun E ce q9 f18 H locs hPX hw hS hce hcv hcl => ?_) (fun v f18 H locs hP hw hS => ?_)
      · exact hPX.elim
      · obtain ⟨ef9, ev9⟩ := hP
        rw [ef9] at hw
        subst ev9
        refine W.eq (g2 := F0 m 46 ls [.int (bnd gl)]) rfl ?_
        refine lv_istore_n (lv' := [(3, .int (bnd gl)), (2, .int 1), (1, .int (nI (pk x))), (0, .ref mo)]) hx hb dX5_goesOn_46 rfl hl9 (by decide) rfl (fun ls hl9 => ?_)
        refine lv_aload_n hx hb dX5_goesOn_47 rfl (lv_at hl9 3 rfl) ?_
        refine hp_get B0 hw 5 rfl in_X5 k_mo 21 (by decide) qF_X5_65 rfl dX5_goesOn_48 ?_
        refine lv_aload_n hx hb dX5_goesOn_51 rfl (lv_at hl9 3 rfl) ?_
        refine hp_get B0 hw 5 rfl in_X5 k_mo 24 (by decide) qF_X5_142 rfl dX5_goesOn_52 ?_
        refine hp_zald B0 hw k_dE (vp_in_nI (show x < 240 by omega) (by decide)) dX5_goesOn_55 ?_
        refine hp_c (v := (gh x)) (congrArg gh (nI_clamp (by omega))) ?_
        refine lv_if_eq (tgt := 63) hx hb dX5_goesOn_56 (by decide) (fun c19 => ?_) (fun c19 => ?_)
        · refine lv_aload_n hx hb dX5_goesOn_63 rfl (lv_at hl9 3 rfl) ?_
          refine hp_get B0 hw 5 rfl in_X5 k_mo 21 (by decide) qF_X5_65 rfl dX5_goesOn_64 ?_
          refine lv_aload_n hx hb dX5_goesOn_67 rfl (lv_at hl9 3 rfl) ?_
          refine hp_get B0 hw 5 rfl in_X5 k_mo 24 (by decide) qF_X5_142 rfl dX5_goesOn_68 ?_
          refine hp_zald B0 hw k_dE (vp_in_nI (show x < 240 by omega) (by decide)) dX5_goesOn_71 ?_
          refine hp_c (v := (gh x)) (congrArg gh (nI_clamp (by omega))) ?_
          refine lv_if_ne (tgt := 83) hx hb dX5_goesOn_72 (by decide) (fun c9 => absurd c19 c9) (fun _ => ?_)
          refine lv_aload_n hx hb dX5_goesOn_75 rfl (lv_at hl9 3 rfl) ?_
          refine hp_get B0 hw 5 rfl in_X5 k_mo 24 (by decide) qF_X5_142 rfl dX5_goesOn_76 ?_
          refine lv_iload_n hx hb dX5_goesOn_79 rfl (lv_at hl9 0 rfl) ?_
          refine lv_icmp_ge (tgt := 87) hx hb dX5_goesOn_80 (by decide) (fun c20 => ?_) (fun c20 => ?_)
          · refine lv_iconst (v := 0) hx hb dX5_goesOn_87 (by decide) ?_
            refine lv_istore (lv' := [(4, .int 0), (3, .int (bnd gl)), (2, .int 1), (1, .int (nI (pk x))), (0, .ref mo)]) hx hb dX5_goesOn_88 hl9 (by decide) rfl (fun ls hl9 => ?_)
            refine lv_aload_n hx hb dX5_goesOn_90 rfl (lv_at hl9 4 rfl) ?_
            refine lv_dup hx hb dX5_goesOn_91 rfl ?_
            refine hp_get B0 hw 5 rfl in_X5 k_mo 24 (by decide) qF_X5_142 rfl dX5_goesOn_92 ?_
            refine lv_iload hx hb dX5_goesOn_95 (lv_at hl9 0 rfl) ?_
            refine lv_if_eq (tgt := 104) hx hb dX5_goesOn_97 (by decide) (fun _ => ?_) (fun c9 => absurd (by decide) c9)
            refine lv_iconst (v := 0) hx hb dX5_goesOn_104 (by decide) ?_
            refine lv_iadd hx hb dX5_goesOn_105 ?_
            refine hp_c (v := (nI x)) (Int32.add_zero _) ?_
            refine hp_put (fs1 := [.int vth, .ref dW, .ref dA, .ref dQ, .ref dM, .ref dS, .ref dL, .ref dR, .ref dT, .ref dZ, .ref dI, .ref dH, .ref dN, .ref dK, .ref dJ, .ref dU, .ref dO, .int (nI n), .int (nI a), .ref dF, .ref dP, .ref dE, .ref dX, .ref dY, .int (nI x), .int (nI cg), .ref dG]) (ty := .int) B0 hw hS 5 rfl in_X5 tyX5 tyX5_ok nmX5 k_mo 24 (by decide) qF_X5_142 rfl (by decide +kernel) rfl rfl (Nat.le_of_ble_eq_true rfl) rfl dX5_goesOn_106 (fun H locs f21 ef21 hw hS => ?_)
            have h22 : f21 mo = some (.inr (5, [.int vth, .ref dW, .ref dA, .ref dQ, .ref dM, .ref dS, .ref dL, .ref dR, .ref dT, .ref dZ, .ref dI, .ref dH, .ref dN, .ref dK, .ref dJ, .ref dU, .ref dO, .int (nI n), .int (nI a), .ref dF, .ref dP, .ref dE, .ref dX, .ref dY, .int (nI x), .int (nI cg), .ref dG])) := by rw [ef21, va_up_self]
            refine lv_iload hx hb dX5_goesOn_109 (lv_at hl9 0 rfl) ?_
            have n24 : dG ≠ mo := hne k_dG k_mo (Nat.ne_of_beq_eq_false rfl)
            have h23 : f21 dG = some (.inl (cI G, 60, .inl (nf gv))) := by rw [ef21, va_up_ne _ _ n24]; exact k_dG
            exact hp_zret (v := 0) B0 hw hS hr ⟨Nat.le_of_ble_eq_true rfl, Nat.le_of_ble_eq_true rfl⟩ (rfl) dX5_goesOn_111 (⟨Or.inr ⟨rfl, (by unfold bStep; rw [if_pos hxa, if_neg (fun h9 => h9.1 c19), if_pos ⟨c19, leNI c20⟩]), h22, h23⟩, (show hEq [mo, dG] f f21 from (by rw [ef21]; exact hEq.up List.mem_cons_self))⟩)
          · refine lv_iconst (v := 1) hx hb dX5_goesOn_83 (by decide) ?_
            refine lv_goto (tgt := 88) hx hb dX5_goesOn_84 (by decide) ?_
            refine lv_istore (lv' := [(4, .int 1), (3, .int (bnd gl)), (2, .int 1), (1, .int (nI (pk x))), (0, .ref mo)]) hx hb dX5_goesOn_88 hl9 (by decide) rfl (fun ls hl9 => ?_)
            refine lv_aload_n hx hb dX5_goesOn_90 rfl (lv_at hl9 4 rfl) ?_
            refine lv_dup hx hb dX5_goesOn_91 rfl ?_
            refine hp_get B0 hw 5 rfl in_X5 k_mo 24 (by decide) qF_X5_142 rfl dX5_goesOn_92 ?_
            refine lv_iload hx hb dX5_goesOn_95 (lv_at hl9 0 rfl) ?_
            refine lv_if_eq (tgt := 104) hx hb dX5_goesOn_97 (by decide) (fun c9 => absurd c9 (by decide)) (fun _ => ?_)
            refine lv_iconst (v := 1) hx hb dX5_goesOn_100 (by decide) ?_
            refine lv_goto (tgt := 105) hx hb dX5_goesOn_101 (by decide) ?_
            refine lv_iadd hx hb dX5_goesOn_105 ?_
            refine hp_c (v := (nI (x + 1))) (nI_1 x) ?_
            refine hp_put (fs1 := [.int vth, .ref dW, .ref dA, .ref dQ, .ref dM, .ref dS, .ref dL, .ref dR, .ref dT, .ref dZ, .ref dI, .ref dH, .ref dN, .ref dK, .ref dJ, .ref dU, .ref dO, .int (nI n), .int (nI a), .ref dF, .ref dP, .ref dE, .ref dX, .ref dY, .int (nI (x + 1)), .int (nI cg), .ref dG]) (ty := .int) B0 hw hS 5 rfl in_X5 tyX5 tyX5_ok nmX5 k_mo 24 (by decide) qF_X5_142 rfl (by decide +kernel) rfl rfl (Nat.le_of_ble_eq_true rfl) rfl dX5_goesOn_106 (fun H locs f25 ef25 hw hS => ?_)
            have h26 : f25 mo = some (.inr (5, [.int vth, .ref dW, .ref dA, .ref dQ, .ref dM, .ref dS, .ref dL, .ref dR, .ref dT, .ref dZ, .ref dI, .ref dH, .ref dN, .ref dK, .ref dJ, .ref dU, .ref dO, .int (nI n), .int (nI a), .ref dF, .ref dP, .ref dE, .ref dX, .ref dY, .int (nI (x + 1)), .int (nI cg), .ref dG])) := by rw [ef25, va_up_self]
            refine lv_iload hx hb dX5_goesOn_109 (lv_at hl9 0 rfl) ?_
            have n28 : dG ≠ mo := hne k_dG k_mo (Nat.ne_of_beq_eq_false rfl)
            have h27 : f25 dG = some (.inl (cI G, 60, .inl (nf gv))) := by rw [ef25, va_up_ne _ _ n28]; exact k_dG
            exact hp_zret (v := 1) B0 hw hS hr ⟨Nat.le_of_ble_eq_true rfl, Nat.le_of_ble_eq_true rfl⟩ (rfl) dX5_goesOn_111 (⟨Or.inl ⟨rfl, _, _, _, (by unfold bStep; rw [if_pos hxa, if_neg (fun h9 => h9.1 c19), if_neg (fun h9 => h9.2 (nleI c20))]), h26, h27⟩, (show hEq [mo, dG] f f25 from (by rw [ef25]; exact hEq.up List.mem_cons_self))⟩)
        · refine lv_iload_n hx hb dX5_goesOn_59 rfl (lv_at hl9 1 rfl) ?_
          refine lv_if_ne (tgt := 112) hx hb dX5_goesOn_60 (by decide) (fun _ => ?_) (fun c9 => absurd c9 (by decide))
          refine lv_aload_n hx hb dX5_goesOn_112 rfl (lv_at hl9 3 rfl) ?_
          refine lv_iload_n hx hb dX5_goesOn_113 rfl (lv_at hl9 2 rfl) ?_
          refine hp_V (ci := 5) (As := [.int (nI (pk x))]) (rest := []) B0 hw hS (c_W5_missing hl G f mo dW dA dQ dM dS dL dR dT dZ dI dH dN dK dJ dU dO dF dP dE dX dY dG vth n a cg x sa pk fl gv gh gl k_mo k_dF k_dP k_dE k_dX k_dY k_dG hB9 hND (pk x) hqn) mV_X5_missing qM_X5_149 rfl k_mo rfl rfl hl9.1 (Nat.le_of_ble_eq_true rfl) ⟨⟨Nat.le_of_ble_eq_true rfl, Nat.le_of_ble_eq_true rfl⟩, Nat.le_of_ble_eq_true rfl, Nat.le_of_ble_eq_true rfl⟩ dX5_goesOn_114 (fun E ce q9 f29 H locs hPX hw hS hce hcv hcl => ?_) (fun v f29 H locs hP hw hS => ?_)
          · exact hPX.elim
          · obtain ⟨ef9, ev9⟩ := hP
            rw [ef9] at hw
            subst ev9
            have hqx : sa (pk x) = x := (nI_eq (by omega) (by omega)).mp c2
            have eg : fGap gh (sa (pk x + 1) - sa (pk x)) (sa (pk x)) = fGap gh (sa (pk x + 1) - x) x := by rw [hqx]
            have hg1 := fGap_le gh (sa (pk x + 1) - sa (pk x)) (sa (pk x))
            have hq1 := hB9.2.2.2.1 _ hqn
            have hq6 := hB9.sle (i := pk x + 1) hqn
            refine W.eq (g2 := F0 m 117 ls [.int (nI (fGap gh (sa (pk x + 1) - sa (pk x)) (sa (pk x))))]) rfl ?_
            refine lv_istore (lv' := [(4, .int (nI (fGap gh (sa (pk x + 1) - sa (pk x)) (sa (pk x))))), (3, .int (bnd gl)), (2, .int 1), (1, .int (nI (pk x))), (0, .ref mo)]) hx hb dX5_goesOn_117 hl9 (by decide) rfl (fun ls hl9 => ?_)
            refine lv_iload hx hb dX5_goesOn_119 (lv_at hl9 0 rfl) ?_
            refine lv_aload_n hx hb dX5_goesOn_121 rfl (lv_at hl9 4 rfl) ?_
            refine hp_get B0 hw 5 rfl in_X5 k_mo 19 (by decide) qF_X5_59 rfl dX5_goesOn_122 ?_
            refine lv_iload_n hx hb dX5_goesOn_125 rfl (lv_at hl9 3 rfl) ?_
            refine lv_iconst (v := 1) hx hb dX5_goesOn_126 (by decide) ?_
            refine lv_iadd hx hb dX5_goesOn_127 ?_
            refine hp_c (v := (nI (pk x + 1))) (nI_1 (pk x)) ?_
            refine hp_iald B0 hw k_dF (vp_in_nI (show pk x + 1 < 61 by omega) (by decide)) dX5_goesOn_128 ?_
            refine hp_c (v := (nI (sa (pk x + 1)))) (nf_at (nI_clamp (by omega))) ?_
            refine lv_icmp_ne (tgt := 160) hx hb dX5_goesOn_129 (by decide) (fun c30 => ?_) (fun c30 => ?_)
            · refine lv_aload_n hx hb dX5_goesOn_160 rfl (lv_at hl9 4 rfl) ?_
              refine lv_iload hx hb dX5_goesOn_161 (lv_at hl9 0 rfl) ?_
              refine lv_iload_n hx hb dX5_goesOn_163 rfl (lv_at hl9 1 rfl) ?_
              refine lv_icmp_ge (tgt := 174) hx hb dX5_goesOn_164 (by decide) (fun c31 => ?_) (fun c31 => ?_)
              · refine lv_aload_n hx hb dX5_goesOn_174 rfl (lv_at hl9 4 rfl) ?_
                refine hp_get B0 hw 5 rfl in_X5 k_mo 24 (by decide) qF_X5_142 rfl dX5_goesOn_175 ?_
                refine hp_put (fs1 := [.int vth, .ref dW, .ref dA, .ref dQ, .ref dM, .ref dS, .ref dL, .ref dR, .ref dT, .ref dZ, .ref dI, .ref dH, .ref dN, .ref dK, .ref dJ, .ref dU, .ref dO, .int (nI n), .int (nI a), .ref dF, .ref dP, .ref dE, .ref dX, .ref dY, .int (nI x), .int (nI cg), .ref dG]) (ty := .int) B0 hw hS 5 rfl in_X5 tyX5 tyX5_ok nmX5 k_mo 24 (by decide) qF_X5_142 rfl (by decide +kernel) rfl rfl (Nat.le_of_ble_eq_true rfl) rfl dX5_goesOn_178 (fun H locs f32 ef32 hw hS => ?_)
                have h33 : f32 mo = some (.inr (5, [.int vth, .ref dW, .ref dA, .ref dQ, .ref dM, .ref dS, .ref dL, .ref dR, .ref dT, .ref dZ, .ref dI, .ref dH, .ref dN, .ref dK, .ref dJ, .ref dU, .ref dO, .int (nI n), .int (nI a), .ref dF, .ref dP, .ref dE, .ref dX, .ref dY, .int (nI x), .int (nI cg), .ref dG])) := by rw [ef32, va_up_self]
                refine lv_iload hx hb dX5_goesOn_181 (lv_at hl9 0 rfl) ?_
                refine lv_iload_n hx hb dX5_goesOn_183 rfl (lv_at hl9 1 rfl) ?_
                refine lv_icmp_ge (tgt := 191) hx hb dX5_goesOn_184 (by decide) (fun _ => ?_) (fun c9 => absurd c31 c9)
                refine lv_iconst (v := 0) hx hb dX5_goesOn_191 (by decide) ?_
                have n35 : dG ≠ mo := hne k_dG k_mo (Nat.ne_of_beq_eq_false rfl)
                have h34 : f32 dG = some (.inl (cI G, 60, .inl (nf gv))) := by rw [ef32, va_up_ne _ _ n35]; exact k_dG
                exact hp_zret (v := 0) B0 hw hS hr ⟨Nat.le_of_ble_eq_true rfl, Nat.le_of_ble_eq_true rfl⟩ (rfl) dX5_goesOn_192 (⟨Or.inr ⟨rfl, (by unfold bStep; rw [if_pos hxa, if_pos ⟨c19, hqx⟩, if_neg (fun h9 => c30 (congrArg nI (eg.trans h9))), if_neg (by rw [← eg]; exact leNI c31)]), h33, h34⟩, (show hEq [mo, dG] f f32 from (by rw [ef32]; exact hEq.up List.mem_cons_self))⟩)
              · refine lv_iload hx hb dX5_goesOn_167 (lv_at hl9 0 rfl) ?_
                refine lv_iconst (v := 1) hx hb dX5_goesOn_169 (by decide) ?_
                refine lv_iadd hx hb dX5_goesOn_170 ?_
                refine hp_c (v := (nI (fGap gh (sa (pk x + 1) - sa (pk x)) (sa (pk x)) + 1))) (nI_1 _) ?_
                refine lv_goto (tgt := 178) hx hb dX5_goesOn_171 (by decide) ?_
                refine hp_put (fs1 := [.int vth, .ref dW, .ref dA, .ref dQ, .ref dM, .ref dS, .ref dL, .ref dR, .ref dT, .ref dZ, .ref dI, .ref dH, .ref dN, .ref dK, .ref dJ, .ref dU, .ref dO, .int (nI n), .int (nI a), .ref dF, .ref dP, .ref dE, .ref dX, .ref dY, .int (nI (fGap gh (sa (pk x + 1) - sa (pk x)) (sa (pk x)) + 1)), .int (nI cg), .ref dG]) (ty := .int) B0 hw hS 5 rfl in_X5 tyX5 tyX5_ok nmX5 k_mo 24 (by decide) qF_X5_142 rfl (by decide +kernel) rfl rfl (Nat.le_of_ble_eq_true rfl) rfl dX5_goesOn_178 (fun H locs f36 ef36 hw hS => ?_)
                have h37 : f36 mo = some (.inr (5, [.int vth, .ref dW, .ref dA, .ref dQ, .ref dM, .ref dS, .ref dL, .ref dR, .ref dT, .ref dZ, .ref dI, .ref dH, .ref dN, .ref dK, .ref dJ, .ref dU, .ref dO, .int (nI n), .int (nI a), .ref dF, .ref dP, .ref dE, .ref dX, .ref dY, .int (nI (fGap gh (sa (pk x + 1) - sa (pk x)) (sa (pk x)) + 1)), .int (nI cg), .ref dG])) := by rw [ef36, va_up_self]
                refine lv_iload hx hb dX5_goesOn_181 (lv_at hl9 0 rfl) ?_
                refine lv_iload_n hx hb dX5_goesOn_183 rfl (lv_at hl9 1 rfl) ?_
                refine lv_icmp_ge (tgt := 191) hx hb dX5_goesOn_184 (by decide) (fun c9 => absurd c9 c31) (fun _ => ?_)
                refine lv_iconst (v := 1) hx hb dX5_goesOn_187 (by decide) ?_
                refine lv_goto (tgt := 192) hx hb dX5_goesOn_188 (by decide) ?_
                have n39 : dG ≠ mo := hne k_dG k_mo (Nat.ne_of_beq_eq_false rfl)
                have h38 : f36 dG = some (.inl (cI G, 60, .inl (nf gv))) := by rw [ef36, va_up_ne _ _ n39]; exact k_dG
                exact hp_zret (v := 1) B0 hw hS hr ⟨Nat.le_of_ble_eq_true rfl, Nat.le_of_ble_eq_true rfl⟩ (rfl) dX5_goesOn_192 (⟨Or.inl ⟨rfl, _, _, _, (by unfold bStep; rw [if_pos hxa, if_pos ⟨c19, hqx⟩, if_neg (fun h9 => c30 (congrArg nI (eg.trans h9))), if_pos (by rw [← eg]; exact nleI c31), eg]), h37, h38⟩, (show hEq [mo, dG] f f36 from (by rw [ef36]; exact hEq.up List.mem_cons_self))⟩)
            · refine lv_aload_n hx hb dX5_goesOn_132 rfl (lv_at hl9 4 rfl) ?_
              refine hp_get B0 hw 5 rfl in_X5 k_mo 26 (by decide) qF_X5_74 rfl dX5_goesOn_133 ?_
              refine lv_aload_n hx hb dX5_goesOn_136 rfl (lv_at hl9 4 rfl) ?_
              refine hp_get B0 hw 5 rfl in_X5 k_mo 25 (by decide) qF_X5_152 rfl dX5_goesOn_137 ?_
              refine lv_iload_n hx hb dX5_goesOn_140 rfl (lv_at hl9 3 rfl) ?_
              refine hp_iast B0 hw hS k_dG (vp_in_nI (show cg < 60 by omega) (by decide)) dX5_goesOn_141 (fun H locs f40 ef40 hw hS => ?_)
              rw [show (upd (nf gv) ((nI cg) : Int32).toNatClampNeg (nI (pk x)) : Nat → Int32) = (nf (va_up gv cg (pk x))) from (by rw [nI_clamp (by omega)]; exact nf_up gv cg (pk x))] at ef40
              have h41 : f40 dG = some (.inl (cI G, 60, .inl (nf (va_up gv cg (pk x))))) := by rw [ef40, va_up_self]
              refine lv_aload_n hx hb dX5_goesOn_142 rfl (lv_at hl9 4 rfl) ?_
              refine lv_dup hx hb dX5_goesOn_143 rfl ?_
              have n43 : mo ≠ dG := hne k_mo k_dG (Nat.ne_of_beq_eq_false rfl)
              have h42 : f40 mo = some (.inr (5, [.int vth, .ref dW, .ref dA, .ref dQ, .ref dM, .ref dS, .ref dL, .ref dR, .ref dT, .ref dZ, .ref dI, .ref dH, .ref dN, .ref dK, .ref dJ, .ref dU, .ref dO, .int (nI n), .int (nI a), .ref dF, .ref dP, .ref dE, .ref dX, .ref dY, .int (nI x), .int (nI cg), .ref dG])) := by rw [ef40, va_up_ne _ _ n43]; exact k_mo
              refine hp_get B0 hw 5 rfl in_X5 h42 25 (by decide) qF_X5_152 rfl dX5_goesOn_144 ?_
              refine lv_iconst (v := 1) hx hb dX5_goesOn_147 (by decide) ?_
              refine lv_iadd hx hb dX5_goesOn_148 ?_
              refine hp_c (v := (nI (cg + 1))) (nI_1 cg) ?_
              refine hp_put (fs1 := [.int vth, .ref dW, .ref dA, .ref dQ, .ref dM, .ref dS, .ref dL, .ref dR, .ref dT, .ref dZ, .ref dI, .ref dH, .ref dN, .ref dK, .ref dJ, .ref dU, .ref dO, .int (nI n), .int (nI a), .ref dF, .ref dP, .ref dE, .ref dX, .ref dY, .int (nI x), .int (nI (cg + 1)), .ref dG]) (ty := .int) B0 hw hS 5 rfl in_X5 tyX5 tyX5_ok nmX5 h42 25 (by decide) qF_X5_152 rfl (by decide +kernel) rfl rfl (Nat.le_of_ble_eq_true rfl) rfl dX5_goesOn_149 (fun H locs f44 ef44 hw hS => ?_)
              have h45 : f44 mo = some (.inr (5, [.int vth, .ref dW, .ref dA, .ref dQ, .ref dM, .ref dS, .ref dL, .ref dR, .ref dT, .ref dZ, .ref dI, .ref dH, .ref dN, .ref dK, .ref dJ, .ref dU, .ref dO, .int (nI n), .int (nI a), .ref dF, .ref dP, .ref dE, .ref dX, .ref dY, .int (nI x), .int (nI (cg + 1)), .ref dG])) := by rw [ef44, va_up_self]
              refine lv_aload_n hx hb dX5_goesOn_152 rfl (lv_at hl9 4 rfl) ?_
              refine lv_iload hx hb dX5_goesOn_153 (lv_at hl9 0 rfl) ?_
              refine hp_put (fs1 := [.int vth, .ref dW, .ref dA, .ref dQ, .ref dM, .ref dS, .ref dL, .ref dR, .ref dT, .ref dZ, .ref dI, .ref dH, .ref dN, .ref dK, .ref dJ, .ref dU, .ref dO, .int (nI n), .int (nI a), .ref dF, .ref dP, .ref dE, .ref dX, .ref dY, .int (nI (fGap gh (sa (pk x + 1) - sa (pk x)) (sa (pk x)))), .int (nI (cg + 1)), .ref dG]) (ty := .int) B0 hw hS 5 rfl in_X5 tyX5 tyX5_ok nmX5 h45 24 (by decide) qF_X5_142 rfl (by decide +kernel) rfl rfl (Nat.le_of_ble_eq_true rfl) rfl dX5_goesOn_155 (fun H locs f46 ef46 hw hS => ?_)
              have e47 : f46 = va_up f40 mo (some (.inr (5, [.int vth, .ref dW, .ref dA, .ref dQ, .ref dM, .ref dS, .ref dL, .ref dR, .ref dT, .ref dZ, .ref dI, .ref dH, .ref dN, .ref dK, .ref dJ, .ref dU, .ref dO, .int (nI n), .int (nI a), .ref dF, .ref dP, .ref dE, .ref dX, .ref dY, .int (nI (fGap gh (sa (pk x + 1) - sa (pk x)) (sa (pk x)))), .int (nI (cg + 1)), .ref dG]))) := by rw [ef46, ef44, bx_uu]
              have h48 : f46 mo = some (.inr (5, [.int vth, .ref dW, .ref dA, .ref dQ, .ref dM, .ref dS, .ref dL, .ref dR, .ref dT, .ref dZ, .ref dI, .ref dH, .ref dN, .ref dK, .ref dJ, .ref dU, .ref dO, .int (nI n), .int (nI a), .ref dF, .ref dP, .ref dE, .ref dX, .ref dY, .int (nI (fGap gh (sa (pk x + 1) - sa (pk x)) (sa (pk x)))), .int (nI (cg + 1)), .ref dG])) := by rw [ef46, va_up_self]
              refine lv_iconst (v := 1) hx hb dX5_goesOn_158 (by decide) ?_
              have h49 : f46 dG = some (.inl (cI G, 60, .inl (nf (va_up gv cg (pk x))))) := by rw [e47, va_up_ne _ _ (Ne.symm n43)]; exact h41
              have hE9 := (nI_eq (by omega) (by omega)).mp c30
              exact hp_zret (v := 1) B0 hw hS hr ⟨Nat.le_of_ble_eq_true rfl, Nat.le_of_ble_eq_true rfl⟩ (rfl) dX5_goesOn_159 (⟨Or.inl ⟨rfl, _, _, _, (by unfold bStep; rw [if_pos hxa, if_pos ⟨c19, hqx⟩, if_pos (by rw [← eg]; exact hE9), hE9]), h48, h49⟩, ((show hEq [mo, dG] f f40 from (by rw [ef40]; exact hEq.up (List.mem_cons_of_mem _ List.mem_cons_self))).tr (show hEq [mo, dG] f40 f46 from (by rw [e47]; exact hEq.up List.mem_cons_self)))⟩)
  · refine lv_iconst (v := 0) hx hb dX5_goesOn_11 (by decide) ?_
    exact hp_zret (v := 0) B0 hw hS hr ⟨Nat.le_of_ble_eq_true rfl, Nat.le_of_ble_eq_true rfl⟩ (rfl) dX5_goesOn_12 (⟨Or.inr ⟨rfl, (by unfold bStep; rw [if_neg (fun h9 => c1 (nI_lt h9 (by omega)))]), k_mo, k_dG⟩, hEq.rf⟩)

set_option maxHeartbeats 4000000 in
set_option maxRecDepth 100000 in
theorem c_W5_asksLine {l : Launch} (hl : l.stackTraces = false) (G : hG) (f : hM) (mo dW dA dQ dM dS dL dR dT dZ dI dH dN dK dJ dU dO dF dP dE dX dY dG : Nat) (vth : Int32) (n a cg x : Nat) (sa pk fl gv : Nat → Nat) (gh gl : Nat → Int32) (k_mo : f mo = some (.inr (5, [.int vth, .ref dW, .ref dA, .ref dQ, .ref dM, .ref dS, .ref dL, .ref dR, .ref dT, .ref dZ, .ref dI, .ref dH, .ref dN, .ref dK, .ref dJ, .ref dU, .ref dO, .int (nI n), .int (nI a), .ref dF, .ref dP, .ref dE, .ref dX, .ref dY, .int (nI x), .int (nI cg), .ref dG]))) (k_dF : f dF = some (.inl (cI G, 61, .inl (nf sa)))) (k_dP : f dP = some (.inl (cI G, 240, .inl (nf pk)))) (k_dE : f dE = some (.inl (cZ G, 240, .inl gh))) (k_dX : f dX = some (.inl (cI G, 3, .inl (nf fl)))) (k_dY : f dY = some (.inl (cI G, 3, .inl gl))) (k_dG : f dG = some (.inl (cI G, 60, .inl (nf gv)))) (hB9 : BOK n a cg x sa pk) (hND : ND5 dW dA dQ dM dS dL dR dT dZ dI dH dN dK dJ dU dO dF dP dE dX dY dG) (hfl : ∀ k, k < 3 → fl k < 243) (xv : Int32) : CT l yX5_asksLine (.code yX5_asksLine cX5_asksLine 2 (some .boolean)) 1 22 0 0 G [.ref mo, .int xv] f (fun v f1 => f1 mo = some (.inr (5, [.int (spc (sL xv) (fl xv.toNatClampNeg < a)), .ref dW, .ref dA, .ref dQ, .ref dM, .ref dS, .ref dL, .ref dR, .ref dT, .ref dZ, .ref dI, .ref dH, .ref dN, .ref dK, .ref dJ, .ref dU, .ref dO, .int (nI n), .int (nI a), .ref dF, .ref dP, .ref dE, .ref dX, .ref dY, .int (nI x), .int (nI cg), .ref dG])) ∧ ((v = some (.int 1) ∧ sL xv ∧ fl xv.toNatClampNeg < a ∧ spc (sL xv) (fl xv.toNatClampNeg < a) = 0) ∨ (v = some (.int 0) ∧ ¬ spc (sL xv) (fl xv.toNatClampNeg < a) = 0)) ∧ hEq [mo] f f1) (fun E f1 => False) := by
  refine hp_start hl (own := RX5) (by decide) rfl (Nat.le_of_ble_eq_true rfl) ?_
  intro p e s m args below meth c B0 hr hnm hout hw hS ls hl9
  have hx := B0.1
  have hb := B0.2.1
  have hl9 : lv_has ls 2 [(0, .ref mo), (1, .int xv)] := hl9
  obtain ⟨nd_dW_dA, nd_dW_dQ, nd_dA_dQ, nd_dM_dS, nd_dM_dL, nd_dM_dR, nd_dM_dT, nd_dM_dZ, nd_dM_dI, nd_dM_dH, nd_dM_dN, nd_dS_dL, nd_dS_dR, nd_dS_dT, nd_dS_dZ, nd_dS_dI, nd_dS_dH, nd_dS_dN, nd_dL_dR, nd_dL_dT, nd_dL_dZ, nd_dL_dI, nd_dL_dH, nd_dL_dN, nd_dR_dT, nd_dR_dZ, nd_dR_dI, nd_dR_dH, nd_dR_dN, nd_dT_dZ, nd_dT_dI, nd_dT_dH, nd_dT_dN, nd_dZ_dI, nd_dZ_dH, nd_dZ_dN, nd_dI_dH, nd_dI_dN, nd_dH_dN, nd_dK_dJ, nd_dK_dU, nd_dK_dO, nd_dJ_dU, nd_dJ_dO, nd_dU_dO, nd_dP_dE, nd_dX_dY⟩ := id hND
  have hq3 := hB9.a240
  refine lv_aload_n hx hb dX5_asksLine_0 rfl (lv_at hl9 0 rfl) ?_
  refine lv_iload_n hx hb dX5_asksLine_1 rfl (lv_at hl9 1 rfl) ?_
  refine lv_iconst (v := 0) hx hb dX5_asksLine_2 (by decide) ?_
  refine lv_iconst (v := 2) hx hb dX5_asksLine_3 (by decide) ?_
  refine hp_S (As := [.int xv, .int 0, .int 2]) (rest := [.ref mo]) B0 hw hS (c_X5_in hl G f xv 0 2) mS_X5_in qM_X5_81 rfl rfl hl9.1 (Nat.le_of_ble_eq_true rfl) ⟨⟨Nat.le_of_ble_eq_true rfl, Nat.le_of_ble_eq_true rfl⟩, Nat.le_of_ble_eq_true rfl, Nat.le_of_ble_eq_true rfl⟩ dX5_asksLine_4 (fun E ce q9 f1 H locs hPX hw hS hce hcv hcl => ?_) (fun v f1 H locs hP hw hS => ?_)
  · exact hPX.elim
  · obtain ⟨ef9, hv9⟩ := hP
    rw [ef9] at hw
    rcases hv9 with ⟨b2, ev9⟩ | ⟨b2, ev9⟩
    · subst ev9
      refine W.eq (g2 := F0 m 7 ls [.int 1, .ref mo]) rfl ?_
      refine lv_if_ne (tgt := 14) hx hb dX5_asksLine_7 (by decide) (fun _ => ?_) (fun c9 => absurd c9 (by decide))
      have hsl : sL xv := (by have h1 := b2; simp only [jlt, jle, tq0, tq1, tq2, tq3, tq4, tq5, tq6, tq9, tq50, tq60, tq1023, tqm1] at h1; exact ⟨by omega, by omega⟩)
      have hop := vin3 hsl
      have hf9 := hfl _ (cn_lt hop)
      refine lv_aload_n hx hb dX5_asksLine_14 rfl (lv_at hl9 0 rfl) ?_
      refine hp_get B0 hw 5 rfl in_X5 k_mo 22 (by decide) qF_X5_68 rfl dX5_asksLine_15 ?_
      refine lv_iload_n hx hb dX5_asksLine_18 rfl (lv_at hl9 1 rfl) ?_
      refine hp_iald B0 hw k_dX hop dX5_asksLine_19 ?_
      refine hp_c (v := (nI (fl xv.toNatClampNeg))) (rfl) ?_
      refine lv_aload_n hx hb dX5_asksLine_20 rfl (lv_at hl9 0 rfl) ?_
      refine hp_get B0 hw 5 rfl in_X5 k_mo 18 (by decide) qF_X5_139 rfl dX5_asksLine_21 ?_
      refine lv_icmp_lt (tgt := 31) hx hb dX5_asksLine_24 (by decide) (fun c3 => ?_) (fun c3 => ?_)
      · refine lv_iconst (v := 0) hx hb dX5_asksLine_31 (by decide) ?_
        refine hp_put (fs1 := [.int 0, .ref dW, .ref dA, .ref dQ, .ref dM, .ref dS, .ref dL, .ref dR, .ref dT, .ref dZ, .ref dI, .ref dH, .ref dN, .ref dK, .ref dJ, .ref dU, .ref dO, .int (nI n), .int (nI a), .ref dF, .ref dP, .ref dE, .ref dX, .ref dY, .int (nI x), .int (nI cg), .ref dG]) (ty := .int) B0 hw hS 5 rfl in_X5 tyX5 tyX5_ok nmX5 k_mo 0 (by decide) qF_X5_77 rfl (by decide +kernel) rfl rfl (Nat.le_of_ble_eq_true rfl) rfl dX5_asksLine_32 (fun H locs f4 ef4 hw hS => ?_)
        have h5 : f4 mo = some (.inr (5, [.int 0, .ref dW, .ref dA, .ref dQ, .ref dM, .ref dS, .ref dL, .ref dR, .ref dT, .ref dZ, .ref dI, .ref dH, .ref dN, .ref dK, .ref dJ, .ref dU, .ref dO, .int (nI n), .int (nI a), .ref dF, .ref dP, .ref dE, .ref dX, .ref dY, .int (nI x), .int (nI cg), .ref dG])) := by rw [ef4, va_up_self]
        refine lv_aload_n hx hb dX5_asksLine_35 rfl (lv_at hl9 0 rfl) ?_
        refine hp_get B0 hw 5 rfl in_X5 h5 0 (by decide) qF_X5_77 rfl dX5_asksLine_36 ?_
        refine lv_if_ne (tgt := 46) hx hb dX5_asksLine_39 (by decide) (fun c9 => absurd (by decide) c9) (fun _ => ?_)
        refine lv_iconst (v := 1) hx hb dX5_asksLine_42 (by decide) ?_
        refine lv_goto (tgt := 47) hx hb dX5_asksLine_43 (by decide) ?_
        have hs9 : spc (sL xv) (fl xv.toNatClampNeg < a) = 0 := (spc_0 hsl (Nat.lt_of_not_le (fun h9 => nI_nlt h9 (by omega) c3)))
        exact hp_zret (v := 1) B0 hw hS hr ⟨Nat.le_of_ble_eq_true rfl, Nat.le_of_ble_eq_true rfl⟩ (rfl) dX5_asksLine_47 (⟨(by rw [hs9]; exact h5), Or.inl ⟨rfl, hsl, (Nat.lt_of_not_le (fun h9 => nI_nlt h9 (by omega) c3)), hs9⟩, (show hEq [mo] f f4 from (by rw [ef4]; exact hEq.up List.mem_cons_self))⟩)
      · refine lv_iconst (v := 2) hx hb dX5_asksLine_27 (by decide) ?_
        refine lv_goto (tgt := 32) hx hb dX5_asksLine_28 (by decide) ?_
        refine hp_put (fs1 := [.int 2, .ref dW, .ref dA, .ref dQ, .ref dM, .ref dS, .ref dL, .ref dR, .ref dT, .ref dZ, .ref dI, .ref dH, .ref dN, .ref dK, .ref dJ, .ref dU, .ref dO, .int (nI n), .int (nI a), .ref dF, .ref dP, .ref dE, .ref dX, .ref dY, .int (nI x), .int (nI cg), .ref dG]) (ty := .int) B0 hw hS 5 rfl in_X5 tyX5 tyX5_ok nmX5 k_mo 0 (by decide) qF_X5_77 rfl (by decide +kernel) rfl rfl (Nat.le_of_ble_eq_true rfl) rfl dX5_asksLine_32 (fun H locs f6 ef6 hw hS => ?_)
        have h7 : f6 mo = some (.inr (5, [.int 2, .ref dW, .ref dA, .ref dQ, .ref dM, .ref dS, .ref dL, .ref dR, .ref dT, .ref dZ, .ref dI, .ref dH, .ref dN, .ref dK, .ref dJ, .ref dU, .ref dO, .int (nI n), .int (nI a), .ref dF, .ref dP, .ref dE, .ref dX, .ref dY, .int (nI x), .int (nI cg), .ref dG])) := by rw [ef6, va_up_self]
        refine lv_aload_n hx hb dX5_asksLine_35 rfl (lv_at hl9 0 rfl) ?_
        refine hp_get B0 hw 5 rfl in_X5 h7 0 (by decide) qF_X5_77 rfl dX5_asksLine_36 ?_
        refine lv_if_ne (tgt := 46) hx hb dX5_asksLine_39 (by decide) (fun _ => ?_) (fun c9 => absurd c9 (by decide))
        refine lv_iconst (v := 0) hx hb dX5_asksLine_46 (by decide) ?_
        have hs9 : spc (sL xv) (fl xv.toNatClampNeg < a) = 2 := (spc_2 hsl (fun h9 => c3 (nI_lt h9 (by omega))))
        exact hp_zret (v := 0) B0 hw hS hr ⟨Nat.le_of_ble_eq_true rfl, Nat.le_of_ble_eq_true rfl⟩ (rfl) dX5_asksLine_47 (⟨(by rw [hs9]; exact h7), Or.inr ⟨rfl, by rw [hs9]; decide⟩, (show hEq [mo] f f6 from (by rw [ef6]; exact hEq.up List.mem_cons_self))⟩)
    · subst ev9
      refine W.eq (g2 := F0 m 7 ls [.int 0, .ref mo]) rfl ?_
      refine lv_if_ne (tgt := 14) hx hb dX5_asksLine_7 (by decide) (fun c9 => absurd (by decide) c9) (fun _ => ?_)
      refine lv_iconst (v := 1) hx hb dX5_asksLine_10 (by decide) ?_
      refine lv_goto (tgt := 32) hx hb dX5_asksLine_11 (by decide) ?_
      refine hp_put (fs1 := [.int 1, .ref dW, .ref dA, .ref dQ, .ref dM, .ref dS, .ref dL, .ref dR, .ref dT, .ref dZ, .ref dI, .ref dH, .ref dN, .ref dK, .ref dJ, .ref dU, .ref dO, .int (nI n), .int (nI a), .ref dF, .ref dP, .ref dE, .ref dX, .ref dY, .int (nI x), .int (nI cg), .ref dG]) (ty := .int) B0 hw hS 5 rfl in_X5 tyX5 tyX5_ok nmX5 k_mo 0 (by decide) qF_X5_77 rfl (by decide +kernel) rfl rfl (Nat.le_of_ble_eq_true rfl) rfl dX5_asksLine_32 (fun H locs f8 ef8 hw hS => ?_)
      have h9 : f8 mo = some (.inr (5, [.int 1, .ref dW, .ref dA, .ref dQ, .ref dM, .ref dS, .ref dL, .ref dR, .ref dT, .ref dZ, .ref dI, .ref dH, .ref dN, .ref dK, .ref dJ, .ref dU, .ref dO, .int (nI n), .int (nI a), .ref dF, .ref dP, .ref dE, .ref dX, .ref dY, .int (nI x), .int (nI cg), .ref dG])) := by rw [ef8, va_up_self]
      refine lv_aload_n hx hb dX5_asksLine_35 rfl (lv_at hl9 0 rfl) ?_
      refine hp_get B0 hw 5 rfl in_X5 h9 0 (by decide) qF_X5_77 rfl dX5_asksLine_36 ?_
      refine lv_if_ne (tgt := 46) hx hb dX5_asksLine_39 (by decide) (fun _ => ?_) (fun c9 => absurd c9 (by decide))
      refine lv_iconst (v := 0) hx hb dX5_asksLine_46 (by decide) ?_
      have hs9 : spc (sL xv) (fl xv.toNatClampNeg < a) = 1 := (spc_1 (fun h9 => b2 (by simp only [jlt, jle, tq0, tq1, tq2, tq3, tq4, tq5, tq6, tq9, tq50, tq60, tq1023, tqm1]; exact ⟨by omega, by omega⟩)))
      exact hp_zret (v := 0) B0 hw hS hr ⟨Nat.le_of_ble_eq_true rfl, Nat.le_of_ble_eq_true rfl⟩ (rfl) dX5_asksLine_47 (⟨(by rw [hs9]; exact h9), Or.inr ⟨rfl, by rw [hs9]; decide⟩, (show hEq [mo] f f8 from (by rw [ef8]; exact hEq.up List.mem_cons_self))⟩)

set_option maxHeartbeats 4000000 in
set_option maxRecDepth 100000 in
theorem c_W5_come {l : Launch} (hl : l.stackTraces = false) (G : hG) (f : hM) (mo dW dA dQ dM dS dL dR dT dZ dI dH dN dK dJ dU dO dF dP dE dX dY dG : Nat) (th : Int32) (B : Nat) (gw0 : Nat → Int32) (ga0 : Nat → Int32) (gw1 : Nat → Int32) (ga1 : Nat → Int32) (mg0 : Int32) (mg1 : Int32) (n : Nat) (a : Nat) (cg : Nat) (x : Nat) (sa : Nat → Nat) (pk : Nat → Nat) (fl : Nat → Nat) (gv : Nat → Nat) (gh : Nat → Int32) (gl : Nat → Int32) (hC : MW G f mo dW dA dQ dM dS dL dR dT dZ dI dH dN dK dJ dU dO dF dP dE dX dY dG th B gw0 ga0 gw1 ga1 mg0 mg1 n a cg x sa pk fl gv gh gl) (hBB : B + 100 < 100000) (xv : Int32) : CT l yX5_come (.code yX5_come cX5_come 4 (some .int)) 2 46 0 0 G [.ref mo, .int xv] f (fun v f1 => ((spc (sL xv) (fl xv.toNatClampNeg < a) = 0 ∧ v = some (.int (nI (bRun a sa pk (upd gh (fl xv.toNatClampNeg) 1) (bnd (upd gl xv.toNatClampNeg (nI (fl xv.toNatClampNeg)))) 240 cg x gv).1 - nI cg)) ∧ MW G f1 mo dW dA dQ dM dS dL dR dT dZ dI dH dN dK dJ dU dO dF dP dE dX dY dG 0 B gw0 ga0 gw1 ga1 mg0 mg1 n a ((bRun a sa pk (upd gh (fl xv.toNatClampNeg) 1) (bnd (upd gl xv.toNatClampNeg (nI (fl xv.toNatClampNeg)))) 240 cg x gv).1) ((bRun a sa pk (upd gh (fl xv.toNatClampNeg) 1) (bnd (upd gl xv.toNatClampNeg (nI (fl xv.toNatClampNeg)))) 240 cg x gv).2.1) sa pk (va_up fl xv.toNatClampNeg (fl xv.toNatClampNeg + 3)) ((bRun a sa pk (upd gh (fl xv.toNatClampNeg) 1) (bnd (upd gl xv.toNatClampNeg (nI (fl xv.toNatClampNeg)))) 240 cg x gv).2.2) (upd gh (fl xv.toNatClampNeg) 1) (upd gl xv.toNatClampNeg (nI (fl xv.toNatClampNeg)))) ∨ (¬ spc (sL xv) (fl xv.toNatClampNeg < a) = 0 ∧ (∃ r9 : Int32, v = some (.int r9)) ∧ MW G f1 mo dW dA dQ dM dS dL dR dT dZ dI dH dN dK dJ dU dO dF dP dE dX dY dG (spc (sL xv) (fl xv.toNatClampNeg < a)) B gw0 ga0 gw1 ga1 mg0 mg1 n a cg x sa pk fl gv gh gl)) ∧ hEq [mo, dW, dA, dQ, dM, dS, dL, dR, dT, dZ, dI, dH, dN, dK, dJ, dU, dO, dF, dP, dE, dX, dY, dG] f f1) (fun E f1 => False) := by
  refine hp_start hl (own := RX5) (by decide) rfl (Nat.le_of_ble_eq_true rfl) ?_
  intro p e s m args below meth c B0 hr hnm hout hw hS ls hl9
  have hx := B0.1
  have hb := B0.2.1
  have hl9 : lv_has ls 4 [(0, .ref mo), (1, .int xv)] := hl9
  obtain ⟨k_mo, hND, hLM, k_dW, k_dA, k_dM, k_dF, k_dP, k_dE, k_dX, k_dY, k_dG, hSA, hB9, hfl9⟩ := id hC
  obtain ⟨nd_dW_dA, nd_dW_dQ, nd_dA_dQ, nd_dM_dS, nd_dM_dL, nd_dM_dR, nd_dM_dT, nd_dM_dZ, nd_dM_dI, nd_dM_dH, nd_dM_dN, nd_dS_dL, nd_dS_dR, nd_dS_dT, nd_dS_dZ, nd_dS_dI, nd_dS_dH, nd_dS_dN, nd_dL_dR, nd_dL_dT, nd_dL_dZ, nd_dL_dI, nd_dL_dH, nd_dL_dN, nd_dR_dT, nd_dR_dZ, nd_dR_dI, nd_dR_dH, nd_dR_dN, nd_dT_dZ, nd_dT_dI, nd_dT_dH, nd_dT_dN, nd_dZ_dI, nd_dZ_dH, nd_dZ_dN, nd_dI_dH, nd_dI_dN, nd_dH_dN, nd_dK_dJ, nd_dK_dU, nd_dK_dO, nd_dJ_dU, nd_dJ_dO, nd_dU_dO, nd_dP_dE, nd_dX_dY⟩ := id hND
  obtain ⟨gQ, gS, gL, gR, gT, gZ, gI, gH, gN, gK, gJ, gU, gO, k_dQ, k_dS, k_dL, k_dR, k_dT, k_dZ, k_dI, k_dH, k_dN, k_dK, k_dJ, k_dU, k_dO, hHd9, hMn9⟩ := id hLM
  have hq3 := hB9.a240
  refine lv_aload_n hx hb dX5_come_0 rfl (lv_at hl9 0 rfl) ?_
  refine lv_iload_n hx hb dX5_come_1 rfl (lv_at hl9 1 rfl) ?_
  refine hp_V (ci := 5) (As := [.int xv]) (rest := []) B0 hw hS (c_W5_asksLine hl G f mo dW dA dQ dM dS dL dR dT dZ dI dH dN dK dJ dU dO dF dP dE dX dY dG th n a cg x sa pk fl gv gh gl k_mo k_dF k_dP k_dE k_dX k_dY k_dG hB9 hND hfl9 xv) mV_X5_asksLine qM_X5_155 rfl k_mo rfl rfl hl9.1 (Nat.le_of_ble_eq_true rfl) ⟨⟨Nat.le_of_ble_eq_true rfl, Nat.le_of_ble_eq_true rfl⟩, Nat.le_of_ble_eq_true rfl, Nat.le_of_ble_eq_true rfl⟩ dX5_come_2 (fun E ce q9 f1 H locs hPX hw hS hce hcv hcl => ?_) (fun v f1 H locs hP hw hS => ?_)
  · exact hPX.elim
  · obtain ⟨hm9, hv9, kk9⟩ := hP
    rcases hv9 with ⟨ev9, hsl, hpl, hz9⟩ | ⟨ev9, hz9⟩
    · subst ev9
      rw [hz9] at hm9
      have hop := vin3 hsl
      refine W.eq (g2 := F0 m 5 ls [.int 1]) rfl ?_
      refine lv_if_ne (tgt := 10) hx hb dX5_come_5 (by decide) (fun _ => ?_) (fun c9 => absurd c9 (by decide))
      refine lv_aload_n hx hb dX5_come_10 rfl (lv_at hl9 0 rfl) ?_
      refine hp_get B0 hw 5 rfl in_X5 hm9 25 (by decide) qF_X5_152 rfl dX5_come_11 ?_
      refine lv_istore_n (lv' := [(2, .int (nI cg)), (0, .ref mo), (1, .int xv)]) hx hb dX5_come_14 rfl hl9 (by decide) rfl (fun ls hl9 => ?_)
      refine lv_aload_n hx hb dX5_come_15 rfl (lv_at hl9 1 rfl) ?_
      refine hp_get B0 hw 5 rfl in_X5 hm9 21 (by decide) qF_X5_65 rfl dX5_come_16 ?_
      refine lv_aload_n hx hb dX5_come_19 rfl (lv_at hl9 1 rfl) ?_
      refine hp_get B0 hw 5 rfl in_X5 hm9 22 (by decide) qF_X5_68 rfl dX5_come_20 ?_
      refine lv_iload_n hx hb dX5_come_23 rfl (lv_at hl9 2 rfl) ?_
      have n3 : dX ≠ mo := hne k_dX k_mo (Nat.ne_of_beq_eq_false rfl)
      have h2 : f1 dX = some (.inl (cI G, 3, .inl (nf fl))) := (hEq.k kk9) _ _ k_dX (ninc n3 nin0)
      refine hp_iald B0 hw h2 hop dX5_come_24 ?_
      refine hp_c (v := (nI (fl xv.toNatClampNeg))) (rfl) ?_
      refine lv_iconst (v := 1) hx hb dX5_come_25 (by decide) ?_
      have n5 : dE ≠ mo := hne k_dE k_mo (Nat.ne_of_beq_eq_false rfl)
      have h4 : f1 dE = some (.inl (cZ G, 240, .inl gh)) := (hEq.k kk9) _ _ k_dE (ninc n5 nin0)
      refine hp_zast B0 hw hS h4 (vp_in_nI (show fl xv.toNatClampNeg < 240 by omega) (by decide)) dX5_come_26 (fun H locs f6 ef6 hw hS => ?_)
      rw [show (upd gh ((nI (fl xv.toNatClampNeg)) : Int32).toNatClampNeg (vp_nar .boolean 1) : Nat → Int32) = (upd gh (fl xv.toNatClampNeg) 1) from (by rw [nI_clamp (by omega)]; rfl)] at ef6
      have h7 : f6 dE = some (.inl (cZ G, 240, .inl (upd gh (fl xv.toNatClampNeg) 1))) := by rw [ef6, va_up_self]
      refine lv_aload_n hx hb dX5_come_27 rfl (lv_at hl9 1 rfl) ?_
      have h8 : f6 mo = some (.inr (5, [.int 0, .ref dW, .ref dA, .ref dQ, .ref dM, .ref dS, .ref dL, .ref dR, .ref dT, .ref dZ, .ref dI, .ref dH, .ref dN, .ref dK, .ref dJ, .ref dU, .ref dO, .int (nI n), .int (nI a), .ref dF, .ref dP, .ref dE, .ref dX, .ref dY, .int (nI x), .int (nI cg), .ref dG])) := by rw [ef6, va_up_ne _ _ (Ne.symm n5)]; exact hm9
      refine hp_get B0 hw 5 rfl in_X5 h8 23 (by decide) qF_X5_71 rfl dX5_come_28 ?_
      refine lv_iload_n hx hb dX5_come_31 rfl (lv_at hl9 2 rfl) ?_
      refine lv_aload_n hx hb dX5_come_32 rfl (lv_at hl9 1 rfl) ?_
      refine hp_get B0 hw 5 rfl in_X5 h8 22 (by decide) qF_X5_68 rfl dX5_come_33 ?_
      refine lv_iload_n hx hb dX5_come_36 rfl (lv_at hl9 2 rfl) ?_
      have n10 : dX ≠ dE := hneL k_dX k_dE (Nat.ne_of_beq_eq_false rfl)
      have h9 : f6 dX = some (.inl (cI G, 3, .inl (nf fl))) := by rw [ef6, va_up_ne _ _ n10]; exact h2
      refine hp_iald B0 hw h9 hop dX5_come_37 ?_
      refine hp_c (v := (nI (fl xv.toNatClampNeg))) (rfl) ?_
      have n12 : dY ≠ mo := hne k_dY k_mo (Nat.ne_of_beq_eq_false rfl)
      have h11 : f1 dY = some (.inl (cI G, 3, .inl gl)) := (hEq.k kk9) _ _ k_dY (ninc n12 nin0)
      have n14 : dY ≠ dE := hneL k_dY k_dE (Nat.ne_of_beq_eq_false rfl)
      have h13 : f6 dY = some (.inl (cI G, 3, .inl gl)) := by rw [ef6, va_up_ne _ _ n14]; exact h11
      refine hp_iast B0 hw hS h13 hop dX5_come_38 (fun H locs f15 ef15 hw hS => ?_)
      rw [show (upd gl (xv : Int32).toNatClampNeg (nI (fl xv.toNatClampNeg)) : Nat → Int32) = (upd gl xv.toNatClampNeg (nI (fl xv.toNatClampNeg))) from rfl] at ef15
      have h16 : f15 dY = some (.inl (cI G, 3, .inl (upd gl xv.toNatClampNeg (nI (fl xv.toNatClampNeg))))) := by rw [ef15, va_up_self]
      refine lv_aload_n hx hb dX5_come_39 rfl (lv_at hl9 1 rfl) ?_
      have h17 : f15 mo = some (.inr (5, [.int 0, .ref dW, .ref dA, .ref dQ, .ref dM, .ref dS, .ref dL, .ref dR, .ref dT, .ref dZ, .ref dI, .ref dH, .ref dN, .ref dK, .ref dJ, .ref dU, .ref dO, .int (nI n), .int (nI a), .ref dF, .ref dP, .ref dE, .ref dX, .ref dY, .int (nI x), .int (nI cg), .ref dG])) := by rw [ef15, va_up_ne _ _ (Ne.symm n12)]; exact h8
      refine hp_get B0 hw 5 rfl in_X5 h17 22 (by decide) qF_X5_68 rfl dX5_come_40 ?_
      refine lv_iload_n hx hb dX5_come_43 rfl (lv_at hl9 2 rfl) ?_
      refine lv_dup2_11 hx hb dX5_come_44 rfl rfl ?_
      have h18 : f15 dX = some (.inl (cI G, 3, .inl (nf fl))) := by rw [ef15, va_up_ne _ _ nd_dX_dY]; exact h9
      refine hp_iald B0 hw h18 hop dX5_come_45 ?_
      refine hp_c (v := (nI (fl xv.toNatClampNeg))) (rfl) ?_
      refine lv_iconst (v := 3) hx hb dX5_come_46 (by decide) ?_
      refine lv_iadd hx hb dX5_come_47 ?_
      refine hp_c (v := (nI (fl xv.toNatClampNeg + 3))) (nI_add _ 3) ?_
      refine hp_iast B0 hw hS h18 hop dX5_come_48 (fun H locs f19 ef19 hw hS => ?_)
      rw [show (upd (nf fl) (xv : Int32).toNatClampNeg (nI (fl xv.toNatClampNeg + 3)) : Nat → Int32) = (nf (va_up fl xv.toNatClampNeg (fl xv.toNatClampNeg + 3))) from nf_up _ _ _] at ef19
      have h20 : f19 dX = some (.inl (cI G, 3, .inl (nf (va_up fl xv.toNatClampNeg (fl xv.toNatClampNeg + 3))))) := by rw [ef19, va_up_self]
      refine lv_iconst (v := 1) hx hb dX5_come_49 (by decide) ?_
      refine lv_istore_n (lv' := [(3, .int 1), (2, .int (nI cg)), (0, .ref mo), (1, .int xv)]) hx hb dX5_come_50 rfl hl9 (by decide) rfl (fun ls hl9 => ?_)
      have h21 : f19 mo = some (.inr (5, [.int 0, .ref dW, .ref dA, .ref dQ, .ref dM, .ref dS, .ref dL, .ref dR, .ref dT, .ref dZ, .ref dI, .ref dH, .ref dN, .ref dK, .ref dJ, .ref dU, .ref dO, .int (nI n), .int (nI a), .ref dF, .ref dP, .ref dE, .ref dX, .ref dY, .int (nI x), .int (nI cg), .ref dG])) := by rw [ef19, va_up_ne _ _ (Ne.symm n3)]; exact h17
      have n23 : dW ≠ mo := hne k_dW k_mo (Nat.ne_of_beq_eq_false rfl)
      have h22 : f1 dW = some (.inl (cI G, 12, .inl (jn gw0 gw1))) := (hEq.k kk9) _ _ k_dW (ninc n23 nin0)
      have n25 : dW ≠ dE := hneL k_dW k_dE (Nat.ne_of_beq_eq_false rfl)
      have h24 : f6 dW = some (.inl (cI G, 12, .inl (jn gw0 gw1))) := by rw [ef6, va_up_ne _ _ n25]; exact h22
      have n27 : dW ≠ dY := hneL k_dW k_dY (Nat.ne_of_beq_eq_false rfl)
      have h26 : f15 dW = some (.inl (cI G, 12, .inl (jn gw0 gw1))) := by rw [ef15, va_up_ne _ _ n27]; exact h24
      have n29 : dW ≠ dX := hneL k_dW k_dX (Nat.ne_of_beq_eq_false rfl)
      have h28 : f19 dW = some (.inl (cI G, 12, .inl (jn gw0 gw1))) := by rw [ef19, va_up_ne _ _ n29]; exact h26
      have n31 : dA ≠ mo := hne k_dA k_mo (Nat.ne_of_beq_eq_false rfl)
      have h30 : f1 dA = some (.inl (cI G, 12, .inl (jn ga0 ga1))) := (hEq.k kk9) _ _ k_dA (ninc n31 nin0)
      have n33 : dA ≠ dE := hneL k_dA k_dE (Nat.ne_of_beq_eq_false rfl)
      have h32 : f6 dA = some (.inl (cI G, 12, .inl (jn ga0 ga1))) := by rw [ef6, va_up_ne _ _ n33]; exact h30
      have n35 : dA ≠ dY := hneL k_dA k_dY (Nat.ne_of_beq_eq_false rfl)
      have h34 : f15 dA = some (.inl (cI G, 12, .inl (jn ga0 ga1))) := by rw [ef15, va_up_ne _ _ n35]; exact h32
      have n37 : dA ≠ dX := hneL k_dA k_dX (Nat.ne_of_beq_eq_false rfl)
      have h36 : f19 dA = some (.inl (cI G, 12, .inl (jn ga0 ga1))) := by rw [ef19, va_up_ne _ _ n37]; exact h34
      have n39 : dM ≠ mo := hne k_dM k_mo (Nat.ne_of_beq_eq_false rfl)
      have h38 : f1 dM = some (.inl (cI G, 2, .inl (mA2 mg0 mg1))) := (hEq.k kk9) _ _ k_dM (ninc n39 nin0)
      have n41 : dM ≠ dE := hneL k_dM k_dE (Nat.ne_of_beq_eq_false rfl)
      have h40 : f6 dM = some (.inl (cI G, 2, .inl (mA2 mg0 mg1))) := by rw [ef6, va_up_ne _ _ n41]; exact h38
      have n43 : dM ≠ dY := hneL k_dM k_dY (Nat.ne_of_beq_eq_false rfl)
      have h42 : f15 dM = some (.inl (cI G, 2, .inl (mA2 mg0 mg1))) := by rw [ef15, va_up_ne _ _ n43]; exact h40
      have n45 : dM ≠ dX := hneL k_dM k_dX (Nat.ne_of_beq_eq_false rfl)
      have h44 : f19 dM = some (.inl (cI G, 2, .inl (mA2 mg0 mg1))) := by rw [ef19, va_up_ne _ _ n45]; exact h42
      have n47 : dF ≠ mo := hne k_dF k_mo (Nat.ne_of_beq_eq_false rfl)
      have h46 : f1 dF = some (.inl (cI G, 61, .inl (nf sa))) := (hEq.k kk9) _ _ k_dF (ninc n47 nin0)
      have n49 : dF ≠ dE := hneL k_dF k_dE (Nat.ne_of_beq_eq_false rfl)
      have h48 : f6 dF = some (.inl (cI G, 61, .inl (nf sa))) := by rw [ef6, va_up_ne _ _ n49]; exact h46
      have n51 : dF ≠ dY := hneL k_dF k_dY (Nat.ne_of_beq_eq_false rfl)
      have h50 : f15 dF = some (.inl (cI G, 61, .inl (nf sa))) := by rw [ef15, va_up_ne _ _ n51]; exact h48
      have n53 : dF ≠ dX := hneL k_dF k_dX (Nat.ne_of_beq_eq_false rfl)
      have h52 : f19 dF = some (.inl (cI G, 61, .inl (nf sa))) := by rw [ef19, va_up_ne _ _ n53]; exact h50
      have n55 : dP ≠ mo := hne k_dP k_mo (Nat.ne_of_beq_eq_false rfl)
      have h54 : f1 dP = some (.inl (cI G, 240, .inl (nf pk))) := (hEq.k kk9) _ _ k_dP (ninc n55 nin0)
      have h56 : f6 dP = some (.inl (cI G, 240, .inl (nf pk))) := by rw [ef6, va_up_ne _ _ nd_dP_dE]; exact h54
      have n58 : dP ≠ dY := hneL k_dP k_dY (Nat.ne_of_beq_eq_false rfl)
      have h57 : f15 dP = some (.inl (cI G, 240, .inl (nf pk))) := by rw [ef15, va_up_ne _ _ n58]; exact h56
      have n60 : dP ≠ dX := hneL k_dP k_dX (Nat.ne_of_beq_eq_false rfl)
      have h59 : f19 dP = some (.inl (cI G, 240, .inl (nf pk))) := by rw [ef19, va_up_ne _ _ n60]; exact h57
      have h61 : f15 dE = some (.inl (cZ G, 240, .inl (upd gh (fl xv.toNatClampNeg) 1))) := by rw [ef15, va_up_ne _ _ (Ne.symm n14)]; exact h7
      have h62 : f19 dE = some (.inl (cZ G, 240, .inl (upd gh (fl xv.toNatClampNeg) 1))) := by rw [ef19, va_up_ne _ _ (Ne.symm n10)]; exact h61
      have h63 : f19 dY = some (.inl (cI G, 3, .inl (upd gl xv.toNatClampNeg (nI (fl xv.toNatClampNeg))))) := by rw [ef19, va_up_ne _ _ (Ne.symm nd_dX_dY)]; exact h16
      have n65 : dG ≠ mo := hne k_dG k_mo (Nat.ne_of_beq_eq_false rfl)
      have h64 : f1 dG = some (.inl (cI G, 60, .inl (nf gv))) := (hEq.k kk9) _ _ k_dG (ninc n65 nin0)
      have n67 : dG ≠ dE := hneL k_dG k_dE (Nat.ne_of_beq_eq_false rfl)
      have h66 : f6 dG = some (.inl (cI G, 60, .inl (nf gv))) := by rw [ef6, va_up_ne _ _ n67]; exact h64
      have n69 : dG ≠ dY := hneL k_dG k_dY (Nat.ne_of_beq_eq_false rfl)
      have h68 : f15 dG = some (.inl (cI G, 60, .inl (nf gv))) := by rw [ef15, va_up_ne _ _ n69]; exact h66
      have n71 : dG ≠ dX := hneL k_dG k_dX (Nat.ne_of_beq_eq_false rfl)
      have h70 : f19 dG = some (.inl (cI G, 60, .inl (nf gv))) := by rw [ef19, va_up_ne _ _ n71]; exact h68
      have n73 : dQ ≠ mo := hne k_dQ k_mo (Nat.ne_of_beq_eq_false rfl)
      have h72 : f1 dQ = some (.inl (cI G, 12, .inl gQ)) := (hEq.k kk9) _ _ k_dQ (ninc n73 nin0)
      have n75 : dQ ≠ dE := hneL k_dQ k_dE (Nat.ne_of_beq_eq_false rfl)
      have h74 : f6 dQ = some (.inl (cI G, 12, .inl gQ)) := by rw [ef6, va_up_ne _ _ n75]; exact h72
      have n77 : dQ ≠ dY := hneL k_dQ k_dY (Nat.ne_of_beq_eq_false rfl)
      have h76 : f15 dQ = some (.inl (cI G, 12, .inl gQ)) := by rw [ef15, va_up_ne _ _ n77]; exact h74
      have n79 : dQ ≠ dX := hneL k_dQ k_dX (Nat.ne_of_beq_eq_false rfl)
      have h78 : f19 dQ = some (.inl (cI G, 12, .inl gQ)) := by rw [ef19, va_up_ne _ _ n79]; exact h76
      have n81 : dS ≠ mo := hne k_dS k_mo (Nat.ne_of_beq_eq_false rfl)
      have h80 : f1 dS = some (.inl (cI G, 2, .inl gS)) := (hEq.k kk9) _ _ k_dS (ninc n81 nin0)
      have n83 : dS ≠ dE := hneL k_dS k_dE (Nat.ne_of_beq_eq_false rfl)
      have h82 : f6 dS = some (.inl (cI G, 2, .inl gS)) := by rw [ef6, va_up_ne _ _ n83]; exact h80
      have n85 : dS ≠ dY := hneL k_dS k_dY (Nat.ne_of_beq_eq_false rfl)
      have h84 : f15 dS = some (.inl (cI G, 2, .inl gS)) := by rw [ef15, va_up_ne _ _ n85]; exact h82
      have n87 : dS ≠ dX := hneL k_dS k_dX (Nat.ne_of_beq_eq_false rfl)
      have h86 : f19 dS = some (.inl (cI G, 2, .inl gS)) := by rw [ef19, va_up_ne _ _ n87]; exact h84
      have n89 : dL ≠ mo := hne k_dL k_mo (Nat.ne_of_beq_eq_false rfl)
      have h88 : f1 dL = some (.inl (cI G, 2, .inl gL)) := (hEq.k kk9) _ _ k_dL (ninc n89 nin0)
      have n91 : dL ≠ dE := hneL k_dL k_dE (Nat.ne_of_beq_eq_false rfl)
      have h90 : f6 dL = some (.inl (cI G, 2, .inl gL)) := by rw [ef6, va_up_ne _ _ n91]; exact h88
      have n93 : dL ≠ dY := hneL k_dL k_dY (Nat.ne_of_beq_eq_false rfl)
      have h92 : f15 dL = some (.inl (cI G, 2, .inl gL)) := by rw [ef15, va_up_ne _ _ n93]; exact h90
      have n95 : dL ≠ dX := hneL k_dL k_dX (Nat.ne_of_beq_eq_false rfl)
      have h94 : f19 dL = some (.inl (cI G, 2, .inl gL)) := by rw [ef19, va_up_ne _ _ n95]; exact h92
      have n97 : dR ≠ mo := hne k_dR k_mo (Nat.ne_of_beq_eq_false rfl)
      have h96 : f1 dR = some (.inl (cI G, 2, .inl gR)) := (hEq.k kk9) _ _ k_dR (ninc n97 nin0)
      have n99 : dR ≠ dE := hneL k_dR k_dE (Nat.ne_of_beq_eq_false rfl)
      have h98 : f6 dR = some (.inl (cI G, 2, .inl gR)) := by rw [ef6, va_up_ne _ _ n99]; exact h96
      have n101 : dR ≠ dY := hneL k_dR k_dY (Nat.ne_of_beq_eq_false rfl)
      have h100 : f15 dR = some (.inl (cI G, 2, .inl gR)) := by rw [ef15, va_up_ne _ _ n101]; exact h98
      have n103 : dR ≠ dX := hneL k_dR k_dX (Nat.ne_of_beq_eq_false rfl)
      have h102 : f19 dR = some (.inl (cI G, 2, .inl gR)) := by rw [ef19, va_up_ne _ _ n103]; exact h100
      have n105 : dT ≠ mo := hne k_dT k_mo (Nat.ne_of_beq_eq_false rfl)
      have h104 : f1 dT = some (.inl (cI G, 2, .inl gT)) := (hEq.k kk9) _ _ k_dT (ninc n105 nin0)
      have n107 : dT ≠ dE := hneL k_dT k_dE (Nat.ne_of_beq_eq_false rfl)
      have h106 : f6 dT = some (.inl (cI G, 2, .inl gT)) := by rw [ef6, va_up_ne _ _ n107]; exact h104
      have n109 : dT ≠ dY := hneL k_dT k_dY (Nat.ne_of_beq_eq_false rfl)
      have h108 : f15 dT = some (.inl (cI G, 2, .inl gT)) := by rw [ef15, va_up_ne _ _ n109]; exact h106
      have n111 : dT ≠ dX := hneL k_dT k_dX (Nat.ne_of_beq_eq_false rfl)
      have h110 : f19 dT = some (.inl (cI G, 2, .inl gT)) := by rw [ef19, va_up_ne _ _ n111]; exact h108
      have n113 : dZ ≠ mo := hne k_dZ k_mo (Nat.ne_of_beq_eq_false rfl)
      have h112 : f1 dZ = some (.inl (cZ G, 2, .inl gZ)) := (hEq.k kk9) _ _ k_dZ (ninc n113 nin0)
      have n115 : dZ ≠ dE := hneL k_dZ k_dE (Nat.ne_of_beq_eq_false rfl)
      have h114 : f6 dZ = some (.inl (cZ G, 2, .inl gZ)) := by rw [ef6, va_up_ne _ _ n115]; exact h112
      have n117 : dZ ≠ dY := hneL k_dZ k_dY (Nat.ne_of_beq_eq_false rfl)
      have h116 : f15 dZ = some (.inl (cZ G, 2, .inl gZ)) := by rw [ef15, va_up_ne _ _ n117]; exact h114
      have n119 : dZ ≠ dX := hneL k_dZ k_dX (Nat.ne_of_beq_eq_false rfl)
      have h118 : f19 dZ = some (.inl (cZ G, 2, .inl gZ)) := by rw [ef19, va_up_ne _ _ n119]; exact h116
      have n121 : dI ≠ mo := hne k_dI k_mo (Nat.ne_of_beq_eq_false rfl)
      have h120 : f1 dI = some (.inl (cI G, 2, .inl gI)) := (hEq.k kk9) _ _ k_dI (ninc n121 nin0)
      have n123 : dI ≠ dE := hneL k_dI k_dE (Nat.ne_of_beq_eq_false rfl)
      have h122 : f6 dI = some (.inl (cI G, 2, .inl gI)) := by rw [ef6, va_up_ne _ _ n123]; exact h120
      have n125 : dI ≠ dY := hneL k_dI k_dY (Nat.ne_of_beq_eq_false rfl)
      have h124 : f15 dI = some (.inl (cI G, 2, .inl gI)) := by rw [ef15, va_up_ne _ _ n125]; exact h122
      have n127 : dI ≠ dX := hneL k_dI k_dX (Nat.ne_of_beq_eq_false rfl)
      have h126 : f19 dI = some (.inl (cI G, 2, .inl gI)) := by rw [ef19, va_up_ne _ _ n127]; exact h124
      have n129 : dH ≠ mo := hne k_dH k_mo (Nat.ne_of_beq_eq_false rfl)
      have h128 : f1 dH = some (.inl (cI G, 2, .inl gH)) := (hEq.k kk9) _ _ k_dH (ninc n129 nin0)
      have n131 : dH ≠ dE := hneL k_dH k_dE (Nat.ne_of_beq_eq_false rfl)
      have h130 : f6 dH = some (.inl (cI G, 2, .inl gH)) := by rw [ef6, va_up_ne _ _ n131]; exact h128
      have n133 : dH ≠ dY := hneL k_dH k_dY (Nat.ne_of_beq_eq_false rfl)
      have h132 : f15 dH = some (.inl (cI G, 2, .inl gH)) := by rw [ef15, va_up_ne _ _ n133]; exact h130
      have n135 : dH ≠ dX := hneL k_dH k_dX (Nat.ne_of_beq_eq_false rfl)
      have h134 : f19 dH = some (.inl (cI G, 2, .inl gH)) := by rw [ef19, va_up_ne _ _ n135]; exact h132
      have n137 : dN ≠ mo := hne k_dN k_mo (Nat.ne_of_beq_eq_false rfl)
      have h136 : f1 dN = some (.inl (cI G, 2, .inl gN)) := (hEq.k kk9) _ _ k_dN (ninc n137 nin0)
      have n139 : dN ≠ dE := hneL k_dN k_dE (Nat.ne_of_beq_eq_false rfl)
      have h138 : f6 dN = some (.inl (cI G, 2, .inl gN)) := by rw [ef6, va_up_ne _ _ n139]; exact h136
      have n141 : dN ≠ dY := hneL k_dN k_dY (Nat.ne_of_beq_eq_false rfl)
      have h140 : f15 dN = some (.inl (cI G, 2, .inl gN)) := by rw [ef15, va_up_ne _ _ n141]; exact h138
      have n143 : dN ≠ dX := hneL k_dN k_dX (Nat.ne_of_beq_eq_false rfl)
      have h142 : f19 dN = some (.inl (cI G, 2, .inl gN)) := by rw [ef19, va_up_ne _ _ n143]; exact h140
      have n145 : dK ≠ mo := hne k_dK k_mo (Nat.ne_of_beq_eq_false rfl)
      have h144 : f1 dK = some (.inl (cI G, 2048, .inl gK)) := (hEq.k kk9) _ _ k_dK (ninc n145 nin0)
      have n147 : dK ≠ dE := hneL k_dK k_dE (Nat.ne_of_beq_eq_false rfl)
      have h146 : f6 dK = some (.inl (cI G, 2048, .inl gK)) := by rw [ef6, va_up_ne _ _ n147]; exact h144
      have n149 : dK ≠ dY := hneL k_dK k_dY (Nat.ne_of_beq_eq_false rfl)
      have h148 : f15 dK = some (.inl (cI G, 2048, .inl gK)) := by rw [ef15, va_up_ne _ _ n149]; exact h146
      have n151 : dK ≠ dX := hneL k_dK k_dX (Nat.ne_of_beq_eq_false rfl)
      have h150 : f19 dK = some (.inl (cI G, 2048, .inl gK)) := by rw [ef19, va_up_ne _ _ n151]; exact h148
      have n153 : dJ ≠ mo := hne k_dJ k_mo (Nat.ne_of_beq_eq_false rfl)
      have h152 : f1 dJ = some (.inl (cI G, 2048, .inl gJ)) := (hEq.k kk9) _ _ k_dJ (ninc n153 nin0)
      have n155 : dJ ≠ dE := hneL k_dJ k_dE (Nat.ne_of_beq_eq_false rfl)
      have h154 : f6 dJ = some (.inl (cI G, 2048, .inl gJ)) := by rw [ef6, va_up_ne _ _ n155]; exact h152
      have n157 : dJ ≠ dY := hneL k_dJ k_dY (Nat.ne_of_beq_eq_false rfl)
      have h156 : f15 dJ = some (.inl (cI G, 2048, .inl gJ)) := by rw [ef15, va_up_ne _ _ n157]; exact h154
      have n159 : dJ ≠ dX := hneL k_dJ k_dX (Nat.ne_of_beq_eq_false rfl)
      have h158 : f19 dJ = some (.inl (cI G, 2048, .inl gJ)) := by rw [ef19, va_up_ne _ _ n159]; exact h156
      have n161 : dU ≠ mo := hne k_dU k_mo (Nat.ne_of_beq_eq_false rfl)
      have h160 : f1 dU = some (.inl (cI G, 2048, .inl gU)) := (hEq.k kk9) _ _ k_dU (ninc n161 nin0)
      have n163 : dU ≠ dE := hneL k_dU k_dE (Nat.ne_of_beq_eq_false rfl)
      have h162 : f6 dU = some (.inl (cI G, 2048, .inl gU)) := by rw [ef6, va_up_ne _ _ n163]; exact h160
      have n165 : dU ≠ dY := hneL k_dU k_dY (Nat.ne_of_beq_eq_false rfl)
      have h164 : f15 dU = some (.inl (cI G, 2048, .inl gU)) := by rw [ef15, va_up_ne _ _ n165]; exact h162
      have n167 : dU ≠ dX := hneL k_dU k_dX (Nat.ne_of_beq_eq_false rfl)
      have h166 : f19 dU = some (.inl (cI G, 2048, .inl gU)) := by rw [ef19, va_up_ne _ _ n167]; exact h164
      have n169 : dO ≠ mo := hne k_dO k_mo (Nat.ne_of_beq_eq_false rfl)
      have h168 : f1 dO = some (.inl (cI G, 2048, .inl gO)) := (hEq.k kk9) _ _ k_dO (ninc n169 nin0)
      have n171 : dO ≠ dE := hneL k_dO k_dE (Nat.ne_of_beq_eq_false rfl)
      have h170 : f6 dO = some (.inl (cI G, 2048, .inl gO)) := by rw [ef6, va_up_ne _ _ n171]; exact h168
      have n173 : dO ≠ dY := hneL k_dO k_dY (Nat.ne_of_beq_eq_false rfl)
      have h172 : f15 dO = some (.inl (cI G, 2048, .inl gO)) := by rw [ef15, va_up_ne _ _ n173]; exact h170
      have n175 : dO ≠ dX := hneL k_dO k_dX (Nat.ne_of_beq_eq_false rfl)
      have h174 : f19 dO = some (.inl (cI G, 2048, .inl gO)) := by rw [ef19, va_up_ne _ _ n175]; exact h172
      refine hp_for (nL := 4) (pc := 51) (fun j f9 lv9 => (∃ (c9 x9 : Nat) (gv9 : Nat → Nat), bRun a sa pk (upd gh (fl xv.toNatClampNeg) 1) (bnd (upd gl xv.toNatClampNeg (nI (fl xv.toNatClampNeg)))) (240 - j) c9 x9 gv9 = bRun a sa pk (upd gh (fl xv.toNatClampNeg) 1) (bnd (upd gl xv.toNatClampNeg (nI (fl xv.toNatClampNeg)))) 240 cg x gv ∧ BOK n a c9 x9 sa pk ∧ j ≤ x9 ∧ f9 mo = some (.inr (5, [.int 0, .ref dW, .ref dA, .ref dQ, .ref dM, .ref dS, .ref dL, .ref dR, .ref dT, .ref dZ, .ref dI, .ref dH, .ref dN, .ref dK, .ref dJ, .ref dU, .ref dO, .int (nI n), .int (nI a), .ref dF, .ref dP, .ref dE, .ref dX, .ref dY, .int (nI x9), .int (nI c9), .ref dG])) ∧ f9 dG = some (.inl (cI G, 60, .inl (nf gv9))) ∧ hEq [mo, dG] f19 f9) ∧ lv9 = [(3, .int 1), (0, .ref mo), (1, .int xv), (2, .int (nI cg))]) 241 (fun j f9 lv9 H locs ls hj hI hw hS hl9 ih => ?_) (fun f9 lv9 H locs ls hI hw hS hl9 => ?_) 241 0 (by decide) f19 _ _ _ ls ⟨⟨_, _, _, rfl, hB9, Nat.zero_le _, h21, h70, hEq.rf⟩, rfl⟩ hw hS (lv_sub hl9 [0, 2, 3, 1] rfl)
      · obtain ⟨⟨c9, x9, gv9, hR9, hB8, hx9, hm8, hg9, hk9⟩, el9⟩ := hI
        rw [el9] at hl9
        refine lv_iload_n hx hb dX5_come_51 rfl (lv_at hl9 0 rfl) ?_
        refine lv_if_eq (tgt := 63) hx hb dX5_come_52 (by decide) (fun c9 => absurd c9 (by decide)) (fun _ => ?_)
        refine lv_aload_n hx hb dX5_come_55 rfl (lv_at hl9 1 rfl) ?_
        have n177 : dF ≠ dG := hneL k_dF k_dG (Nat.ne_of_beq_eq_false rfl)
        have h176 : f9 dF = some (.inl (cI G, 61, .inl (nf sa))) := (hEq.k hk9) _ _ h52 (ninc n47 (ninc n177 nin0))
        have n179 : dP ≠ dG := hneL k_dP k_dG (Nat.ne_of_beq_eq_false rfl)
        have h178 : f9 dP = some (.inl (cI G, 240, .inl (nf pk))) := (hEq.k hk9) _ _ h59 (ninc n55 (ninc n179 nin0))
        have h180 : f9 dE = some (.inl (cZ G, 240, .inl (upd gh (fl xv.toNatClampNeg) 1))) := (hEq.k hk9) _ _ h62 (ninc n5 (ninc (Ne.symm n67) nin0))
        have h181 : f9 dX = some (.inl (cI G, 3, .inl (nf (va_up fl xv.toNatClampNeg (fl xv.toNatClampNeg + 3))))) := (hEq.k hk9) _ _ h20 (ninc n3 (ninc (Ne.symm n71) nin0))
        have h182 : f9 dY = some (.inl (cI G, 3, .inl (upd gl xv.toNatClampNeg (nI (fl xv.toNatClampNeg))))) := (hEq.k hk9) _ _ h63 (ninc n12 (ninc (Ne.symm n69) nin0))
        refine hp_V (ci := 5) (As := []) (rest := []) B0 hw hS (c_W5_goesOn hl G f9 mo dW dA dQ dM dS dL dR dT dZ dI dH dN dK dJ dU dO dF dP dE dX dY dG 0 n a c9 x9 sa pk (va_up fl xv.toNatClampNeg (fl xv.toNatClampNeg + 3)) gv9 (upd gh (fl xv.toNatClampNeg) 1) (upd gl xv.toNatClampNeg (nI (fl xv.toNatClampNeg))) hm8 h176 h178 h180 h181 h182 hg9 hB8 hND) mV_X5_goesOn qM_X5_158 rfl hm8 rfl rfl hl9.1 (Nat.le_of_ble_eq_true rfl) ⟨⟨Nat.le_of_ble_eq_true rfl, Nat.le_of_ble_eq_true rfl⟩, Nat.le_of_ble_eq_true rfl, Nat.le_of_ble_eq_true rfl⟩ dX5_come_56 (fun E ce q9 f183 H locs hPX hw hS hce hcv hcl => ?_) (fun v f183 H locs hP hw hS => ?_)
        · exact hPX.elim
        · obtain ⟨hP, k184⟩ := hP
          rcases hP with ⟨ev9, hP⟩ | ⟨ev9, hP⟩
          · subst ev9
            obtain ⟨cgc185, x186, g187, t188, h189, i190⟩ := hP
            refine W.eq (g2 := F0 m 59 ls [.int 1]) rfl ?_
            refine lv_istore_n (lv' := [(3, .int 1), (0, .ref mo), (1, .int xv), (2, .int (nI cg))]) hx hb dX5_come_59 rfl hl9 (by decide) rfl (fun ls hl9 => ?_)
            refine lv_goto (tgt := 51) hx hb dX5_come_60 (by decide) ?_
            have hj2 : j < 240 := by have h1 := bStep_lt t188; have h2 := hB8.a240; omega
            have hR8 : bRun a sa pk (upd gh (fl xv.toNatClampNeg) 1) (bnd (upd gl xv.toNatClampNeg (nI (fl xv.toNatClampNeg)))) (240 - (j + 1)) cgc185 x186 g187 = bRun a sa pk (upd gh (fl xv.toNatClampNeg) 1) (bnd (upd gl xv.toNatClampNeg (nI (fl xv.toNatClampNeg)))) 240 cg x gv := by rw [← hR9, show 240 - j = (240 - (j + 1)) + 1 by omega, bRun_some t188]
            exact ih _ _ H locs ls ⟨⟨_, _, _, hR8, (hB8.step t188).1, (by have h1 := (hB8.step t188).2; omega), h189, i190, hk9.tr k184⟩, rfl⟩ hw hS (lv_sub hl9 [0, 1, 2, 3] rfl)
          · subst ev9
            obtain ⟨t191, h192, i193⟩ := hP
            refine W.eq (g2 := F0 m 59 ls [.int 0]) rfl ?_
            refine lv_istore_n (lv' := [(3, .int 0), (0, .ref mo), (1, .int xv), (2, .int (nI cg))]) hx hb dX5_come_59 rfl hl9 (by decide) rfl (fun ls hl9 => ?_)
            refine lv_goto (tgt := 51) hx hb dX5_come_60 (by decide) ?_
            have hR8 := hR9.symm.trans (bRun_none t191 _)
            refine lv_iload_n hx hb dX5_come_51 rfl (lv_at hl9 0 rfl) ?_
            refine lv_if_eq (tgt := 63) hx hb dX5_come_52 (by decide) (fun _ => ?_) (fun c9 => absurd (by decide) c9)
            refine lv_aload_n hx hb dX5_come_63 rfl (lv_at hl9 1 rfl) ?_
            refine hp_get B0 hw 5 rfl in_X5 h192 25 (by decide) qF_X5_152 rfl dX5_come_64 ?_
            refine lv_iload_n hx hb dX5_come_67 rfl (lv_at hl9 3 rfl) ?_
            refine lv_isub hx hb dX5_come_68 ?_
            have n195 : dQ ≠ dG := hneL k_dQ k_dG (Nat.ne_of_beq_eq_false rfl)
            have h194 : f9 dQ = some (.inl (cI G, 12, .inl gQ)) := (hEq.k hk9) _ _ h78 (ninc n73 (ninc n195 nin0))
            have h196 : f183 dQ = some (.inl (cI G, 12, .inl gQ)) := (hEq.k k184) _ _ h194 (ninc n73 (ninc n195 nin0))
            have n198 : dS ≠ dG := hneL k_dS k_dG (Nat.ne_of_beq_eq_false rfl)
            have h197 : f9 dS = some (.inl (cI G, 2, .inl gS)) := (hEq.k hk9) _ _ h86 (ninc n81 (ninc n198 nin0))
            have h199 : f183 dS = some (.inl (cI G, 2, .inl gS)) := (hEq.k k184) _ _ h197 (ninc n81 (ninc n198 nin0))
            have n201 : dL ≠ dG := hneL k_dL k_dG (Nat.ne_of_beq_eq_false rfl)
            have h200 : f9 dL = some (.inl (cI G, 2, .inl gL)) := (hEq.k hk9) _ _ h94 (ninc n89 (ninc n201 nin0))
            have h202 : f183 dL = some (.inl (cI G, 2, .inl gL)) := (hEq.k k184) _ _ h200 (ninc n89 (ninc n201 nin0))
            have n204 : dR ≠ dG := hneL k_dR k_dG (Nat.ne_of_beq_eq_false rfl)
            have h203 : f9 dR = some (.inl (cI G, 2, .inl gR)) := (hEq.k hk9) _ _ h102 (ninc n97 (ninc n204 nin0))
            have h205 : f183 dR = some (.inl (cI G, 2, .inl gR)) := (hEq.k k184) _ _ h203 (ninc n97 (ninc n204 nin0))
            have n207 : dT ≠ dG := hneL k_dT k_dG (Nat.ne_of_beq_eq_false rfl)
            have h206 : f9 dT = some (.inl (cI G, 2, .inl gT)) := (hEq.k hk9) _ _ h110 (ninc n105 (ninc n207 nin0))
            have h208 : f183 dT = some (.inl (cI G, 2, .inl gT)) := (hEq.k k184) _ _ h206 (ninc n105 (ninc n207 nin0))
            have n210 : dZ ≠ dG := hneL k_dZ k_dG (Nat.ne_of_beq_eq_false rfl)
            have h209 : f9 dZ = some (.inl (cZ G, 2, .inl gZ)) := (hEq.k hk9) _ _ h118 (ninc n113 (ninc n210 nin0))
            have h211 : f183 dZ = some (.inl (cZ G, 2, .inl gZ)) := (hEq.k k184) _ _ h209 (ninc n113 (ninc n210 nin0))
            have n213 : dI ≠ dG := hneL k_dI k_dG (Nat.ne_of_beq_eq_false rfl)
            have h212 : f9 dI = some (.inl (cI G, 2, .inl gI)) := (hEq.k hk9) _ _ h126 (ninc n121 (ninc n213 nin0))
            have h214 : f183 dI = some (.inl (cI G, 2, .inl gI)) := (hEq.k k184) _ _ h212 (ninc n121 (ninc n213 nin0))
            have n216 : dH ≠ dG := hneL k_dH k_dG (Nat.ne_of_beq_eq_false rfl)
            have h215 : f9 dH = some (.inl (cI G, 2, .inl gH)) := (hEq.k hk9) _ _ h134 (ninc n129 (ninc n216 nin0))
            have h217 : f183 dH = some (.inl (cI G, 2, .inl gH)) := (hEq.k k184) _ _ h215 (ninc n129 (ninc n216 nin0))
            have n219 : dN ≠ dG := hneL k_dN k_dG (Nat.ne_of_beq_eq_false rfl)
            have h218 : f9 dN = some (.inl (cI G, 2, .inl gN)) := (hEq.k hk9) _ _ h142 (ninc n137 (ninc n219 nin0))
            have h220 : f183 dN = some (.inl (cI G, 2, .inl gN)) := (hEq.k k184) _ _ h218 (ninc n137 (ninc n219 nin0))
            have n222 : dK ≠ dG := hneL k_dK k_dG (Nat.ne_of_beq_eq_false rfl)
            have h221 : f9 dK = some (.inl (cI G, 2048, .inl gK)) := (hEq.k hk9) _ _ h150 (ninc n145 (ninc n222 nin0))
            have h223 : f183 dK = some (.inl (cI G, 2048, .inl gK)) := (hEq.k k184) _ _ h221 (ninc n145 (ninc n222 nin0))
            have n225 : dJ ≠ dG := hneL k_dJ k_dG (Nat.ne_of_beq_eq_false rfl)
            have h224 : f9 dJ = some (.inl (cI G, 2048, .inl gJ)) := (hEq.k hk9) _ _ h158 (ninc n153 (ninc n225 nin0))
            have h226 : f183 dJ = some (.inl (cI G, 2048, .inl gJ)) := (hEq.k k184) _ _ h224 (ninc n153 (ninc n225 nin0))
            have n228 : dU ≠ dG := hneL k_dU k_dG (Nat.ne_of_beq_eq_false rfl)
            have h227 : f9 dU = some (.inl (cI G, 2048, .inl gU)) := (hEq.k hk9) _ _ h166 (ninc n161 (ninc n228 nin0))
            have h229 : f183 dU = some (.inl (cI G, 2048, .inl gU)) := (hEq.k k184) _ _ h227 (ninc n161 (ninc n228 nin0))
            have n231 : dO ≠ dG := hneL k_dO k_dG (Nat.ne_of_beq_eq_false rfl)
            have h230 : f9 dO = some (.inl (cI G, 2048, .inl gO)) := (hEq.k hk9) _ _ h174 (ninc n169 (ninc n231 nin0))
            have h232 : f183 dO = some (.inl (cI G, 2048, .inl gO)) := (hEq.k k184) _ _ h230 (ninc n169 (ninc n231 nin0))
            have n234 : dW ≠ dG := hneL k_dW k_dG (Nat.ne_of_beq_eq_false rfl)
            have h233 : f9 dW = some (.inl (cI G, 12, .inl (jn gw0 gw1))) := (hEq.k hk9) _ _ h28 (ninc n23 (ninc n234 nin0))
            have h235 : f183 dW = some (.inl (cI G, 12, .inl (jn gw0 gw1))) := (hEq.k k184) _ _ h233 (ninc n23 (ninc n234 nin0))
            have n237 : dA ≠ dG := hneL k_dA k_dG (Nat.ne_of_beq_eq_false rfl)
            have h236 : f9 dA = some (.inl (cI G, 12, .inl (jn ga0 ga1))) := (hEq.k hk9) _ _ h36 (ninc n31 (ninc n237 nin0))
            have h238 : f183 dA = some (.inl (cI G, 12, .inl (jn ga0 ga1))) := (hEq.k k184) _ _ h236 (ninc n31 (ninc n237 nin0))
            have n240 : dM ≠ dG := hneL k_dM k_dG (Nat.ne_of_beq_eq_false rfl)
            have h239 : f9 dM = some (.inl (cI G, 2, .inl (mA2 mg0 mg1))) := (hEq.k hk9) _ _ h44 (ninc n39 (ninc n240 nin0))
            have h241 : f183 dM = some (.inl (cI G, 2, .inl (mA2 mg0 mg1))) := (hEq.k k184) _ _ h239 (ninc n39 (ninc n240 nin0))
            have h242 : f183 dF = some (.inl (cI G, 61, .inl (nf sa))) := (hEq.k k184) _ _ h176 (ninc n47 (ninc n177 nin0))
            have h243 : f183 dP = some (.inl (cI G, 240, .inl (nf pk))) := (hEq.k k184) _ _ h178 (ninc n55 (ninc n179 nin0))
            have h244 : f183 dE = some (.inl (cZ G, 240, .inl (upd gh (fl xv.toNatClampNeg) 1))) := (hEq.k k184) _ _ h180 (ninc n5 (ninc (Ne.symm n67) nin0))
            have h245 : f183 dX = some (.inl (cI G, 3, .inl (nf (va_up fl xv.toNatClampNeg (fl xv.toNatClampNeg + 3))))) := (hEq.k k184) _ _ h181 (ninc n3 (ninc (Ne.symm n71) nin0))
            have h246 : f183 dY = some (.inl (cI G, 3, .inl (upd gl xv.toNatClampNeg (nI (fl xv.toNatClampNeg))))) := (hEq.k k184) _ _ h182 (ninc n12 (ninc (Ne.symm n69) nin0))
            exact hp_iret (v := ((nI c9) - (nI cg))) B0 hw hS hr ⟨Nat.le_of_ble_eq_true rfl, Nat.le_of_ble_eq_true rfl⟩ dX5_come_69 (⟨Or.inl ⟨hz9, (by rw [hR8]), ⟨(by rw [hR8]; exact h192), hND, ⟨_, _, _, _, _, _, _, _, _, _, _, _, _, h196, h199, h202, h205, h208, h211, h214, h217, h220, h223, h226, h229, h232, hHd9, (hMn.mono hMn9 (by omega))⟩, h235, h238, h241, h242, h243, h244, h245, h246, (by rw [hR8]; exact i193), hSA, (by rw [hR8]; exact hB8), (fl_up hfl9 (Nat.lt_of_lt_of_le hpl hB9.a240))⟩⟩, ((show hEq [mo, dW, dA, dQ, dM, dS, dL, dR, dT, dZ, dI, dH, dN, dK, dJ, dU, dO, dF, dP, dE, dX, dY, dG] f f1 from (hEq.mono kk9 (sub_cons List.mem_cons_self sub_nil))).tr ((show hEq [mo, dW, dA, dQ, dM, dS, dL, dR, dT, dZ, dI, dH, dN, dK, dJ, dU, dO, dF, dP, dE, dX, dY, dG] f1 f6 from (by rw [ef6]; exact hEq.up (List.mem_cons_of_mem _ (List.mem_cons_of_mem _ (List.mem_cons_of_mem _ (List.mem_cons_of_mem _ (List.mem_cons_of_mem _ (List.mem_cons_of_mem _ (List.mem_cons_of_mem _ (List.mem_cons_of_mem _ (List.mem_cons_of_mem _ (List.mem_cons_of_mem _ (List.mem_cons_of_mem _ (List.mem_cons_of_mem _ (List.mem_cons_of_mem _ (List.mem_cons_of_mem _ (List.mem_cons_of_mem _ (List.mem_cons_of_mem _ (List.mem_cons_of_mem _ (List.mem_cons_of_mem _ (List.mem_cons_of_mem _ List.mem_cons_self))))))))))))))))))))).tr ((show hEq [mo, dW, dA, dQ, dM, dS, dL, dR, dT, dZ, dI, dH, dN, dK, dJ, dU, dO, dF, dP, dE, dX, dY, dG] f6 f15 from (by rw [ef15]; exact hEq.up (List.mem_cons_of_mem _ (List.mem_cons_of_mem _ (List.mem_cons_of_mem _ (List.mem_cons_of_mem _ (List.mem_cons_of_mem _ (List.mem_cons_of_mem _ (List.mem_cons_of_mem _ (List.mem_cons_of_mem _ (List.mem_cons_of_mem _ (List.mem_cons_of_mem _ (List.mem_cons_of_mem _ (List.mem_cons_of_mem _ (List.mem_cons_of_mem _ (List.mem_cons_of_mem _ (List.mem_cons_of_mem _ (List.mem_cons_of_mem _ (List.mem_cons_of_mem _ (List.mem_cons_of_mem _ (List.mem_cons_of_mem _ (List.mem_cons_of_mem _ (List.mem_cons_of_mem _ List.mem_cons_self))))))))))))))))))))))).tr ((show hEq [mo, dW, dA, dQ, dM, dS, dL, dR, dT, dZ, dI, dH, dN, dK, dJ, dU, dO, dF, dP, dE, dX, dY, dG] f15 f19 from (by rw [ef19]; exact hEq.up (List.mem_cons_of_mem _ (List.mem_cons_of_mem _ (List.mem_cons_of_mem _ (List.mem_cons_of_mem _ (List.mem_cons_of_mem _ (List.mem_cons_of_mem _ (List.mem_cons_of_mem _ (List.mem_cons_of_mem _ (List.mem_cons_of_mem _ (List.mem_cons_of_mem _ (List.mem_cons_of_mem _ (List.mem_cons_of_mem _ (List.mem_cons_of_mem _ (List.mem_cons_of_mem _ (List.mem_cons_of_mem _ (List.mem_cons_of_mem _ (List.mem_cons_of_mem _ (List.mem_cons_of_mem _ (List.mem_cons_of_mem _ (List.mem_cons_of_mem _ List.mem_cons_self)))))))))))))))))))))).tr ((show hEq [mo, dW, dA, dQ, dM, dS, dL, dR, dT, dZ, dI, dH, dN, dK, dJ, dU, dO, dF, dP, dE, dX, dY, dG] f19 f9 from (hEq.mono hk9 (sub_cons List.mem_cons_self (sub_cons (List.mem_cons_of_mem _ (List.mem_cons_of_mem _ (List.mem_cons_of_mem _ (List.mem_cons_of_mem _ (List.mem_cons_of_mem _ (List.mem_cons_of_mem _ (List.mem_cons_of_mem _ (List.mem_cons_of_mem _ (List.mem_cons_of_mem _ (List.mem_cons_of_mem _ (List.mem_cons_of_mem _ (List.mem_cons_of_mem _ (List.mem_cons_of_mem _ (List.mem_cons_of_mem _ (List.mem_cons_of_mem _ (List.mem_cons_of_mem _ (List.mem_cons_of_mem _ (List.mem_cons_of_mem _ (List.mem_cons_of_mem _ (List.mem_cons_of_mem _ (List.mem_cons_of_mem _ (List.mem_cons_of_mem _ List.mem_cons_self)))))))))))))))))))))) sub_nil)))).tr (show hEq [mo, dW, dA, dQ, dM, dS, dL, dR, dT, dZ, dI, dH, dN, dK, dJ, dU, dO, dF, dP, dE, dX, dY, dG] f9 f183 from (hEq.mono k184 (sub_cons List.mem_cons_self (sub_cons (List.mem_cons_of_mem _ (List.mem_cons_of_mem _ (List.mem_cons_of_mem _ (List.mem_cons_of_mem _ (List.mem_cons_of_mem _ (List.mem_cons_of_mem _ (List.mem_cons_of_mem _ (List.mem_cons_of_mem _ (List.mem_cons_of_mem _ (List.mem_cons_of_mem _ (List.mem_cons_of_mem _ (List.mem_cons_of_mem _ (List.mem_cons_of_mem _ (List.mem_cons_of_mem _ (List.mem_cons_of_mem _ (List.mem_cons_of_mem _ (List.mem_cons_of_mem _ (List.mem_cons_of_mem _ (List.mem_cons_of_mem _ (List.mem_cons_of_mem _ (List.mem_cons_of_mem _ (List.mem_cons_of_mem _ List.mem_cons_self)))))))))))))))))))))) sub_nil)))))))))⟩)
      · obtain ⟨⟨c9, x9, gv9, hR9, hB8, hx9, -⟩, -⟩ := hI
        have h1 := hB8.2.2.2.2.2.1; have h2 := hB8.a240; omega
    · subst ev9
      refine W.eq (g2 := F0 m 5 ls [.int 0]) rfl ?_
      refine lv_if_ne (tgt := 10) hx hb dX5_come_5 (by decide) (fun c9 => absurd (by decide) c9) (fun _ => ?_)
      refine lv_iconst (v := 0) hx hb dX5_come_8 (by decide) ?_
      have n248 : dQ ≠ mo := hne k_dQ k_mo (Nat.ne_of_beq_eq_false rfl)
      have h247 : f1 dQ = some (.inl (cI G, 12, .inl gQ)) := (hEq.k kk9) _ _ k_dQ (ninc n248 nin0)
      have n250 : dS ≠ mo := hne k_dS k_mo (Nat.ne_of_beq_eq_false rfl)
      have h249 : f1 dS = some (.inl (cI G, 2, .inl gS)) := (hEq.k kk9) _ _ k_dS (ninc n250 nin0)
      have n252 : dL ≠ mo := hne k_dL k_mo (Nat.ne_of_beq_eq_false rfl)
      have h251 : f1 dL = some (.inl (cI G, 2, .inl gL)) := (hEq.k kk9) _ _ k_dL (ninc n252 nin0)
      have n254 : dR ≠ mo := hne k_dR k_mo (Nat.ne_of_beq_eq_false rfl)
      have h253 : f1 dR = some (.inl (cI G, 2, .inl gR)) := (hEq.k kk9) _ _ k_dR (ninc n254 nin0)
      have n256 : dT ≠ mo := hne k_dT k_mo (Nat.ne_of_beq_eq_false rfl)
      have h255 : f1 dT = some (.inl (cI G, 2, .inl gT)) := (hEq.k kk9) _ _ k_dT (ninc n256 nin0)
      have n258 : dZ ≠ mo := hne k_dZ k_mo (Nat.ne_of_beq_eq_false rfl)
      have h257 : f1 dZ = some (.inl (cZ G, 2, .inl gZ)) := (hEq.k kk9) _ _ k_dZ (ninc n258 nin0)
      have n260 : dI ≠ mo := hne k_dI k_mo (Nat.ne_of_beq_eq_false rfl)
      have h259 : f1 dI = some (.inl (cI G, 2, .inl gI)) := (hEq.k kk9) _ _ k_dI (ninc n260 nin0)
      have n262 : dH ≠ mo := hne k_dH k_mo (Nat.ne_of_beq_eq_false rfl)
      have h261 : f1 dH = some (.inl (cI G, 2, .inl gH)) := (hEq.k kk9) _ _ k_dH (ninc n262 nin0)
      have n264 : dN ≠ mo := hne k_dN k_mo (Nat.ne_of_beq_eq_false rfl)
      have h263 : f1 dN = some (.inl (cI G, 2, .inl gN)) := (hEq.k kk9) _ _ k_dN (ninc n264 nin0)
      have n266 : dK ≠ mo := hne k_dK k_mo (Nat.ne_of_beq_eq_false rfl)
      have h265 : f1 dK = some (.inl (cI G, 2048, .inl gK)) := (hEq.k kk9) _ _ k_dK (ninc n266 nin0)
      have n268 : dJ ≠ mo := hne k_dJ k_mo (Nat.ne_of_beq_eq_false rfl)
      have h267 : f1 dJ = some (.inl (cI G, 2048, .inl gJ)) := (hEq.k kk9) _ _ k_dJ (ninc n268 nin0)
      have n270 : dU ≠ mo := hne k_dU k_mo (Nat.ne_of_beq_eq_false rfl)
      have h269 : f1 dU = some (.inl (cI G, 2048, .inl gU)) := (hEq.k kk9) _ _ k_dU (ninc n270 nin0)
      have n272 : dO ≠ mo := hne k_dO k_mo (Nat.ne_of_beq_eq_false rfl)
      have h271 : f1 dO = some (.inl (cI G, 2048, .inl gO)) := (hEq.k kk9) _ _ k_dO (ninc n272 nin0)
      have n274 : dW ≠ mo := hne k_dW k_mo (Nat.ne_of_beq_eq_false rfl)
      have h273 : f1 dW = some (.inl (cI G, 12, .inl (jn gw0 gw1))) := (hEq.k kk9) _ _ k_dW (ninc n274 nin0)
      have n276 : dA ≠ mo := hne k_dA k_mo (Nat.ne_of_beq_eq_false rfl)
      have h275 : f1 dA = some (.inl (cI G, 12, .inl (jn ga0 ga1))) := (hEq.k kk9) _ _ k_dA (ninc n276 nin0)
      have n278 : dM ≠ mo := hne k_dM k_mo (Nat.ne_of_beq_eq_false rfl)
      have h277 : f1 dM = some (.inl (cI G, 2, .inl (mA2 mg0 mg1))) := (hEq.k kk9) _ _ k_dM (ninc n278 nin0)
      have n280 : dF ≠ mo := hne k_dF k_mo (Nat.ne_of_beq_eq_false rfl)
      have h279 : f1 dF = some (.inl (cI G, 61, .inl (nf sa))) := (hEq.k kk9) _ _ k_dF (ninc n280 nin0)
      have n282 : dP ≠ mo := hne k_dP k_mo (Nat.ne_of_beq_eq_false rfl)
      have h281 : f1 dP = some (.inl (cI G, 240, .inl (nf pk))) := (hEq.k kk9) _ _ k_dP (ninc n282 nin0)
      have n284 : dE ≠ mo := hne k_dE k_mo (Nat.ne_of_beq_eq_false rfl)
      have h283 : f1 dE = some (.inl (cZ G, 240, .inl gh)) := (hEq.k kk9) _ _ k_dE (ninc n284 nin0)
      have n286 : dX ≠ mo := hne k_dX k_mo (Nat.ne_of_beq_eq_false rfl)
      have h285 : f1 dX = some (.inl (cI G, 3, .inl (nf fl))) := (hEq.k kk9) _ _ k_dX (ninc n286 nin0)
      have n288 : dY ≠ mo := hne k_dY k_mo (Nat.ne_of_beq_eq_false rfl)
      have h287 : f1 dY = some (.inl (cI G, 3, .inl gl)) := (hEq.k kk9) _ _ k_dY (ninc n288 nin0)
      have n290 : dG ≠ mo := hne k_dG k_mo (Nat.ne_of_beq_eq_false rfl)
      have h289 : f1 dG = some (.inl (cI G, 60, .inl (nf gv))) := (hEq.k kk9) _ _ k_dG (ninc n290 nin0)
      exact hp_iret (v := 0) B0 hw hS hr ⟨Nat.le_of_ble_eq_true rfl, Nat.le_of_ble_eq_true rfl⟩ dX5_come_9 (⟨Or.inr ⟨hz9, ⟨_, rfl⟩, ⟨hm9, hND, ⟨_, _, _, _, _, _, _, _, _, _, _, _, _, h247, h249, h251, h253, h255, h257, h259, h261, h263, h265, h267, h269, h271, hHd9, (hMn.mono hMn9 (by omega))⟩, h273, h275, h277, h279, h281, h283, h285, h287, h289, hSA, hB9, hfl9⟩⟩, (show hEq [mo, dW, dA, dQ, dM, dS, dL, dR, dT, dZ, dI, dH, dN, dK, dJ, dU, dO, dF, dP, dE, dX, dY, dG] f f1 from (hEq.mono kk9 (sub_cons List.mem_cons_self sub_nil)))⟩)

set_option maxHeartbeats 4000000 in
set_option maxRecDepth 100000 in
theorem c_W5_drop {l : Launch} (hl : l.stackTraces = false) (G : hG) (f : hM) (mo dW dA dQ dM dS dL dR dT dZ dI dH dN dK dJ dU dO dF dP dE dX dY dG : Nat) (th : Int32) (B : Nat) (gw0 : Nat → Int32) (ga0 : Nat → Int32) (gw1 : Nat → Int32) (ga1 : Nat → Int32) (mg0 : Int32) (mg1 : Int32) (n : Nat) (a : Nat) (cg : Nat) (x : Nat) (sa : Nat → Nat) (pk : Nat → Nat) (fl : Nat → Nat) (gv : Nat → Nat) (gh : Nat → Int32) (gl : Nat → Int32) (hC : MW G f mo dW dA dQ dM dS dL dR dT dZ dI dH dN dK dJ dU dO dF dP dE dX dY dG th B gw0 ga0 gw1 ga1 mg0 mg1 n a cg x sa pk fl gv gh gl) (hBB : B + 100 < 100000) (xv : Int32) : CT l yX5_drop (.code yX5_drop cX5_drop 2 (some .int)) 2 43 0 0 G [.ref mo, .int xv] f (fun v f1 => ((spc (sL xv) (fl xv.toNatClampNeg < a) = 0 ∧ v = some (.int (nI (fl xv.toNatClampNeg))) ∧ MW G f1 mo dW dA dQ dM dS dL dR dT dZ dI dH dN dK dJ dU dO dF dP dE dX dY dG 0 B gw0 ga0 gw1 ga1 mg0 mg1 n a cg x sa pk (va_up fl xv.toNatClampNeg (fl xv.toNatClampNeg + 3)) gv gh gl) ∨ (¬ spc (sL xv) (fl xv.toNatClampNeg < a) = 0 ∧ (∃ r9 : Int32, v = some (.int r9)) ∧ MW G f1 mo dW dA dQ dM dS dL dR dT dZ dI dH dN dK dJ dU dO dF dP dE dX dY dG (spc (sL xv) (fl xv.toNatClampNeg < a)) B gw0 ga0 gw1 ga1 mg0 mg1 n a cg x sa pk fl gv gh gl)) ∧ hEq [mo, dW, dA, dQ, dM, dS, dL, dR, dT, dZ, dI, dH, dN, dK, dJ, dU, dO, dF, dP, dE, dX, dY, dG] f f1) (fun E f1 => False) := by
  refine hp_start hl (own := RX5) (by decide) rfl (Nat.le_of_ble_eq_true rfl) ?_
  intro p e s m args below meth c B0 hr hnm hout hw hS ls hl9
  have hx := B0.1
  have hb := B0.2.1
  have hl9 : lv_has ls 2 [(0, .ref mo), (1, .int xv)] := hl9
  obtain ⟨k_mo, hND, hLM, k_dW, k_dA, k_dM, k_dF, k_dP, k_dE, k_dX, k_dY, k_dG, hSA, hB9, hfl9⟩ := id hC
  obtain ⟨nd_dW_dA, nd_dW_dQ, nd_dA_dQ, nd_dM_dS, nd_dM_dL, nd_dM_dR, nd_dM_dT, nd_dM_dZ, nd_dM_dI, nd_dM_dH, nd_dM_dN, nd_dS_dL, nd_dS_dR, nd_dS_dT, nd_dS_dZ, nd_dS_dI, nd_dS_dH, nd_dS_dN, nd_dL_dR, nd_dL_dT, nd_dL_dZ, nd_dL_dI, nd_dL_dH, nd_dL_dN, nd_dR_dT, nd_dR_dZ, nd_dR_dI, nd_dR_dH, nd_dR_dN, nd_dT_dZ, nd_dT_dI, nd_dT_dH, nd_dT_dN, nd_dZ_dI, nd_dZ_dH, nd_dZ_dN, nd_dI_dH, nd_dI_dN, nd_dH_dN, nd_dK_dJ, nd_dK_dU, nd_dK_dO, nd_dJ_dU, nd_dJ_dO, nd_dU_dO, nd_dP_dE, nd_dX_dY⟩ := id hND
  obtain ⟨gQ, gS, gL, gR, gT, gZ, gI, gH, gN, gK, gJ, gU, gO, k_dQ, k_dS, k_dL, k_dR, k_dT, k_dZ, k_dI, k_dH, k_dN, k_dK, k_dJ, k_dU, k_dO, hHd9, hMn9⟩ := id hLM
  have hq3 := hB9.a240
  refine lv_aload_n hx hb dX5_drop_0 rfl (lv_at hl9 0 rfl) ?_
  refine lv_iload_n hx hb dX5_drop_1 rfl (lv_at hl9 1 rfl) ?_
  refine hp_V (ci := 5) (As := [.int xv]) (rest := []) B0 hw hS (c_W5_asksLine hl G f mo dW dA dQ dM dS dL dR dT dZ dI dH dN dK dJ dU dO dF dP dE dX dY dG th n a cg x sa pk fl gv gh gl k_mo k_dF k_dP k_dE k_dX k_dY k_dG hB9 hND hfl9 xv) mV_X5_asksLine qM_X5_155 rfl k_mo rfl rfl hl9.1 (Nat.le_of_ble_eq_true rfl) ⟨⟨Nat.le_of_ble_eq_true rfl, Nat.le_of_ble_eq_true rfl⟩, Nat.le_of_ble_eq_true rfl, Nat.le_of_ble_eq_true rfl⟩ dX5_drop_2 (fun E ce q9 f1 H locs hPX hw hS hce hcv hcl => ?_) (fun v f1 H locs hP hw hS => ?_)
  · exact hPX.elim
  · obtain ⟨hm9, hv9, kk9⟩ := hP
    rcases hv9 with ⟨ev9, hsl, hpl, hz9⟩ | ⟨ev9, hz9⟩
    · subst ev9
      rw [hz9] at hm9
      have hop := vin3 hsl
      refine W.eq (g2 := F0 m 5 ls [.int 1]) rfl ?_
      refine lv_if_ne (tgt := 10) hx hb dX5_drop_5 (by decide) (fun _ => ?_) (fun c9 => absurd c9 (by decide))
      refine lv_aload_n hx hb dX5_drop_10 rfl (lv_at hl9 0 rfl) ?_
      refine hp_get B0 hw 5 rfl in_X5 hm9 22 (by decide) qF_X5_68 rfl dX5_drop_11 ?_
      refine lv_iload_n hx hb dX5_drop_14 rfl (lv_at hl9 1 rfl) ?_
      refine lv_dup2_11 hx hb dX5_drop_15 rfl rfl ?_
      have n3 : dX ≠ mo := hne k_dX k_mo (Nat.ne_of_beq_eq_false rfl)
      have h2 : f1 dX = some (.inl (cI G, 3, .inl (nf fl))) := (hEq.k kk9) _ _ k_dX (ninc n3 nin0)
      refine hp_iald B0 hw h2 hop dX5_drop_16 ?_
      refine hp_c (v := (nI (fl xv.toNatClampNeg))) (rfl) ?_
      refine lv_iconst (v := 3) hx hb dX5_drop_17 (by decide) ?_
      refine lv_iadd hx hb dX5_drop_18 ?_
      refine hp_c (v := (nI (fl xv.toNatClampNeg + 3))) (nI_add _ 3) ?_
      refine hp_iast B0 hw hS h2 hop dX5_drop_19 (fun H locs f4 ef4 hw hS => ?_)
      rw [show (upd (nf fl) (xv : Int32).toNatClampNeg (nI (fl xv.toNatClampNeg + 3)) : Nat → Int32) = (nf (va_up fl xv.toNatClampNeg (fl xv.toNatClampNeg + 3))) from nf_up _ _ _] at ef4
      have h5 : f4 dX = some (.inl (cI G, 3, .inl (nf (va_up fl xv.toNatClampNeg (fl xv.toNatClampNeg + 3))))) := by rw [ef4, va_up_self]
      refine lv_aload_n hx hb dX5_drop_20 rfl (lv_at hl9 0 rfl) ?_
      have h6 : f4 mo = some (.inr (5, [.int 0, .ref dW, .ref dA, .ref dQ, .ref dM, .ref dS, .ref dL, .ref dR, .ref dT, .ref dZ, .ref dI, .ref dH, .ref dN, .ref dK, .ref dJ, .ref dU, .ref dO, .int (nI n), .int (nI a), .ref dF, .ref dP, .ref dE, .ref dX, .ref dY, .int (nI x), .int (nI cg), .ref dG])) := by rw [ef4, va_up_ne _ _ (Ne.symm n3)]; exact hm9
      refine hp_get B0 hw 5 rfl in_X5 h6 22 (by decide) qF_X5_68 rfl dX5_drop_21 ?_
      refine lv_iload_n hx hb dX5_drop_24 rfl (lv_at hl9 1 rfl) ?_
      refine hp_iald B0 hw h5 hop dX5_drop_25 ?_
      refine hp_c (v := (nI (fl xv.toNatClampNeg + 3))) (congrArg nI (va_up_self _ _ _)) ?_
      refine lv_iconst (v := 3) hx hb dX5_drop_26 (by decide) ?_
      refine lv_isub hx hb dX5_drop_27 ?_
      refine hp_c (v := (nI (fl xv.toNatClampNeg))) (nI_sub3 _) ?_
      have n8 : dQ ≠ mo := hne k_dQ k_mo (Nat.ne_of_beq_eq_false rfl)
      have h7 : f1 dQ = some (.inl (cI G, 12, .inl gQ)) := (hEq.k kk9) _ _ k_dQ (ninc n8 nin0)
      have n10 : dQ ≠ dX := hneL k_dQ k_dX (Nat.ne_of_beq_eq_false rfl)
      have h9 : f4 dQ = some (.inl (cI G, 12, .inl gQ)) := by rw [ef4, va_up_ne _ _ n10]; exact h7
      have n12 : dS ≠ mo := hne k_dS k_mo (Nat.ne_of_beq_eq_false rfl)
      have h11 : f1 dS = some (.inl (cI G, 2, .inl gS)) := (hEq.k kk9) _ _ k_dS (ninc n12 nin0)
      have n14 : dS ≠ dX := hneL k_dS k_dX (Nat.ne_of_beq_eq_false rfl)
      have h13 : f4 dS = some (.inl (cI G, 2, .inl gS)) := by rw [ef4, va_up_ne _ _ n14]; exact h11
      have n16 : dL ≠ mo := hne k_dL k_mo (Nat.ne_of_beq_eq_false rfl)
      have h15 : f1 dL = some (.inl (cI G, 2, .inl gL)) := (hEq.k kk9) _ _ k_dL (ninc n16 nin0)
      have n18 : dL ≠ dX := hneL k_dL k_dX (Nat.ne_of_beq_eq_false rfl)
      have h17 : f4 dL = some (.inl (cI G, 2, .inl gL)) := by rw [ef4, va_up_ne _ _ n18]; exact h15
      have n20 : dR ≠ mo := hne k_dR k_mo (Nat.ne_of_beq_eq_false rfl)
      have h19 : f1 dR = some (.inl (cI G, 2, .inl gR)) := (hEq.k kk9) _ _ k_dR (ninc n20 nin0)
      have n22 : dR ≠ dX := hneL k_dR k_dX (Nat.ne_of_beq_eq_false rfl)
      have h21 : f4 dR = some (.inl (cI G, 2, .inl gR)) := by rw [ef4, va_up_ne _ _ n22]; exact h19
      have n24 : dT ≠ mo := hne k_dT k_mo (Nat.ne_of_beq_eq_false rfl)
      have h23 : f1 dT = some (.inl (cI G, 2, .inl gT)) := (hEq.k kk9) _ _ k_dT (ninc n24 nin0)
      have n26 : dT ≠ dX := hneL k_dT k_dX (Nat.ne_of_beq_eq_false rfl)
      have h25 : f4 dT = some (.inl (cI G, 2, .inl gT)) := by rw [ef4, va_up_ne _ _ n26]; exact h23
      have n28 : dZ ≠ mo := hne k_dZ k_mo (Nat.ne_of_beq_eq_false rfl)
      have h27 : f1 dZ = some (.inl (cZ G, 2, .inl gZ)) := (hEq.k kk9) _ _ k_dZ (ninc n28 nin0)
      have n30 : dZ ≠ dX := hneL k_dZ k_dX (Nat.ne_of_beq_eq_false rfl)
      have h29 : f4 dZ = some (.inl (cZ G, 2, .inl gZ)) := by rw [ef4, va_up_ne _ _ n30]; exact h27
      have n32 : dI ≠ mo := hne k_dI k_mo (Nat.ne_of_beq_eq_false rfl)
      have h31 : f1 dI = some (.inl (cI G, 2, .inl gI)) := (hEq.k kk9) _ _ k_dI (ninc n32 nin0)
      have n34 : dI ≠ dX := hneL k_dI k_dX (Nat.ne_of_beq_eq_false rfl)
      have h33 : f4 dI = some (.inl (cI G, 2, .inl gI)) := by rw [ef4, va_up_ne _ _ n34]; exact h31
      have n36 : dH ≠ mo := hne k_dH k_mo (Nat.ne_of_beq_eq_false rfl)
      have h35 : f1 dH = some (.inl (cI G, 2, .inl gH)) := (hEq.k kk9) _ _ k_dH (ninc n36 nin0)
      have n38 : dH ≠ dX := hneL k_dH k_dX (Nat.ne_of_beq_eq_false rfl)
      have h37 : f4 dH = some (.inl (cI G, 2, .inl gH)) := by rw [ef4, va_up_ne _ _ n38]; exact h35
      have n40 : dN ≠ mo := hne k_dN k_mo (Nat.ne_of_beq_eq_false rfl)
      have h39 : f1 dN = some (.inl (cI G, 2, .inl gN)) := (hEq.k kk9) _ _ k_dN (ninc n40 nin0)
      have n42 : dN ≠ dX := hneL k_dN k_dX (Nat.ne_of_beq_eq_false rfl)
      have h41 : f4 dN = some (.inl (cI G, 2, .inl gN)) := by rw [ef4, va_up_ne _ _ n42]; exact h39
      have n44 : dK ≠ mo := hne k_dK k_mo (Nat.ne_of_beq_eq_false rfl)
      have h43 : f1 dK = some (.inl (cI G, 2048, .inl gK)) := (hEq.k kk9) _ _ k_dK (ninc n44 nin0)
      have n46 : dK ≠ dX := hneL k_dK k_dX (Nat.ne_of_beq_eq_false rfl)
      have h45 : f4 dK = some (.inl (cI G, 2048, .inl gK)) := by rw [ef4, va_up_ne _ _ n46]; exact h43
      have n48 : dJ ≠ mo := hne k_dJ k_mo (Nat.ne_of_beq_eq_false rfl)
      have h47 : f1 dJ = some (.inl (cI G, 2048, .inl gJ)) := (hEq.k kk9) _ _ k_dJ (ninc n48 nin0)
      have n50 : dJ ≠ dX := hneL k_dJ k_dX (Nat.ne_of_beq_eq_false rfl)
      have h49 : f4 dJ = some (.inl (cI G, 2048, .inl gJ)) := by rw [ef4, va_up_ne _ _ n50]; exact h47
      have n52 : dU ≠ mo := hne k_dU k_mo (Nat.ne_of_beq_eq_false rfl)
      have h51 : f1 dU = some (.inl (cI G, 2048, .inl gU)) := (hEq.k kk9) _ _ k_dU (ninc n52 nin0)
      have n54 : dU ≠ dX := hneL k_dU k_dX (Nat.ne_of_beq_eq_false rfl)
      have h53 : f4 dU = some (.inl (cI G, 2048, .inl gU)) := by rw [ef4, va_up_ne _ _ n54]; exact h51
      have n56 : dO ≠ mo := hne k_dO k_mo (Nat.ne_of_beq_eq_false rfl)
      have h55 : f1 dO = some (.inl (cI G, 2048, .inl gO)) := (hEq.k kk9) _ _ k_dO (ninc n56 nin0)
      have n58 : dO ≠ dX := hneL k_dO k_dX (Nat.ne_of_beq_eq_false rfl)
      have h57 : f4 dO = some (.inl (cI G, 2048, .inl gO)) := by rw [ef4, va_up_ne _ _ n58]; exact h55
      have n60 : dW ≠ mo := hne k_dW k_mo (Nat.ne_of_beq_eq_false rfl)
      have h59 : f1 dW = some (.inl (cI G, 12, .inl (jn gw0 gw1))) := (hEq.k kk9) _ _ k_dW (ninc n60 nin0)
      have n62 : dW ≠ dX := hneL k_dW k_dX (Nat.ne_of_beq_eq_false rfl)
      have h61 : f4 dW = some (.inl (cI G, 12, .inl (jn gw0 gw1))) := by rw [ef4, va_up_ne _ _ n62]; exact h59
      have n64 : dA ≠ mo := hne k_dA k_mo (Nat.ne_of_beq_eq_false rfl)
      have h63 : f1 dA = some (.inl (cI G, 12, .inl (jn ga0 ga1))) := (hEq.k kk9) _ _ k_dA (ninc n64 nin0)
      have n66 : dA ≠ dX := hneL k_dA k_dX (Nat.ne_of_beq_eq_false rfl)
      have h65 : f4 dA = some (.inl (cI G, 12, .inl (jn ga0 ga1))) := by rw [ef4, va_up_ne _ _ n66]; exact h63
      have n68 : dM ≠ mo := hne k_dM k_mo (Nat.ne_of_beq_eq_false rfl)
      have h67 : f1 dM = some (.inl (cI G, 2, .inl (mA2 mg0 mg1))) := (hEq.k kk9) _ _ k_dM (ninc n68 nin0)
      have n70 : dM ≠ dX := hneL k_dM k_dX (Nat.ne_of_beq_eq_false rfl)
      have h69 : f4 dM = some (.inl (cI G, 2, .inl (mA2 mg0 mg1))) := by rw [ef4, va_up_ne _ _ n70]; exact h67
      have n72 : dF ≠ mo := hne k_dF k_mo (Nat.ne_of_beq_eq_false rfl)
      have h71 : f1 dF = some (.inl (cI G, 61, .inl (nf sa))) := (hEq.k kk9) _ _ k_dF (ninc n72 nin0)
      have n74 : dF ≠ dX := hneL k_dF k_dX (Nat.ne_of_beq_eq_false rfl)
      have h73 : f4 dF = some (.inl (cI G, 61, .inl (nf sa))) := by rw [ef4, va_up_ne _ _ n74]; exact h71
      have n76 : dP ≠ mo := hne k_dP k_mo (Nat.ne_of_beq_eq_false rfl)
      have h75 : f1 dP = some (.inl (cI G, 240, .inl (nf pk))) := (hEq.k kk9) _ _ k_dP (ninc n76 nin0)
      have n78 : dP ≠ dX := hneL k_dP k_dX (Nat.ne_of_beq_eq_false rfl)
      have h77 : f4 dP = some (.inl (cI G, 240, .inl (nf pk))) := by rw [ef4, va_up_ne _ _ n78]; exact h75
      have n80 : dE ≠ mo := hne k_dE k_mo (Nat.ne_of_beq_eq_false rfl)
      have h79 : f1 dE = some (.inl (cZ G, 240, .inl gh)) := (hEq.k kk9) _ _ k_dE (ninc n80 nin0)
      have n82 : dE ≠ dX := hneL k_dE k_dX (Nat.ne_of_beq_eq_false rfl)
      have h81 : f4 dE = some (.inl (cZ G, 240, .inl gh)) := by rw [ef4, va_up_ne _ _ n82]; exact h79
      have n84 : dY ≠ mo := hne k_dY k_mo (Nat.ne_of_beq_eq_false rfl)
      have h83 : f1 dY = some (.inl (cI G, 3, .inl gl)) := (hEq.k kk9) _ _ k_dY (ninc n84 nin0)
      have h85 : f4 dY = some (.inl (cI G, 3, .inl gl)) := by rw [ef4, va_up_ne _ _ (Ne.symm nd_dX_dY)]; exact h83
      have n87 : dG ≠ mo := hne k_dG k_mo (Nat.ne_of_beq_eq_false rfl)
      have h86 : f1 dG = some (.inl (cI G, 60, .inl (nf gv))) := (hEq.k kk9) _ _ k_dG (ninc n87 nin0)
      have n89 : dG ≠ dX := hneL k_dG k_dX (Nat.ne_of_beq_eq_false rfl)
      have h88 : f4 dG = some (.inl (cI G, 60, .inl (nf gv))) := by rw [ef4, va_up_ne _ _ n89]; exact h86
      exact hp_iret (v := (nI (fl xv.toNatClampNeg))) B0 hw hS hr ⟨Nat.le_of_ble_eq_true rfl, Nat.le_of_ble_eq_true rfl⟩ dX5_drop_28 (⟨Or.inl ⟨hz9, rfl, ⟨h6, hND, ⟨_, _, _, _, _, _, _, _, _, _, _, _, _, h9, h13, h17, h21, h25, h29, h33, h37, h41, h45, h49, h53, h57, hHd9, (hMn.mono hMn9 (by omega))⟩, h61, h65, h69, h73, h77, h81, h5, h85, h88, hSA, hB9, (fl_up hfl9 (Nat.lt_of_lt_of_le hpl hB9.a240))⟩⟩, ((show hEq [mo, dW, dA, dQ, dM, dS, dL, dR, dT, dZ, dI, dH, dN, dK, dJ, dU, dO, dF, dP, dE, dX, dY, dG] f f1 from (hEq.mono kk9 (sub_cons List.mem_cons_self sub_nil))).tr (show hEq [mo, dW, dA, dQ, dM, dS, dL, dR, dT, dZ, dI, dH, dN, dK, dJ, dU, dO, dF, dP, dE, dX, dY, dG] f1 f4 from (by rw [ef4]; exact hEq.up (List.mem_cons_of_mem _ (List.mem_cons_of_mem _ (List.mem_cons_of_mem _ (List.mem_cons_of_mem _ (List.mem_cons_of_mem _ (List.mem_cons_of_mem _ (List.mem_cons_of_mem _ (List.mem_cons_of_mem _ (List.mem_cons_of_mem _ (List.mem_cons_of_mem _ (List.mem_cons_of_mem _ (List.mem_cons_of_mem _ (List.mem_cons_of_mem _ (List.mem_cons_of_mem _ (List.mem_cons_of_mem _ (List.mem_cons_of_mem _ (List.mem_cons_of_mem _ (List.mem_cons_of_mem _ (List.mem_cons_of_mem _ (List.mem_cons_of_mem _ List.mem_cons_self)))))))))))))))))))))))⟩)
    · subst ev9
      refine W.eq (g2 := F0 m 5 ls [.int 0]) rfl ?_
      refine lv_if_ne (tgt := 10) hx hb dX5_drop_5 (by decide) (fun c9 => absurd (by decide) c9) (fun _ => ?_)
      refine lv_iconst (v := 0) hx hb dX5_drop_8 (by decide) ?_
      have n91 : dQ ≠ mo := hne k_dQ k_mo (Nat.ne_of_beq_eq_false rfl)
      have h90 : f1 dQ = some (.inl (cI G, 12, .inl gQ)) := (hEq.k kk9) _ _ k_dQ (ninc n91 nin0)
      have n93 : dS ≠ mo := hne k_dS k_mo (Nat.ne_of_beq_eq_false rfl)
      have h92 : f1 dS = some (.inl (cI G, 2, .inl gS)) := (hEq.k kk9) _ _ k_dS (ninc n93 nin0)
      have n95 : dL ≠ mo := hne k_dL k_mo (Nat.ne_of_beq_eq_false rfl)
      have h94 : f1 dL = some (.inl (cI G, 2, .inl gL)) := (hEq.k kk9) _ _ k_dL (ninc n95 nin0)
      have n97 : dR ≠ mo := hne k_dR k_mo (Nat.ne_of_beq_eq_false rfl)
      have h96 : f1 dR = some (.inl (cI G, 2, .inl gR)) := (hEq.k kk9) _ _ k_dR (ninc n97 nin0)
      have n99 : dT ≠ mo := hne k_dT k_mo (Nat.ne_of_beq_eq_false rfl)
      have h98 : f1 dT = some (.inl (cI G, 2, .inl gT)) := (hEq.k kk9) _ _ k_dT (ninc n99 nin0)
      have n101 : dZ ≠ mo := hne k_dZ k_mo (Nat.ne_of_beq_eq_false rfl)
      have h100 : f1 dZ = some (.inl (cZ G, 2, .inl gZ)) := (hEq.k kk9) _ _ k_dZ (ninc n101 nin0)
      have n103 : dI ≠ mo := hne k_dI k_mo (Nat.ne_of_beq_eq_false rfl)
      have h102 : f1 dI = some (.inl (cI G, 2, .inl gI)) := (hEq.k kk9) _ _ k_dI (ninc n103 nin0)
      have n105 : dH ≠ mo := hne k_dH k_mo (Nat.ne_of_beq_eq_false rfl)
      have h104 : f1 dH = some (.inl (cI G, 2, .inl gH)) := (hEq.k kk9) _ _ k_dH (ninc n105 nin0)
      have n107 : dN ≠ mo := hne k_dN k_mo (Nat.ne_of_beq_eq_false rfl)
      have h106 : f1 dN = some (.inl (cI G, 2, .inl gN)) := (hEq.k kk9) _ _ k_dN (ninc n107 nin0)
      have n109 : dK ≠ mo := hne k_dK k_mo (Nat.ne_of_beq_eq_false rfl)
      have h108 : f1 dK = some (.inl (cI G, 2048, .inl gK)) := (hEq.k kk9) _ _ k_dK (ninc n109 nin0)
      have n111 : dJ ≠ mo := hne k_dJ k_mo (Nat.ne_of_beq_eq_false rfl)
      have h110 : f1 dJ = some (.inl (cI G, 2048, .inl gJ)) := (hEq.k kk9) _ _ k_dJ (ninc n111 nin0)
      have n113 : dU ≠ mo := hne k_dU k_mo (Nat.ne_of_beq_eq_false rfl)
      have h112 : f1 dU = some (.inl (cI G, 2048, .inl gU)) := (hEq.k kk9) _ _ k_dU (ninc n113 nin0)
      have n115 : dO ≠ mo := hne k_dO k_mo (Nat.ne_of_beq_eq_false rfl)
      have h114 : f1 dO = some (.inl (cI G, 2048, .inl gO)) := (hEq.k kk9) _ _ k_dO (ninc n115 nin0)
      have n117 : dW ≠ mo := hne k_dW k_mo (Nat.ne_of_beq_eq_false rfl)
      have h116 : f1 dW = some (.inl (cI G, 12, .inl (jn gw0 gw1))) := (hEq.k kk9) _ _ k_dW (ninc n117 nin0)
      have n119 : dA ≠ mo := hne k_dA k_mo (Nat.ne_of_beq_eq_false rfl)
      have h118 : f1 dA = some (.inl (cI G, 12, .inl (jn ga0 ga1))) := (hEq.k kk9) _ _ k_dA (ninc n119 nin0)
      have n121 : dM ≠ mo := hne k_dM k_mo (Nat.ne_of_beq_eq_false rfl)
      have h120 : f1 dM = some (.inl (cI G, 2, .inl (mA2 mg0 mg1))) := (hEq.k kk9) _ _ k_dM (ninc n121 nin0)
      have n123 : dF ≠ mo := hne k_dF k_mo (Nat.ne_of_beq_eq_false rfl)
      have h122 : f1 dF = some (.inl (cI G, 61, .inl (nf sa))) := (hEq.k kk9) _ _ k_dF (ninc n123 nin0)
      have n125 : dP ≠ mo := hne k_dP k_mo (Nat.ne_of_beq_eq_false rfl)
      have h124 : f1 dP = some (.inl (cI G, 240, .inl (nf pk))) := (hEq.k kk9) _ _ k_dP (ninc n125 nin0)
      have n127 : dE ≠ mo := hne k_dE k_mo (Nat.ne_of_beq_eq_false rfl)
      have h126 : f1 dE = some (.inl (cZ G, 240, .inl gh)) := (hEq.k kk9) _ _ k_dE (ninc n127 nin0)
      have n129 : dX ≠ mo := hne k_dX k_mo (Nat.ne_of_beq_eq_false rfl)
      have h128 : f1 dX = some (.inl (cI G, 3, .inl (nf fl))) := (hEq.k kk9) _ _ k_dX (ninc n129 nin0)
      have n131 : dY ≠ mo := hne k_dY k_mo (Nat.ne_of_beq_eq_false rfl)
      have h130 : f1 dY = some (.inl (cI G, 3, .inl gl)) := (hEq.k kk9) _ _ k_dY (ninc n131 nin0)
      have n133 : dG ≠ mo := hne k_dG k_mo (Nat.ne_of_beq_eq_false rfl)
      have h132 : f1 dG = some (.inl (cI G, 60, .inl (nf gv))) := (hEq.k kk9) _ _ k_dG (ninc n133 nin0)
      exact hp_iret (v := 0) B0 hw hS hr ⟨Nat.le_of_ble_eq_true rfl, Nat.le_of_ble_eq_true rfl⟩ dX5_drop_9 (⟨Or.inr ⟨hz9, ⟨_, rfl⟩, ⟨hm9, hND, ⟨_, _, _, _, _, _, _, _, _, _, _, _, _, h90, h92, h94, h96, h98, h100, h102, h104, h106, h108, h110, h112, h114, hHd9, (hMn.mono hMn9 (by omega))⟩, h116, h118, h120, h122, h124, h126, h128, h130, h132, hSA, hB9, hfl9⟩⟩, (show hEq [mo, dW, dA, dQ, dM, dS, dL, dR, dT, dZ, dI, dH, dN, dK, dJ, dU, dO, dF, dP, dE, dX, dY, dG] f f1 from (hEq.mono kk9 (sub_cons List.mem_cons_self sub_nil)))⟩)

set_option maxHeartbeats 4000000 in
set_option maxRecDepth 100000 in
theorem c_W5_send {l : Launch} (hl : l.stackTraces = false) (G : hG) (f : hM) (mo dW dA dQ dM dS dL dR dT dZ dI dH dN dK dJ dU dO dF dP dE dX dY dG : Nat) (th : Int32) (B : Nat) (gw0 : Nat → Int32) (ga0 : Nat → Int32) (gw1 : Nat → Int32) (ga1 : Nat → Int32) (mg0 : Int32) (mg1 : Int32) (n : Nat) (a : Nat) (cg : Nat) (x : Nat) (sa : Nat → Nat) (pk : Nat → Nat) (fl : Nat → Nat) (gv : Nat → Nat) (gh : Nat → Int32) (gl : Nat → Int32) (hC : MW G f mo dW dA dQ dM dS dL dR dT dZ dI dH dN dK dJ dU dO dF dP dE dX dY dG th B gw0 ga0 gw1 ga1 mg0 mg1 n a cg x sa pk fl gv gh gl) (hBB : B + 100 < 100000) (xv : Int32) : CT l yX5_send (.code yX5_send cX5_send 4 (some .int)) 1 22 0 0 G [.ref mo, .int xv] f (fun v f1 => ((spc (sP xv) (n < 60) = 0 ∧ v = some (.int (nI a)) ∧ MW G f1 mo dW dA dQ dM dS dL dR dT dZ dI dH dN dK dJ dU dO dF dP dE dX dY dG 0 B gw0 ga0 gw1 ga1 mg0 mg1 (n + 1) (a + xv.toNatClampNeg) cg x (va_up sa (n + 1) (a + xv.toNatClampNeg)) (pkA pk n a xv.toNatClampNeg) fl gv gh gl) ∨ (¬ spc (sP xv) (n < 60) = 0 ∧ (∃ r9 : Int32, v = some (.int r9)) ∧ MW G f1 mo dW dA dQ dM dS dL dR dT dZ dI dH dN dK dJ dU dO dF dP dE dX dY dG (spc (sP xv) (n < 60)) B gw0 ga0 gw1 ga1 mg0 mg1 n a cg x sa pk fl gv gh gl)) ∧ hEq [mo, dW, dA, dQ, dM, dS, dL, dR, dT, dZ, dI, dH, dN, dK, dJ, dU, dO, dF, dP, dE, dX, dY, dG] f f1) (fun E f1 => False) := by
  refine hp_start hl (own := RX5) (by decide) rfl (Nat.le_of_ble_eq_true rfl) ?_
  intro p e s m args below meth c B0 hr hnm hout hw hS ls hl9
  have hx := B0.1
  have hb := B0.2.1
  have hl9 : lv_has ls 4 [(0, .ref mo), (1, .int xv)] := hl9
  obtain ⟨k_mo, hND, hLM, k_dW, k_dA, k_dM, k_dF, k_dP, k_dE, k_dX, k_dY, k_dG, hSA, hB9, hfl9⟩ := id hC
  obtain ⟨nd_dW_dA, nd_dW_dQ, nd_dA_dQ, nd_dM_dS, nd_dM_dL, nd_dM_dR, nd_dM_dT, nd_dM_dZ, nd_dM_dI, nd_dM_dH, nd_dM_dN, nd_dS_dL, nd_dS_dR, nd_dS_dT, nd_dS_dZ, nd_dS_dI, nd_dS_dH, nd_dS_dN, nd_dL_dR, nd_dL_dT, nd_dL_dZ, nd_dL_dI, nd_dL_dH, nd_dL_dN, nd_dR_dT, nd_dR_dZ, nd_dR_dI, nd_dR_dH, nd_dR_dN, nd_dT_dZ, nd_dT_dI, nd_dT_dH, nd_dT_dN, nd_dZ_dI, nd_dZ_dH, nd_dZ_dN, nd_dI_dH, nd_dI_dN, nd_dH_dN, nd_dK_dJ, nd_dK_dU, nd_dK_dO, nd_dJ_dU, nd_dJ_dO, nd_dU_dO, nd_dP_dE, nd_dX_dY⟩ := id hND
  obtain ⟨gQ, gS, gL, gR, gT, gZ, gI, gH, gN, gK, gJ, gU, gO, k_dQ, k_dS, k_dL, k_dR, k_dT, k_dZ, k_dI, k_dH, k_dN, k_dK, k_dJ, k_dU, k_dO, hHd9, hMn9⟩ := id hLM
  have hq3 := hB9.a4
  have hq4 := hB9.1
  refine lv_aload_n hx hb dX5_send_0 rfl (lv_at hl9 0 rfl) ?_
  refine lv_iload_n hx hb dX5_send_1 rfl (lv_at hl9 1 rfl) ?_
  refine lv_iconst (v := 1) hx hb dX5_send_2 (by decide) ?_
  refine lv_iconst (v := 4) hx hb dX5_send_3 (by decide) ?_
  refine hp_S (As := [.int xv, .int 1, .int 4]) (rest := [.ref mo]) B0 hw hS (c_X5_in hl G f xv 1 4) mS_X5_in qM_X5_81 rfl rfl hl9.1 (Nat.le_of_ble_eq_true rfl) ⟨⟨Nat.le_of_ble_eq_true rfl, Nat.le_of_ble_eq_true rfl⟩, Nat.le_of_ble_eq_true rfl, Nat.le_of_ble_eq_true rfl⟩ dX5_send_4 (fun E ce q9 f1 H locs hPX hw hS hce hcv hcl => ?_) (fun v f1 H locs hP hw hS => ?_)
  · exact hPX.elim
  · obtain ⟨ef9, hv9⟩ := hP
    rw [ef9] at hw
    rcases hv9 with ⟨b2, ev9⟩ | ⟨b2, ev9⟩
    · subst ev9
      refine W.eq (g2 := F0 m 7 ls [.int 1, .ref mo]) rfl ?_
      refine lv_if_ne (tgt := 14) hx hb dX5_send_7 (by decide) (fun _ => ?_) (fun c9 => absurd c9 (by decide))
      refine lv_aload_n hx hb dX5_send_14 rfl (lv_at hl9 0 rfl) ?_
      refine hp_get B0 hw 5 rfl in_X5 k_mo 17 (by decide) qF_X5_136 rfl dX5_send_15 ?_
      refine lv_bipush (v := 60) hx hb dX5_send_18 (by decide) ?_
      refine lv_icmp_ne (tgt := 27) hx hb dX5_send_20 (by decide) (fun c3 => ?_) (fun c3 => ?_)
      · refine lv_iconst (v := 0) hx hb dX5_send_27 (by decide) ?_
        refine hp_put (fs1 := [.int 0, .ref dW, .ref dA, .ref dQ, .ref dM, .ref dS, .ref dL, .ref dR, .ref dT, .ref dZ, .ref dI, .ref dH, .ref dN, .ref dK, .ref dJ, .ref dU, .ref dO, .int (nI n), .int (nI a), .ref dF, .ref dP, .ref dE, .ref dX, .ref dY, .int (nI x), .int (nI cg), .ref dG]) (ty := .int) B0 hw hS 5 rfl in_X5 tyX5 tyX5_ok nmX5 k_mo 0 (by decide) qF_X5_77 rfl (by decide +kernel) rfl rfl (Nat.le_of_ble_eq_true rfl) rfl dX5_send_28 (fun H locs f4 ef4 hw hS => ?_)
        have h5 : f4 mo = some (.inr (5, [.int 0, .ref dW, .ref dA, .ref dQ, .ref dM, .ref dS, .ref dL, .ref dR, .ref dT, .ref dZ, .ref dI, .ref dH, .ref dN, .ref dK, .ref dJ, .ref dU, .ref dO, .int (nI n), .int (nI a), .ref dF, .ref dP, .ref dE, .ref dX, .ref dY, .int (nI x), .int (nI cg), .ref dG])) := by rw [ef4, va_up_self]
        refine lv_aload_n hx hb dX5_send_31 rfl (lv_at hl9 0 rfl) ?_
        refine hp_get B0 hw 5 rfl in_X5 h5 0 (by decide) qF_X5_77 rfl dX5_send_32 ?_
        refine lv_if_le (tgt := 40) hx hb dX5_send_35 (by decide) (fun _ => ?_) (fun c9 => absurd (by decide) c9)
        have hsP : sP xv := (by have h1 := b2; simp only [jlt, jle, tq0, tq1, tq2, tq3, tq4, tq5, tq6, tq9, tq50, tq60, tq1023, tqm1] at h1; exact ⟨by omega, by omega⟩)
        have hn : n < 60 := by have h1 : n ≠ 60 := fun h9 => c3 (by rw [h9]; rfl); omega
        obtain ⟨k, hk4, eT⟩ := nI_of2 (x := xv) (M := 4) (n := 4) rfl (by have h1 := hsP.1; simp only [jlt, jle, tq0, tq1, tq2, tq3, tq4, tq5, tq6, tq9, tq50, tq60, tq1023, tqm1]; omega) (by have h1 := hsP.2; simp only [jlt, jle, tq0, tq1, tq2, tq3, tq4, tq5, tq6, tq9, tq50, tq60, tq1023, tqm1]; omega)
        have hk1 : 1 ≤ k := by have h1 := hsP.1; rw [eT, nI_toInt (by omega)] at h1; omega
        subst eT
        refine lv_aload_n hx hb dX5_send_40 rfl (lv_at hl9 0 rfl) ?_
        refine hp_get B0 hw 5 rfl in_X5 h5 18 (by decide) qF_X5_139 rfl dX5_send_41 ?_
        refine lv_istore_n (lv' := [(2, .int (nI a)), (0, .ref mo), (1, .int (nI k))]) hx hb dX5_send_44 rfl hl9 (by decide) rfl (fun ls hl9 => ?_)
        refine lv_aload_n hx hb dX5_send_45 rfl (lv_at hl9 1 rfl) ?_
        refine hp_get B0 hw 5 rfl in_X5 h5 19 (by decide) qF_X5_59 rfl dX5_send_46 ?_
        refine lv_aload_n hx hb dX5_send_49 rfl (lv_at hl9 1 rfl) ?_
        refine hp_get B0 hw 5 rfl in_X5 h5 17 (by decide) qF_X5_136 rfl dX5_send_50 ?_
        refine lv_iload_n hx hb dX5_send_53 rfl (lv_at hl9 0 rfl) ?_
        have n7 : dF ≠ mo := hne k_dF k_mo (Nat.ne_of_beq_eq_false rfl)
        have h6 : f4 dF = some (.inl (cI G, 61, .inl (nf sa))) := by rw [ef4, va_up_ne _ _ n7]; exact k_dF
        refine hp_iast B0 hw hS h6 (vp_in_nI (show n < 61 by omega) (by decide)) dX5_send_54 (fun H locs f8 ef8 hw hS => ?_)
        rw [show (upd (nf sa) ((nI n) : Int32).toNatClampNeg (nI a) : Nat → Int32) = (nf sa) from (by rw [nI_clamp (by omega)]; exact nf_same hB9.2.2.1)] at ef8
        have h9 : f8 dF = some (.inl (cI G, 61, .inl (nf sa))) := by rw [ef8, va_up_self]
        refine lv_iconst (v := 0) hx hb dX5_send_55 (by decide) ?_
        refine lv_istore_n (lv' := [(3, .int 0), (2, .int (nI a)), (0, .ref mo), (1, .int (nI k))]) hx hb dX5_send_56 rfl hl9 (by decide) rfl (fun ls hl9 => ?_)
        have h10 : f8 mo = some (.inr (5, [.int 0, .ref dW, .ref dA, .ref dQ, .ref dM, .ref dS, .ref dL, .ref dR, .ref dT, .ref dZ, .ref dI, .ref dH, .ref dN, .ref dK, .ref dJ, .ref dU, .ref dO, .int (nI n), .int (nI a), .ref dF, .ref dP, .ref dE, .ref dX, .ref dY, .int (nI x), .int (nI cg), .ref dG])) := by rw [ef8, va_up_ne _ _ (Ne.symm n7)]; exact h5
        have n12 : dW ≠ mo := hne k_dW k_mo (Nat.ne_of_beq_eq_false rfl)
        have h11 : f4 dW = some (.inl (cI G, 12, .inl (jn gw0 gw1))) := by rw [ef4, va_up_ne _ _ n12]; exact k_dW
        have n14 : dW ≠ dF := hneL k_dW k_dF (Nat.ne_of_beq_eq_false rfl)
        have h13 : f8 dW = some (.inl (cI G, 12, .inl (jn gw0 gw1))) := by rw [ef8, va_up_ne _ _ n14]; exact h11
        have n16 : dA ≠ mo := hne k_dA k_mo (Nat.ne_of_beq_eq_false rfl)
        have h15 : f4 dA = some (.inl (cI G, 12, .inl (jn ga0 ga1))) := by rw [ef4, va_up_ne _ _ n16]; exact k_dA
        have n18 : dA ≠ dF := hneL k_dA k_dF (Nat.ne_of_beq_eq_false rfl)
        have h17 : f8 dA = some (.inl (cI G, 12, .inl (jn ga0 ga1))) := by rw [ef8, va_up_ne _ _ n18]; exact h15
        have n20 : dM ≠ mo := hne k_dM k_mo (Nat.ne_of_beq_eq_false rfl)
        have h19 : f4 dM = some (.inl (cI G, 2, .inl (mA2 mg0 mg1))) := by rw [ef4, va_up_ne _ _ n20]; exact k_dM
        have n22 : dM ≠ dF := hneL k_dM k_dF (Nat.ne_of_beq_eq_false rfl)
        have h21 : f8 dM = some (.inl (cI G, 2, .inl (mA2 mg0 mg1))) := by rw [ef8, va_up_ne _ _ n22]; exact h19
        have n24 : dP ≠ mo := hne k_dP k_mo (Nat.ne_of_beq_eq_false rfl)
        have h23 : f4 dP = some (.inl (cI G, 240, .inl (nf pk))) := by rw [ef4, va_up_ne _ _ n24]; exact k_dP
        have n26 : dP ≠ dF := hneL k_dP k_dF (Nat.ne_of_beq_eq_false rfl)
        have h25 : f8 dP = some (.inl (cI G, 240, .inl (nf pk))) := by rw [ef8, va_up_ne _ _ n26]; exact h23
        have n28 : dE ≠ mo := hne k_dE k_mo (Nat.ne_of_beq_eq_false rfl)
        have h27 : f4 dE = some (.inl (cZ G, 240, .inl gh)) := by rw [ef4, va_up_ne _ _ n28]; exact k_dE
        have n30 : dE ≠ dF := hneL k_dE k_dF (Nat.ne_of_beq_eq_false rfl)
        have h29 : f8 dE = some (.inl (cZ G, 240, .inl gh)) := by rw [ef8, va_up_ne _ _ n30]; exact h27
        have n32 : dX ≠ mo := hne k_dX k_mo (Nat.ne_of_beq_eq_false rfl)
        have h31 : f4 dX = some (.inl (cI G, 3, .inl (nf fl))) := by rw [ef4, va_up_ne _ _ n32]; exact k_dX
        have n34 : dX ≠ dF := hneL k_dX k_dF (Nat.ne_of_beq_eq_false rfl)
        have h33 : f8 dX = some (.inl (cI G, 3, .inl (nf fl))) := by rw [ef8, va_up_ne _ _ n34]; exact h31
        have n36 : dY ≠ mo := hne k_dY k_mo (Nat.ne_of_beq_eq_false rfl)
        have h35 : f4 dY = some (.inl (cI G, 3, .inl gl)) := by rw [ef4, va_up_ne _ _ n36]; exact k_dY
        have n38 : dY ≠ dF := hneL k_dY k_dF (Nat.ne_of_beq_eq_false rfl)
        have h37 : f8 dY = some (.inl (cI G, 3, .inl gl)) := by rw [ef8, va_up_ne _ _ n38]; exact h35
        have n40 : dG ≠ mo := hne k_dG k_mo (Nat.ne_of_beq_eq_false rfl)
        have h39 : f4 dG = some (.inl (cI G, 60, .inl (nf gv))) := by rw [ef4, va_up_ne _ _ n40]; exact k_dG
        have n42 : dG ≠ dF := hneL k_dG k_dF (Nat.ne_of_beq_eq_false rfl)
        have h41 : f8 dG = some (.inl (cI G, 60, .inl (nf gv))) := by rw [ef8, va_up_ne _ _ n42]; exact h39
        have n44 : dQ ≠ mo := hne k_dQ k_mo (Nat.ne_of_beq_eq_false rfl)
        have h43 : f4 dQ = some (.inl (cI G, 12, .inl gQ)) := by rw [ef4, va_up_ne _ _ n44]; exact k_dQ
        have n46 : dQ ≠ dF := hneL k_dQ k_dF (Nat.ne_of_beq_eq_false rfl)
        have h45 : f8 dQ = some (.inl (cI G, 12, .inl gQ)) := by rw [ef8, va_up_ne _ _ n46]; exact h43
        have n48 : dS ≠ mo := hne k_dS k_mo (Nat.ne_of_beq_eq_false rfl)
        have h47 : f4 dS = some (.inl (cI G, 2, .inl gS)) := by rw [ef4, va_up_ne _ _ n48]; exact k_dS
        have n50 : dS ≠ dF := hneL k_dS k_dF (Nat.ne_of_beq_eq_false rfl)
        have h49 : f8 dS = some (.inl (cI G, 2, .inl gS)) := by rw [ef8, va_up_ne _ _ n50]; exact h47
        have n52 : dL ≠ mo := hne k_dL k_mo (Nat.ne_of_beq_eq_false rfl)
        have h51 : f4 dL = some (.inl (cI G, 2, .inl gL)) := by rw [ef4, va_up_ne _ _ n52]; exact k_dL
        have n54 : dL ≠ dF := hneL k_dL k_dF (Nat.ne_of_beq_eq_false rfl)
        have h53 : f8 dL = some (.inl (cI G, 2, .inl gL)) := by rw [ef8, va_up_ne _ _ n54]; exact h51
        have n56 : dR ≠ mo := hne k_dR k_mo (Nat.ne_of_beq_eq_false rfl)
        have h55 : f4 dR = some (.inl (cI G, 2, .inl gR)) := by rw [ef4, va_up_ne _ _ n56]; exact k_dR
        have n58 : dR ≠ dF := hneL k_dR k_dF (Nat.ne_of_beq_eq_false rfl)
        have h57 : f8 dR = some (.inl (cI G, 2, .inl gR)) := by rw [ef8, va_up_ne _ _ n58]; exact h55
        have n60 : dT ≠ mo := hne k_dT k_mo (Nat.ne_of_beq_eq_false rfl)
        have h59 : f4 dT = some (.inl (cI G, 2, .inl gT)) := by rw [ef4, va_up_ne _ _ n60]; exact k_dT
        have n62 : dT ≠ dF := hneL k_dT k_dF (Nat.ne_of_beq_eq_false rfl)
        have h61 : f8 dT = some (.inl (cI G, 2, .inl gT)) := by rw [ef8, va_up_ne _ _ n62]; exact h59
        have n64 : dZ ≠ mo := hne k_dZ k_mo (Nat.ne_of_beq_eq_false rfl)
        have h63 : f4 dZ = some (.inl (cZ G, 2, .inl gZ)) := by rw [ef4, va_up_ne _ _ n64]; exact k_dZ
        have n66 : dZ ≠ dF := hneL k_dZ k_dF (Nat.ne_of_beq_eq_false rfl)
        have h65 : f8 dZ = some (.inl (cZ G, 2, .inl gZ)) := by rw [ef8, va_up_ne _ _ n66]; exact h63
        have n68 : dI ≠ mo := hne k_dI k_mo (Nat.ne_of_beq_eq_false rfl)
        have h67 : f4 dI = some (.inl (cI G, 2, .inl gI)) := by rw [ef4, va_up_ne _ _ n68]; exact k_dI
        have n70 : dI ≠ dF := hneL k_dI k_dF (Nat.ne_of_beq_eq_false rfl)
        have h69 : f8 dI = some (.inl (cI G, 2, .inl gI)) := by rw [ef8, va_up_ne _ _ n70]; exact h67
        have n72 : dH ≠ mo := hne k_dH k_mo (Nat.ne_of_beq_eq_false rfl)
        have h71 : f4 dH = some (.inl (cI G, 2, .inl gH)) := by rw [ef4, va_up_ne _ _ n72]; exact k_dH
        have n74 : dH ≠ dF := hneL k_dH k_dF (Nat.ne_of_beq_eq_false rfl)
        have h73 : f8 dH = some (.inl (cI G, 2, .inl gH)) := by rw [ef8, va_up_ne _ _ n74]; exact h71
        have n76 : dN ≠ mo := hne k_dN k_mo (Nat.ne_of_beq_eq_false rfl)
        have h75 : f4 dN = some (.inl (cI G, 2, .inl gN)) := by rw [ef4, va_up_ne _ _ n76]; exact k_dN
        have n78 : dN ≠ dF := hneL k_dN k_dF (Nat.ne_of_beq_eq_false rfl)
        have h77 : f8 dN = some (.inl (cI G, 2, .inl gN)) := by rw [ef8, va_up_ne _ _ n78]; exact h75
        have n80 : dK ≠ mo := hne k_dK k_mo (Nat.ne_of_beq_eq_false rfl)
        have h79 : f4 dK = some (.inl (cI G, 2048, .inl gK)) := by rw [ef4, va_up_ne _ _ n80]; exact k_dK
        have n82 : dK ≠ dF := hneL k_dK k_dF (Nat.ne_of_beq_eq_false rfl)
        have h81 : f8 dK = some (.inl (cI G, 2048, .inl gK)) := by rw [ef8, va_up_ne _ _ n82]; exact h79
        have n84 : dJ ≠ mo := hne k_dJ k_mo (Nat.ne_of_beq_eq_false rfl)
        have h83 : f4 dJ = some (.inl (cI G, 2048, .inl gJ)) := by rw [ef4, va_up_ne _ _ n84]; exact k_dJ
        have n86 : dJ ≠ dF := hneL k_dJ k_dF (Nat.ne_of_beq_eq_false rfl)
        have h85 : f8 dJ = some (.inl (cI G, 2048, .inl gJ)) := by rw [ef8, va_up_ne _ _ n86]; exact h83
        have n88 : dU ≠ mo := hne k_dU k_mo (Nat.ne_of_beq_eq_false rfl)
        have h87 : f4 dU = some (.inl (cI G, 2048, .inl gU)) := by rw [ef4, va_up_ne _ _ n88]; exact k_dU
        have n90 : dU ≠ dF := hneL k_dU k_dF (Nat.ne_of_beq_eq_false rfl)
        have h89 : f8 dU = some (.inl (cI G, 2048, .inl gU)) := by rw [ef8, va_up_ne _ _ n90]; exact h87
        have n92 : dO ≠ mo := hne k_dO k_mo (Nat.ne_of_beq_eq_false rfl)
        have h91 : f4 dO = some (.inl (cI G, 2048, .inl gO)) := by rw [ef4, va_up_ne _ _ n92]; exact k_dO
        have n94 : dO ≠ dF := hneL k_dO k_dF (Nat.ne_of_beq_eq_false rfl)
        have h93 : f8 dO = some (.inl (cI G, 2048, .inl gO)) := by rw [ef8, va_up_ne _ _ n94]; exact h91
        refine hp_for (nL := 4) (pc := 57) (fun j f9 lv9 => (f9 dP = some (.inl (cI G, 240, .inl (nf (pkA pk n a j)))) ∧ hEq [dP] f8 f9) ∧ lv9 = [(3, .int (nI j)), (0, .ref mo), (1, .int (nI k)), (2, .int (nI a))]) k (fun j f9 lv9 H locs ls hj hI hw hS hl9 ih => ?_) (fun f9 lv9 H locs ls hI hw hS hl9 => ?_) k 0 (by omega) f8 _ _ _ ls ⟨⟨(by rw [pkA_0]; exact h25), hEq.rf⟩, rfl⟩ hw hS (lv_sub hl9 [0, 2, 3, 1] rfl)
        · obtain ⟨⟨hp9, hk9⟩, el9⟩ := hI
          rw [el9] at hl9
          refine lv_iload_n hx hb dX5_send_57 rfl (lv_at hl9 0 rfl) ?_
          refine lv_iload_n hx hb dX5_send_58 rfl (lv_at hl9 2 rfl) ?_
          refine lv_icmp_ge (tgt := 80) hx hb dX5_send_59 (by decide) (fun c9 => absurd c9 (nI_ge hj (by omega))) (fun _ => ?_)
          refine lv_aload_n hx hb dX5_send_62 rfl (lv_at hl9 1 rfl) ?_
          have h95 : f9 mo = some (.inr (5, [.int 0, .ref dW, .ref dA, .ref dQ, .ref dM, .ref dS, .ref dL, .ref dR, .ref dT, .ref dZ, .ref dI, .ref dH, .ref dN, .ref dK, .ref dJ, .ref dU, .ref dO, .int (nI n), .int (nI a), .ref dF, .ref dP, .ref dE, .ref dX, .ref dY, .int (nI x), .int (nI cg), .ref dG])) := (hEq.k hk9) _ _ h10 (ninc (Ne.symm n24) nin0)
          refine hp_get B0 hw 5 rfl in_X5 h95 20 (by decide) qF_X5_62 rfl dX5_send_63 ?_
          refine lv_iload_n hx hb dX5_send_66 rfl (lv_at hl9 3 rfl) ?_
          refine lv_iload_n hx hb dX5_send_67 rfl (lv_at hl9 0 rfl) ?_
          refine lv_iadd hx hb dX5_send_68 ?_
          refine hp_c (v := (nI (a + j))) (nI_add a j) ?_
          refine lv_aload_n hx hb dX5_send_69 rfl (lv_at hl9 1 rfl) ?_
          refine hp_get B0 hw 5 rfl in_X5 h95 17 (by decide) qF_X5_136 rfl dX5_send_70 ?_
          refine hp_iast B0 hw hS hp9 (vp_in_nI (show a + j < 240 by omega) (by decide)) dX5_send_73 (fun H locs f96 ef96 hw hS => ?_)
          rw [show (upd (nf (pkA pk n a j)) ((nI (a + j)) : Int32).toNatClampNeg (nI n) : Nat → Int32) = (nf (pkA pk n a (j + 1))) from (by rw [nI_clamp (by omega), nf_up, pkA_up])] at ef96
          have h97 : f96 dP = some (.inl (cI G, 240, .inl (nf (pkA pk n a (j + 1))))) := by rw [ef96, va_up_self]
          refine lv_iinc (v := (nI (j + 1))) (lv' := [(3, .int (nI (j + 1))), (0, .ref mo), (1, .int (nI k)), (2, .int (nI a))]) hx hb dX5_send_74 hl9 (k := 0) rfl (nI_1 j) (by decide) rfl (fun ls hl9 => ?_)
          refine lv_goto (tgt := 57) hx hb dX5_send_77 (by decide) ?_
          exact ih _ _ H locs ls ⟨⟨h97, hk9.tr (show hEq [dP] f9 f96 from (by rw [ef96]; exact hEq.up List.mem_cons_self))⟩, rfl⟩ hw hS (lv_sub hl9 [0, 1, 2, 3] rfl)
        · obtain ⟨⟨hp9, hk9⟩, el9⟩ := hI
          rw [el9] at hl9
          refine lv_iload_n hx hb dX5_send_57 rfl (lv_at hl9 0 rfl) ?_
          refine lv_iload_n hx hb dX5_send_58 rfl (lv_at hl9 2 rfl) ?_
          refine lv_icmp_ge (tgt := 80) hx hb dX5_send_59 (by decide) (fun _ => ?_) (fun c9 => absurd (nI_le (Nat.le_refl _) (by omega)) c9)
          refine lv_aload_n hx hb dX5_send_80 rfl (lv_at hl9 1 rfl) ?_
          refine lv_dup hx hb dX5_send_81 rfl ?_
          have h98 : f9 mo = some (.inr (5, [.int 0, .ref dW, .ref dA, .ref dQ, .ref dM, .ref dS, .ref dL, .ref dR, .ref dT, .ref dZ, .ref dI, .ref dH, .ref dN, .ref dK, .ref dJ, .ref dU, .ref dO, .int (nI n), .int (nI a), .ref dF, .ref dP, .ref dE, .ref dX, .ref dY, .int (nI x), .int (nI cg), .ref dG])) := (hEq.k hk9) _ _ h10 (ninc (Ne.symm n24) nin0)
          refine hp_get B0 hw 5 rfl in_X5 h98 18 (by decide) qF_X5_139 rfl dX5_send_82 ?_
          refine lv_iload_n hx hb dX5_send_85 rfl (lv_at hl9 2 rfl) ?_
          refine lv_iadd hx hb dX5_send_86 ?_
          refine hp_c (v := (nI (a + k))) (nI_add a k) ?_
          refine hp_put (fs1 := [.int 0, .ref dW, .ref dA, .ref dQ, .ref dM, .ref dS, .ref dL, .ref dR, .ref dT, .ref dZ, .ref dI, .ref dH, .ref dN, .ref dK, .ref dJ, .ref dU, .ref dO, .int (nI n), .int (nI (a + k)), .ref dF, .ref dP, .ref dE, .ref dX, .ref dY, .int (nI x), .int (nI cg), .ref dG]) (ty := .int) B0 hw hS 5 rfl in_X5 tyX5 tyX5_ok nmX5 h98 18 (by decide) qF_X5_139 rfl (by decide +kernel) rfl rfl (Nat.le_of_ble_eq_true rfl) rfl dX5_send_87 (fun H locs f99 ef99 hw hS => ?_)
          have h100 : f99 mo = some (.inr (5, [.int 0, .ref dW, .ref dA, .ref dQ, .ref dM, .ref dS, .ref dL, .ref dR, .ref dT, .ref dZ, .ref dI, .ref dH, .ref dN, .ref dK, .ref dJ, .ref dU, .ref dO, .int (nI n), .int (nI (a + k)), .ref dF, .ref dP, .ref dE, .ref dX, .ref dY, .int (nI x), .int (nI cg), .ref dG])) := by rw [ef99, va_up_self]
          refine lv_aload_n hx hb dX5_send_90 rfl (lv_at hl9 1 rfl) ?_
          refine lv_dup hx hb dX5_send_91 rfl ?_
          refine hp_get B0 hw 5 rfl in_X5 h100 17 (by decide) qF_X5_136 rfl dX5_send_92 ?_
          refine lv_iconst (v := 1) hx hb dX5_send_95 (by decide) ?_
          refine lv_iadd hx hb dX5_send_96 ?_
          refine hp_c (v := (nI (n + 1))) (nI_1 n) ?_
          refine hp_put (fs1 := [.int 0, .ref dW, .ref dA, .ref dQ, .ref dM, .ref dS, .ref dL, .ref dR, .ref dT, .ref dZ, .ref dI, .ref dH, .ref dN, .ref dK, .ref dJ, .ref dU, .ref dO, .int (nI (n + 1)), .int (nI (a + k)), .ref dF, .ref dP, .ref dE, .ref dX, .ref dY, .int (nI x), .int (nI cg), .ref dG]) (ty := .int) B0 hw hS 5 rfl in_X5 tyX5 tyX5_ok nmX5 h100 17 (by decide) qF_X5_136 rfl (by decide +kernel) rfl rfl (Nat.le_of_ble_eq_true rfl) rfl dX5_send_97 (fun H locs f101 ef101 hw hS => ?_)
          have e102 : f101 = va_up f9 mo (some (.inr (5, [.int 0, .ref dW, .ref dA, .ref dQ, .ref dM, .ref dS, .ref dL, .ref dR, .ref dT, .ref dZ, .ref dI, .ref dH, .ref dN, .ref dK, .ref dJ, .ref dU, .ref dO, .int (nI (n + 1)), .int (nI (a + k)), .ref dF, .ref dP, .ref dE, .ref dX, .ref dY, .int (nI x), .int (nI cg), .ref dG]))) := by rw [ef101, ef99, bx_uu]
          have h103 : f101 mo = some (.inr (5, [.int 0, .ref dW, .ref dA, .ref dQ, .ref dM, .ref dS, .ref dL, .ref dR, .ref dT, .ref dZ, .ref dI, .ref dH, .ref dN, .ref dK, .ref dJ, .ref dU, .ref dO, .int (nI (n + 1)), .int (nI (a + k)), .ref dF, .ref dP, .ref dE, .ref dX, .ref dY, .int (nI x), .int (nI cg), .ref dG])) := by rw [ef101, va_up_self]
          refine lv_aload_n hx hb dX5_send_100 rfl (lv_at hl9 1 rfl) ?_
          refine hp_get B0 hw 5 rfl in_X5 h103 19 (by decide) qF_X5_59 rfl dX5_send_101 ?_
          refine lv_aload_n hx hb dX5_send_104 rfl (lv_at hl9 1 rfl) ?_
          refine hp_get B0 hw 5 rfl in_X5 h103 17 (by decide) qF_X5_136 rfl dX5_send_105 ?_
          refine lv_aload_n hx hb dX5_send_108 rfl (lv_at hl9 1 rfl) ?_
          refine hp_get B0 hw 5 rfl in_X5 h103 18 (by decide) qF_X5_139 rfl dX5_send_109 ?_
          have h104 : f9 dF = some (.inl (cI G, 61, .inl (nf sa))) := (hEq.k hk9) _ _ h9 (ninc (Ne.symm n26) nin0)
          have h105 : f101 dF = some (.inl (cI G, 61, .inl (nf sa))) := by rw [e102, va_up_ne _ _ n7]; exact h104
          refine hp_iast B0 hw hS h105 (vp_in_nI (show n + 1 < 61 by omega) (by decide)) dX5_send_112 (fun H locs f106 ef106 hw hS => ?_)
          rw [show (upd (nf sa) ((nI (n + 1)) : Int32).toNatClampNeg (nI (a + k)) : Nat → Int32) = (nf (va_up sa (n + 1) (a + k))) from (by rw [nI_clamp (by omega), nf_up])] at ef106
          have h107 : f106 dF = some (.inl (cI G, 61, .inl (nf (va_up sa (n + 1) (a + k))))) := by rw [ef106, va_up_self]
          refine lv_iload_n hx hb dX5_send_113 rfl (lv_at hl9 3 rfl) ?_
          have h108 : f106 mo = some (.inr (5, [.int 0, .ref dW, .ref dA, .ref dQ, .ref dM, .ref dS, .ref dL, .ref dR, .ref dT, .ref dZ, .ref dI, .ref dH, .ref dN, .ref dK, .ref dJ, .ref dU, .ref dO, .int (nI (n + 1)), .int (nI (a + k)), .ref dF, .ref dP, .ref dE, .ref dX, .ref dY, .int (nI x), .int (nI cg), .ref dG])) := by rw [ef106, va_up_ne _ _ (Ne.symm n7)]; exact h103
          have n110 : dQ ≠ dP := hneL k_dQ k_dP (Nat.ne_of_beq_eq_false rfl)
          have h109 : f9 dQ = some (.inl (cI G, 12, .inl gQ)) := (hEq.k hk9) _ _ h45 (ninc n110 nin0)
          have h111 : f101 dQ = some (.inl (cI G, 12, .inl gQ)) := by rw [e102, va_up_ne _ _ n44]; exact h109
          have h112 : f106 dQ = some (.inl (cI G, 12, .inl gQ)) := by rw [ef106, va_up_ne _ _ n46]; exact h111
          have n114 : dS ≠ dP := hneL k_dS k_dP (Nat.ne_of_beq_eq_false rfl)
          have h113 : f9 dS = some (.inl (cI G, 2, .inl gS)) := (hEq.k hk9) _ _ h49 (ninc n114 nin0)
          have h115 : f101 dS = some (.inl (cI G, 2, .inl gS)) := by rw [e102, va_up_ne _ _ n48]; exact h113
          have h116 : f106 dS = some (.inl (cI G, 2, .inl gS)) := by rw [ef106, va_up_ne _ _ n50]; exact h115
          have n118 : dL ≠ dP := hneL k_dL k_dP (Nat.ne_of_beq_eq_false rfl)
          have h117 : f9 dL = some (.inl (cI G, 2, .inl gL)) := (hEq.k hk9) _ _ h53 (ninc n118 nin0)
          have h119 : f101 dL = some (.inl (cI G, 2, .inl gL)) := by rw [e102, va_up_ne _ _ n52]; exact h117
          have h120 : f106 dL = some (.inl (cI G, 2, .inl gL)) := by rw [ef106, va_up_ne _ _ n54]; exact h119
          have n122 : dR ≠ dP := hneL k_dR k_dP (Nat.ne_of_beq_eq_false rfl)
          have h121 : f9 dR = some (.inl (cI G, 2, .inl gR)) := (hEq.k hk9) _ _ h57 (ninc n122 nin0)
          have h123 : f101 dR = some (.inl (cI G, 2, .inl gR)) := by rw [e102, va_up_ne _ _ n56]; exact h121
          have h124 : f106 dR = some (.inl (cI G, 2, .inl gR)) := by rw [ef106, va_up_ne _ _ n58]; exact h123
          have n126 : dT ≠ dP := hneL k_dT k_dP (Nat.ne_of_beq_eq_false rfl)
          have h125 : f9 dT = some (.inl (cI G, 2, .inl gT)) := (hEq.k hk9) _ _ h61 (ninc n126 nin0)
          have h127 : f101 dT = some (.inl (cI G, 2, .inl gT)) := by rw [e102, va_up_ne _ _ n60]; exact h125
          have h128 : f106 dT = some (.inl (cI G, 2, .inl gT)) := by rw [ef106, va_up_ne _ _ n62]; exact h127
          have n130 : dZ ≠ dP := hneL k_dZ k_dP (Nat.ne_of_beq_eq_false rfl)
          have h129 : f9 dZ = some (.inl (cZ G, 2, .inl gZ)) := (hEq.k hk9) _ _ h65 (ninc n130 nin0)
          have h131 : f101 dZ = some (.inl (cZ G, 2, .inl gZ)) := by rw [e102, va_up_ne _ _ n64]; exact h129
          have h132 : f106 dZ = some (.inl (cZ G, 2, .inl gZ)) := by rw [ef106, va_up_ne _ _ n66]; exact h131
          have n134 : dI ≠ dP := hneL k_dI k_dP (Nat.ne_of_beq_eq_false rfl)
          have h133 : f9 dI = some (.inl (cI G, 2, .inl gI)) := (hEq.k hk9) _ _ h69 (ninc n134 nin0)
          have h135 : f101 dI = some (.inl (cI G, 2, .inl gI)) := by rw [e102, va_up_ne _ _ n68]; exact h133
          have h136 : f106 dI = some (.inl (cI G, 2, .inl gI)) := by rw [ef106, va_up_ne _ _ n70]; exact h135
          have n138 : dH ≠ dP := hneL k_dH k_dP (Nat.ne_of_beq_eq_false rfl)
          have h137 : f9 dH = some (.inl (cI G, 2, .inl gH)) := (hEq.k hk9) _ _ h73 (ninc n138 nin0)
          have h139 : f101 dH = some (.inl (cI G, 2, .inl gH)) := by rw [e102, va_up_ne _ _ n72]; exact h137
          have h140 : f106 dH = some (.inl (cI G, 2, .inl gH)) := by rw [ef106, va_up_ne _ _ n74]; exact h139
          have n142 : dN ≠ dP := hneL k_dN k_dP (Nat.ne_of_beq_eq_false rfl)
          have h141 : f9 dN = some (.inl (cI G, 2, .inl gN)) := (hEq.k hk9) _ _ h77 (ninc n142 nin0)
          have h143 : f101 dN = some (.inl (cI G, 2, .inl gN)) := by rw [e102, va_up_ne _ _ n76]; exact h141
          have h144 : f106 dN = some (.inl (cI G, 2, .inl gN)) := by rw [ef106, va_up_ne _ _ n78]; exact h143
          have n146 : dK ≠ dP := hneL k_dK k_dP (Nat.ne_of_beq_eq_false rfl)
          have h145 : f9 dK = some (.inl (cI G, 2048, .inl gK)) := (hEq.k hk9) _ _ h81 (ninc n146 nin0)
          have h147 : f101 dK = some (.inl (cI G, 2048, .inl gK)) := by rw [e102, va_up_ne _ _ n80]; exact h145
          have h148 : f106 dK = some (.inl (cI G, 2048, .inl gK)) := by rw [ef106, va_up_ne _ _ n82]; exact h147
          have n150 : dJ ≠ dP := hneL k_dJ k_dP (Nat.ne_of_beq_eq_false rfl)
          have h149 : f9 dJ = some (.inl (cI G, 2048, .inl gJ)) := (hEq.k hk9) _ _ h85 (ninc n150 nin0)
          have h151 : f101 dJ = some (.inl (cI G, 2048, .inl gJ)) := by rw [e102, va_up_ne _ _ n84]; exact h149
          have h152 : f106 dJ = some (.inl (cI G, 2048, .inl gJ)) := by rw [ef106, va_up_ne _ _ n86]; exact h151
          have n154 : dU ≠ dP := hneL k_dU k_dP (Nat.ne_of_beq_eq_false rfl)
          have h153 : f9 dU = some (.inl (cI G, 2048, .inl gU)) := (hEq.k hk9) _ _ h89 (ninc n154 nin0)
          have h155 : f101 dU = some (.inl (cI G, 2048, .inl gU)) := by rw [e102, va_up_ne _ _ n88]; exact h153
          have h156 : f106 dU = some (.inl (cI G, 2048, .inl gU)) := by rw [ef106, va_up_ne _ _ n90]; exact h155
          have n158 : dO ≠ dP := hneL k_dO k_dP (Nat.ne_of_beq_eq_false rfl)
          have h157 : f9 dO = some (.inl (cI G, 2048, .inl gO)) := (hEq.k hk9) _ _ h93 (ninc n158 nin0)
          have h159 : f101 dO = some (.inl (cI G, 2048, .inl gO)) := by rw [e102, va_up_ne _ _ n92]; exact h157
          have h160 : f106 dO = some (.inl (cI G, 2048, .inl gO)) := by rw [ef106, va_up_ne _ _ n94]; exact h159
          have n162 : dW ≠ dP := hneL k_dW k_dP (Nat.ne_of_beq_eq_false rfl)
          have h161 : f9 dW = some (.inl (cI G, 12, .inl (jn gw0 gw1))) := (hEq.k hk9) _ _ h13 (ninc n162 nin0)
          have h163 : f101 dW = some (.inl (cI G, 12, .inl (jn gw0 gw1))) := by rw [e102, va_up_ne _ _ n12]; exact h161
          have h164 : f106 dW = some (.inl (cI G, 12, .inl (jn gw0 gw1))) := by rw [ef106, va_up_ne _ _ n14]; exact h163
          have n166 : dA ≠ dP := hneL k_dA k_dP (Nat.ne_of_beq_eq_false rfl)
          have h165 : f9 dA = some (.inl (cI G, 12, .inl (jn ga0 ga1))) := (hEq.k hk9) _ _ h17 (ninc n166 nin0)
          have h167 : f101 dA = some (.inl (cI G, 12, .inl (jn ga0 ga1))) := by rw [e102, va_up_ne _ _ n16]; exact h165
          have h168 : f106 dA = some (.inl (cI G, 12, .inl (jn ga0 ga1))) := by rw [ef106, va_up_ne _ _ n18]; exact h167
          have n170 : dM ≠ dP := hneL k_dM k_dP (Nat.ne_of_beq_eq_false rfl)
          have h169 : f9 dM = some (.inl (cI G, 2, .inl (mA2 mg0 mg1))) := (hEq.k hk9) _ _ h21 (ninc n170 nin0)
          have h171 : f101 dM = some (.inl (cI G, 2, .inl (mA2 mg0 mg1))) := by rw [e102, va_up_ne _ _ n20]; exact h169
          have h172 : f106 dM = some (.inl (cI G, 2, .inl (mA2 mg0 mg1))) := by rw [ef106, va_up_ne _ _ n22]; exact h171
          have h173 : f101 dP = some (.inl (cI G, 240, .inl (nf (pkA pk n a k)))) := by rw [e102, va_up_ne _ _ n24]; exact hp9
          have h174 : f106 dP = some (.inl (cI G, 240, .inl (nf (pkA pk n a k)))) := by rw [ef106, va_up_ne _ _ n26]; exact h173
          have h175 : f9 dE = some (.inl (cZ G, 240, .inl gh)) := (hEq.k hk9) _ _ h29 (ninc (Ne.symm nd_dP_dE) nin0)
          have h176 : f101 dE = some (.inl (cZ G, 240, .inl gh)) := by rw [e102, va_up_ne _ _ n28]; exact h175
          have h177 : f106 dE = some (.inl (cZ G, 240, .inl gh)) := by rw [ef106, va_up_ne _ _ n30]; exact h176
          have n179 : dX ≠ dP := hneL k_dX k_dP (Nat.ne_of_beq_eq_false rfl)
          have h178 : f9 dX = some (.inl (cI G, 3, .inl (nf fl))) := (hEq.k hk9) _ _ h33 (ninc n179 nin0)
          have h180 : f101 dX = some (.inl (cI G, 3, .inl (nf fl))) := by rw [e102, va_up_ne _ _ n32]; exact h178
          have h181 : f106 dX = some (.inl (cI G, 3, .inl (nf fl))) := by rw [ef106, va_up_ne _ _ n34]; exact h180
          have n183 : dY ≠ dP := hneL k_dY k_dP (Nat.ne_of_beq_eq_false rfl)
          have h182 : f9 dY = some (.inl (cI G, 3, .inl gl)) := (hEq.k hk9) _ _ h37 (ninc n183 nin0)
          have h184 : f101 dY = some (.inl (cI G, 3, .inl gl)) := by rw [e102, va_up_ne _ _ n36]; exact h182
          have h185 : f106 dY = some (.inl (cI G, 3, .inl gl)) := by rw [ef106, va_up_ne _ _ n38]; exact h184
          have n187 : dG ≠ dP := hneL k_dG k_dP (Nat.ne_of_beq_eq_false rfl)
          have h186 : f9 dG = some (.inl (cI G, 60, .inl (nf gv))) := (hEq.k hk9) _ _ h41 (ninc n187 nin0)
          have h188 : f101 dG = some (.inl (cI G, 60, .inl (nf gv))) := by rw [e102, va_up_ne _ _ n40]; exact h186
          have h189 : f106 dG = some (.inl (cI G, 60, .inl (nf gv))) := by rw [ef106, va_up_ne _ _ n42]; exact h188
          exact hp_iret (v := (nI a)) B0 hw hS hr ⟨Nat.le_of_ble_eq_true rfl, Nat.le_of_ble_eq_true rfl⟩ dX5_send_114 (⟨Or.inl ⟨spc_0 hsP hn, rfl, ⟨(by rw [nI_clamp (show k < 2 ^ 31 by omega)]; exact h108), hND, ⟨_, _, _, _, _, _, _, _, _, _, _, _, _, h112, h116, h120, h124, h128, h132, h136, h140, h144, h148, h152, h156, h160, hHd9, (hMn.mono hMn9 (by omega))⟩, h164, h168, h172, (by rw [nI_clamp (show k < 2 ^ 31 by omega)]; exact h107), (by rw [nI_clamp (show k < 2 ^ 31 by omega)]; exact h174), h177, h181, h185, h189, hSA, (by rw [nI_clamp (show k < 2 ^ 31 by omega)]; exact hB9.add hn hk1 hk4), hfl9⟩⟩, ((show hEq [mo, dW, dA, dQ, dM, dS, dL, dR, dT, dZ, dI, dH, dN, dK, dJ, dU, dO, dF, dP, dE, dX, dY, dG] f f4 from (by rw [ef4]; exact hEq.up List.mem_cons_self)).tr ((show hEq [mo, dW, dA, dQ, dM, dS, dL, dR, dT, dZ, dI, dH, dN, dK, dJ, dU, dO, dF, dP, dE, dX, dY, dG] f4 f8 from (by rw [ef8]; exact hEq.up (List.mem_cons_of_mem _ (List.mem_cons_of_mem _ (List.mem_cons_of_mem _ (List.mem_cons_of_mem _ (List.mem_cons_of_mem _ (List.mem_cons_of_mem _ (List.mem_cons_of_mem _ (List.mem_cons_of_mem _ (List.mem_cons_of_mem _ (List.mem_cons_of_mem _ (List.mem_cons_of_mem _ (List.mem_cons_of_mem _ (List.mem_cons_of_mem _ (List.mem_cons_of_mem _ (List.mem_cons_of_mem _ (List.mem_cons_of_mem _ (List.mem_cons_of_mem _ List.mem_cons_self))))))))))))))))))).tr ((show hEq [mo, dW, dA, dQ, dM, dS, dL, dR, dT, dZ, dI, dH, dN, dK, dJ, dU, dO, dF, dP, dE, dX, dY, dG] f8 f9 from (hEq.mono hk9 (sub_cons (List.mem_cons_of_mem _ (List.mem_cons_of_mem _ (List.mem_cons_of_mem _ (List.mem_cons_of_mem _ (List.mem_cons_of_mem _ (List.mem_cons_of_mem _ (List.mem_cons_of_mem _ (List.mem_cons_of_mem _ (List.mem_cons_of_mem _ (List.mem_cons_of_mem _ (List.mem_cons_of_mem _ (List.mem_cons_of_mem _ (List.mem_cons_of_mem _ (List.mem_cons_of_mem _ (List.mem_cons_of_mem _ (List.mem_cons_of_mem _ (List.mem_cons_of_mem _ (List.mem_cons_of_mem _ List.mem_cons_self)))))))))))))))))) sub_nil))).tr ((show hEq [mo, dW, dA, dQ, dM, dS, dL, dR, dT, dZ, dI, dH, dN, dK, dJ, dU, dO, dF, dP, dE, dX, dY, dG] f9 f101 from (by rw [e102]; exact hEq.up List.mem_cons_self)).tr (show hEq [mo, dW, dA, dQ, dM, dS, dL, dR, dT, dZ, dI, dH, dN, dK, dJ, dU, dO, dF, dP, dE, dX, dY, dG] f101 f106 from (by rw [ef106]; exact hEq.up (List.mem_cons_of_mem _ (List.mem_cons_of_mem _ (List.mem_cons_of_mem _ (List.mem_cons_of_mem _ (List.mem_cons_of_mem _ (List.mem_cons_of_mem _ (List.mem_cons_of_mem _ (List.mem_cons_of_mem _ (List.mem_cons_of_mem _ (List.mem_cons_of_mem _ (List.mem_cons_of_mem _ (List.mem_cons_of_mem _ (List.mem_cons_of_mem _ (List.mem_cons_of_mem _ (List.mem_cons_of_mem _ (List.mem_cons_of_mem _ (List.mem_cons_of_mem _ List.mem_cons_self)))))))))))))))))))))))⟩)
      · refine lv_iconst (v := 2) hx hb dX5_send_23 (by decide) ?_
        refine lv_goto (tgt := 28) hx hb dX5_send_24 (by decide) ?_
        refine hp_put (fs1 := [.int 2, .ref dW, .ref dA, .ref dQ, .ref dM, .ref dS, .ref dL, .ref dR, .ref dT, .ref dZ, .ref dI, .ref dH, .ref dN, .ref dK, .ref dJ, .ref dU, .ref dO, .int (nI n), .int (nI a), .ref dF, .ref dP, .ref dE, .ref dX, .ref dY, .int (nI x), .int (nI cg), .ref dG]) (ty := .int) B0 hw hS 5 rfl in_X5 tyX5 tyX5_ok nmX5 k_mo 0 (by decide) qF_X5_77 rfl (by decide +kernel) rfl rfl (Nat.le_of_ble_eq_true rfl) rfl dX5_send_28 (fun H locs f190 ef190 hw hS => ?_)
        have h191 : f190 mo = some (.inr (5, [.int 2, .ref dW, .ref dA, .ref dQ, .ref dM, .ref dS, .ref dL, .ref dR, .ref dT, .ref dZ, .ref dI, .ref dH, .ref dN, .ref dK, .ref dJ, .ref dU, .ref dO, .int (nI n), .int (nI a), .ref dF, .ref dP, .ref dE, .ref dX, .ref dY, .int (nI x), .int (nI cg), .ref dG])) := by rw [ef190, va_up_self]
        refine lv_aload_n hx hb dX5_send_31 rfl (lv_at hl9 0 rfl) ?_
        refine hp_get B0 hw 5 rfl in_X5 h191 0 (by decide) qF_X5_77 rfl dX5_send_32 ?_
        refine lv_if_le (tgt := 40) hx hb dX5_send_35 (by decide) (fun c9 => absurd c9 (by decide)) (fun _ => ?_)
        refine lv_iconst (v := 0) hx hb dX5_send_38 (by decide) ?_
        have hs9 : spc (sP xv) (n < 60) = 2 := spc_2 (by have h1 := b2; simp only [jlt, jle, tq0, tq1, tq2, tq3, tq4, tq5, tq6, tq9, tq50, tq60, tq1023, tqm1] at h1; exact ⟨by omega, by omega⟩) (fun h9 => by have h1 := (nI_eq (b := 60) (by omega) (by decide)).mp c3; omega)
        have n193 : dQ ≠ mo := hne k_dQ k_mo (Nat.ne_of_beq_eq_false rfl)
        have h192 : f190 dQ = some (.inl (cI G, 12, .inl gQ)) := by rw [ef190, va_up_ne _ _ n193]; exact k_dQ
        have n195 : dS ≠ mo := hne k_dS k_mo (Nat.ne_of_beq_eq_false rfl)
        have h194 : f190 dS = some (.inl (cI G, 2, .inl gS)) := by rw [ef190, va_up_ne _ _ n195]; exact k_dS
        have n197 : dL ≠ mo := hne k_dL k_mo (Nat.ne_of_beq_eq_false rfl)
        have h196 : f190 dL = some (.inl (cI G, 2, .inl gL)) := by rw [ef190, va_up_ne _ _ n197]; exact k_dL
        have n199 : dR ≠ mo := hne k_dR k_mo (Nat.ne_of_beq_eq_false rfl)
        have h198 : f190 dR = some (.inl (cI G, 2, .inl gR)) := by rw [ef190, va_up_ne _ _ n199]; exact k_dR
        have n201 : dT ≠ mo := hne k_dT k_mo (Nat.ne_of_beq_eq_false rfl)
        have h200 : f190 dT = some (.inl (cI G, 2, .inl gT)) := by rw [ef190, va_up_ne _ _ n201]; exact k_dT
        have n203 : dZ ≠ mo := hne k_dZ k_mo (Nat.ne_of_beq_eq_false rfl)
        have h202 : f190 dZ = some (.inl (cZ G, 2, .inl gZ)) := by rw [ef190, va_up_ne _ _ n203]; exact k_dZ
        have n205 : dI ≠ mo := hne k_dI k_mo (Nat.ne_of_beq_eq_false rfl)
        have h204 : f190 dI = some (.inl (cI G, 2, .inl gI)) := by rw [ef190, va_up_ne _ _ n205]; exact k_dI
        have n207 : dH ≠ mo := hne k_dH k_mo (Nat.ne_of_beq_eq_false rfl)
        have h206 : f190 dH = some (.inl (cI G, 2, .inl gH)) := by rw [ef190, va_up_ne _ _ n207]; exact k_dH
        have n209 : dN ≠ mo := hne k_dN k_mo (Nat.ne_of_beq_eq_false rfl)
        have h208 : f190 dN = some (.inl (cI G, 2, .inl gN)) := by rw [ef190, va_up_ne _ _ n209]; exact k_dN
        have n211 : dK ≠ mo := hne k_dK k_mo (Nat.ne_of_beq_eq_false rfl)
        have h210 : f190 dK = some (.inl (cI G, 2048, .inl gK)) := by rw [ef190, va_up_ne _ _ n211]; exact k_dK
        have n213 : dJ ≠ mo := hne k_dJ k_mo (Nat.ne_of_beq_eq_false rfl)
        have h212 : f190 dJ = some (.inl (cI G, 2048, .inl gJ)) := by rw [ef190, va_up_ne _ _ n213]; exact k_dJ
        have n215 : dU ≠ mo := hne k_dU k_mo (Nat.ne_of_beq_eq_false rfl)
        have h214 : f190 dU = some (.inl (cI G, 2048, .inl gU)) := by rw [ef190, va_up_ne _ _ n215]; exact k_dU
        have n217 : dO ≠ mo := hne k_dO k_mo (Nat.ne_of_beq_eq_false rfl)
        have h216 : f190 dO = some (.inl (cI G, 2048, .inl gO)) := by rw [ef190, va_up_ne _ _ n217]; exact k_dO
        have n219 : dW ≠ mo := hne k_dW k_mo (Nat.ne_of_beq_eq_false rfl)
        have h218 : f190 dW = some (.inl (cI G, 12, .inl (jn gw0 gw1))) := by rw [ef190, va_up_ne _ _ n219]; exact k_dW
        have n221 : dA ≠ mo := hne k_dA k_mo (Nat.ne_of_beq_eq_false rfl)
        have h220 : f190 dA = some (.inl (cI G, 12, .inl (jn ga0 ga1))) := by rw [ef190, va_up_ne _ _ n221]; exact k_dA
        have n223 : dM ≠ mo := hne k_dM k_mo (Nat.ne_of_beq_eq_false rfl)
        have h222 : f190 dM = some (.inl (cI G, 2, .inl (mA2 mg0 mg1))) := by rw [ef190, va_up_ne _ _ n223]; exact k_dM
        have n225 : dF ≠ mo := hne k_dF k_mo (Nat.ne_of_beq_eq_false rfl)
        have h224 : f190 dF = some (.inl (cI G, 61, .inl (nf sa))) := by rw [ef190, va_up_ne _ _ n225]; exact k_dF
        have n227 : dP ≠ mo := hne k_dP k_mo (Nat.ne_of_beq_eq_false rfl)
        have h226 : f190 dP = some (.inl (cI G, 240, .inl (nf pk))) := by rw [ef190, va_up_ne _ _ n227]; exact k_dP
        have n229 : dE ≠ mo := hne k_dE k_mo (Nat.ne_of_beq_eq_false rfl)
        have h228 : f190 dE = some (.inl (cZ G, 240, .inl gh)) := by rw [ef190, va_up_ne _ _ n229]; exact k_dE
        have n231 : dX ≠ mo := hne k_dX k_mo (Nat.ne_of_beq_eq_false rfl)
        have h230 : f190 dX = some (.inl (cI G, 3, .inl (nf fl))) := by rw [ef190, va_up_ne _ _ n231]; exact k_dX
        have n233 : dY ≠ mo := hne k_dY k_mo (Nat.ne_of_beq_eq_false rfl)
        have h232 : f190 dY = some (.inl (cI G, 3, .inl gl)) := by rw [ef190, va_up_ne _ _ n233]; exact k_dY
        have n235 : dG ≠ mo := hne k_dG k_mo (Nat.ne_of_beq_eq_false rfl)
        have h234 : f190 dG = some (.inl (cI G, 60, .inl (nf gv))) := by rw [ef190, va_up_ne _ _ n235]; exact k_dG
        exact hp_iret (v := 0) B0 hw hS hr ⟨Nat.le_of_ble_eq_true rfl, Nat.le_of_ble_eq_true rfl⟩ dX5_send_39 (⟨Or.inr ⟨(by rw [hs9]; decide), ⟨_, rfl⟩, ⟨(by rw [hs9]; exact h191), hND, ⟨_, _, _, _, _, _, _, _, _, _, _, _, _, h192, h194, h196, h198, h200, h202, h204, h206, h208, h210, h212, h214, h216, hHd9, (hMn.mono hMn9 (by omega))⟩, h218, h220, h222, h224, h226, h228, h230, h232, h234, hSA, hB9, hfl9⟩⟩, (show hEq [mo, dW, dA, dQ, dM, dS, dL, dR, dT, dZ, dI, dH, dN, dK, dJ, dU, dO, dF, dP, dE, dX, dY, dG] f f190 from (by rw [ef190]; exact hEq.up List.mem_cons_self))⟩)
    · subst ev9
      refine W.eq (g2 := F0 m 7 ls [.int 0, .ref mo]) rfl ?_
      refine lv_if_ne (tgt := 14) hx hb dX5_send_7 (by decide) (fun c9 => absurd (by decide) c9) (fun _ => ?_)
      refine lv_iconst (v := 1) hx hb dX5_send_10 (by decide) ?_
      refine lv_goto (tgt := 28) hx hb dX5_send_11 (by decide) ?_
      refine hp_put (fs1 := [.int 1, .ref dW, .ref dA, .ref dQ, .ref dM, .ref dS, .ref dL, .ref dR, .ref dT, .ref dZ, .ref dI, .ref dH, .ref dN, .ref dK, .ref dJ, .ref dU, .ref dO, .int (nI n), .int (nI a), .ref dF, .ref dP, .ref dE, .ref dX, .ref dY, .int (nI x), .int (nI cg), .ref dG]) (ty := .int) B0 hw hS 5 rfl in_X5 tyX5 tyX5_ok nmX5 k_mo 0 (by decide) qF_X5_77 rfl (by decide +kernel) rfl rfl (Nat.le_of_ble_eq_true rfl) rfl dX5_send_28 (fun H locs f236 ef236 hw hS => ?_)
      have h237 : f236 mo = some (.inr (5, [.int 1, .ref dW, .ref dA, .ref dQ, .ref dM, .ref dS, .ref dL, .ref dR, .ref dT, .ref dZ, .ref dI, .ref dH, .ref dN, .ref dK, .ref dJ, .ref dU, .ref dO, .int (nI n), .int (nI a), .ref dF, .ref dP, .ref dE, .ref dX, .ref dY, .int (nI x), .int (nI cg), .ref dG])) := by rw [ef236, va_up_self]
      refine lv_aload_n hx hb dX5_send_31 rfl (lv_at hl9 0 rfl) ?_
      refine hp_get B0 hw 5 rfl in_X5 h237 0 (by decide) qF_X5_77 rfl dX5_send_32 ?_
      refine lv_if_le (tgt := 40) hx hb dX5_send_35 (by decide) (fun c9 => absurd c9 (by decide)) (fun _ => ?_)
      refine lv_iconst (v := 0) hx hb dX5_send_38 (by decide) ?_
      have hs9 : spc (sP xv) (n < 60) = 1 := spc_1 (fun h9 => b2 (by simp only [jlt, jle, tq0, tq1, tq2, tq3, tq4, tq5, tq6, tq9, tq50, tq60, tq1023, tqm1]; exact ⟨by omega, by omega⟩))
      have n239 : dQ ≠ mo := hne k_dQ k_mo (Nat.ne_of_beq_eq_false rfl)
      have h238 : f236 dQ = some (.inl (cI G, 12, .inl gQ)) := by rw [ef236, va_up_ne _ _ n239]; exact k_dQ
      have n241 : dS ≠ mo := hne k_dS k_mo (Nat.ne_of_beq_eq_false rfl)
      have h240 : f236 dS = some (.inl (cI G, 2, .inl gS)) := by rw [ef236, va_up_ne _ _ n241]; exact k_dS
      have n243 : dL ≠ mo := hne k_dL k_mo (Nat.ne_of_beq_eq_false rfl)
      have h242 : f236 dL = some (.inl (cI G, 2, .inl gL)) := by rw [ef236, va_up_ne _ _ n243]; exact k_dL
      have n245 : dR ≠ mo := hne k_dR k_mo (Nat.ne_of_beq_eq_false rfl)
      have h244 : f236 dR = some (.inl (cI G, 2, .inl gR)) := by rw [ef236, va_up_ne _ _ n245]; exact k_dR
      have n247 : dT ≠ mo := hne k_dT k_mo (Nat.ne_of_beq_eq_false rfl)
      have h246 : f236 dT = some (.inl (cI G, 2, .inl gT)) := by rw [ef236, va_up_ne _ _ n247]; exact k_dT
      have n249 : dZ ≠ mo := hne k_dZ k_mo (Nat.ne_of_beq_eq_false rfl)
      have h248 : f236 dZ = some (.inl (cZ G, 2, .inl gZ)) := by rw [ef236, va_up_ne _ _ n249]; exact k_dZ
      have n251 : dI ≠ mo := hne k_dI k_mo (Nat.ne_of_beq_eq_false rfl)
      have h250 : f236 dI = some (.inl (cI G, 2, .inl gI)) := by rw [ef236, va_up_ne _ _ n251]; exact k_dI
      have n253 : dH ≠ mo := hne k_dH k_mo (Nat.ne_of_beq_eq_false rfl)
      have h252 : f236 dH = some (.inl (cI G, 2, .inl gH)) := by rw [ef236, va_up_ne _ _ n253]; exact k_dH
      have n255 : dN ≠ mo := hne k_dN k_mo (Nat.ne_of_beq_eq_false rfl)
      have h254 : f236 dN = some (.inl (cI G, 2, .inl gN)) := by rw [ef236, va_up_ne _ _ n255]; exact k_dN
      have n257 : dK ≠ mo := hne k_dK k_mo (Nat.ne_of_beq_eq_false rfl)
      have h256 : f236 dK = some (.inl (cI G, 2048, .inl gK)) := by rw [ef236, va_up_ne _ _ n257]; exact k_dK
      have n259 : dJ ≠ mo := hne k_dJ k_mo (Nat.ne_of_beq_eq_false rfl)
      have h258 : f236 dJ = some (.inl (cI G, 2048, .inl gJ)) := by rw [ef236, va_up_ne _ _ n259]; exact k_dJ
      have n261 : dU ≠ mo := hne k_dU k_mo (Nat.ne_of_beq_eq_false rfl)
      have h260 : f236 dU = some (.inl (cI G, 2048, .inl gU)) := by rw [ef236, va_up_ne _ _ n261]; exact k_dU
      have n263 : dO ≠ mo := hne k_dO k_mo (Nat.ne_of_beq_eq_false rfl)
      have h262 : f236 dO = some (.inl (cI G, 2048, .inl gO)) := by rw [ef236, va_up_ne _ _ n263]; exact k_dO
      have n265 : dW ≠ mo := hne k_dW k_mo (Nat.ne_of_beq_eq_false rfl)
      have h264 : f236 dW = some (.inl (cI G, 12, .inl (jn gw0 gw1))) := by rw [ef236, va_up_ne _ _ n265]; exact k_dW
      have n267 : dA ≠ mo := hne k_dA k_mo (Nat.ne_of_beq_eq_false rfl)
      have h266 : f236 dA = some (.inl (cI G, 12, .inl (jn ga0 ga1))) := by rw [ef236, va_up_ne _ _ n267]; exact k_dA
      have n269 : dM ≠ mo := hne k_dM k_mo (Nat.ne_of_beq_eq_false rfl)
      have h268 : f236 dM = some (.inl (cI G, 2, .inl (mA2 mg0 mg1))) := by rw [ef236, va_up_ne _ _ n269]; exact k_dM
      have n271 : dF ≠ mo := hne k_dF k_mo (Nat.ne_of_beq_eq_false rfl)
      have h270 : f236 dF = some (.inl (cI G, 61, .inl (nf sa))) := by rw [ef236, va_up_ne _ _ n271]; exact k_dF
      have n273 : dP ≠ mo := hne k_dP k_mo (Nat.ne_of_beq_eq_false rfl)
      have h272 : f236 dP = some (.inl (cI G, 240, .inl (nf pk))) := by rw [ef236, va_up_ne _ _ n273]; exact k_dP
      have n275 : dE ≠ mo := hne k_dE k_mo (Nat.ne_of_beq_eq_false rfl)
      have h274 : f236 dE = some (.inl (cZ G, 240, .inl gh)) := by rw [ef236, va_up_ne _ _ n275]; exact k_dE
      have n277 : dX ≠ mo := hne k_dX k_mo (Nat.ne_of_beq_eq_false rfl)
      have h276 : f236 dX = some (.inl (cI G, 3, .inl (nf fl))) := by rw [ef236, va_up_ne _ _ n277]; exact k_dX
      have n279 : dY ≠ mo := hne k_dY k_mo (Nat.ne_of_beq_eq_false rfl)
      have h278 : f236 dY = some (.inl (cI G, 3, .inl gl)) := by rw [ef236, va_up_ne _ _ n279]; exact k_dY
      have n281 : dG ≠ mo := hne k_dG k_mo (Nat.ne_of_beq_eq_false rfl)
      have h280 : f236 dG = some (.inl (cI G, 60, .inl (nf gv))) := by rw [ef236, va_up_ne _ _ n281]; exact k_dG
      exact hp_iret (v := 0) B0 hw hS hr ⟨Nat.le_of_ble_eq_true rfl, Nat.le_of_ble_eq_true rfl⟩ dX5_send_39 (⟨Or.inr ⟨(by rw [hs9]; decide), ⟨_, rfl⟩, ⟨(by rw [hs9]; exact h237), hND, ⟨_, _, _, _, _, _, _, _, _, _, _, _, _, h238, h240, h242, h244, h246, h248, h250, h252, h254, h256, h258, h260, h262, hHd9, (hMn.mono hMn9 (by omega))⟩, h264, h266, h268, h270, h272, h274, h276, h278, h280, hSA, hB9, hfl9⟩⟩, (show hEq [mo, dW, dA, dQ, dM, dS, dL, dR, dT, dZ, dI, dH, dN, dK, dJ, dU, dO, dF, dP, dE, dX, dY, dG] f f236 from (by rw [ef236]; exact hEq.up List.mem_cons_self))⟩)

set_option maxHeartbeats 4000000 in
set_option maxRecDepth 100000 in
theorem c_W5_given {l : Launch} (hl : l.stackTraces = false) (G : hG) (f : hM) (mo dW dA dQ dM dS dL dR dT dZ dI dH dN dK dJ dU dO dF dP dE dX dY dG : Nat) (th : Int32) (B : Nat) (gw0 : Nat → Int32) (ga0 : Nat → Int32) (gw1 : Nat → Int32) (ga1 : Nat → Int32) (mg0 : Int32) (mg1 : Int32) (n : Nat) (a : Nat) (cg : Nat) (x : Nat) (sa : Nat → Nat) (pk : Nat → Nat) (fl : Nat → Nat) (gv : Nat → Nat) (gh : Nat → Int32) (gl : Nat → Int32) (hC : MW G f mo dW dA dQ dM dS dL dR dT dZ dI dH dN dK dJ dU dO dF dP dE dX dY dG th B gw0 ga0 gw1 ga1 mg0 mg1 n a cg x sa pk fl gv gh gl) (hBB : B + 100 < 100000)  : CT l yX5_given (.code yX5_given cX5_given 1 (some .int)) 0 0 0 0 G [.ref mo] f (fun v f1 => v = some (.int (nI cg)) ∧ MW G f1 mo dW dA dQ dM dS dL dR dT dZ dI dH dN dK dJ dU dO dF dP dE dX dY dG 0 B gw0 ga0 gw1 ga1 mg0 mg1 n a cg x sa pk fl gv gh gl ∧ hEq [mo, dW, dA, dQ, dM, dS, dL, dR, dT, dZ, dI, dH, dN, dK, dJ, dU, dO, dF, dP, dE, dX, dY, dG] f f1) (fun E f1 => False) := by
  refine hp_start hl (own := RX5) (by decide) rfl (Nat.le_of_ble_eq_true rfl) ?_
  intro p e s m args below meth c B0 hr hnm hout hw hS ls hl9
  have hx := B0.1
  have hb := B0.2.1
  have hl9 : lv_has ls 1 [(0, .ref mo)] := hl9
  obtain ⟨k_mo, hND, hLM, k_dW, k_dA, k_dM, k_dF, k_dP, k_dE, k_dX, k_dY, k_dG, hSA, hB9, hfl9⟩ := id hC
  obtain ⟨nd_dW_dA, nd_dW_dQ, nd_dA_dQ, nd_dM_dS, nd_dM_dL, nd_dM_dR, nd_dM_dT, nd_dM_dZ, nd_dM_dI, nd_dM_dH, nd_dM_dN, nd_dS_dL, nd_dS_dR, nd_dS_dT, nd_dS_dZ, nd_dS_dI, nd_dS_dH, nd_dS_dN, nd_dL_dR, nd_dL_dT, nd_dL_dZ, nd_dL_dI, nd_dL_dH, nd_dL_dN, nd_dR_dT, nd_dR_dZ, nd_dR_dI, nd_dR_dH, nd_dR_dN, nd_dT_dZ, nd_dT_dI, nd_dT_dH, nd_dT_dN, nd_dZ_dI, nd_dZ_dH, nd_dZ_dN, nd_dI_dH, nd_dI_dN, nd_dH_dN, nd_dK_dJ, nd_dK_dU, nd_dK_dO, nd_dJ_dU, nd_dJ_dO, nd_dU_dO, nd_dP_dE, nd_dX_dY⟩ := id hND
  obtain ⟨gQ, gS, gL, gR, gT, gZ, gI, gH, gN, gK, gJ, gU, gO, k_dQ, k_dS, k_dL, k_dR, k_dT, k_dZ, k_dI, k_dH, k_dN, k_dK, k_dJ, k_dU, k_dO, hHd9, hMn9⟩ := id hLM
  refine lv_aload_n hx hb dX5_given_0 rfl (lv_at hl9 0 rfl) ?_
  refine lv_iconst (v := 0) hx hb dX5_given_1 (by decide) ?_
  refine hp_put (fs1 := [.int 0, .ref dW, .ref dA, .ref dQ, .ref dM, .ref dS, .ref dL, .ref dR, .ref dT, .ref dZ, .ref dI, .ref dH, .ref dN, .ref dK, .ref dJ, .ref dU, .ref dO, .int (nI n), .int (nI a), .ref dF, .ref dP, .ref dE, .ref dX, .ref dY, .int (nI x), .int (nI cg), .ref dG]) (ty := .int) B0 hw hS 5 rfl in_X5 tyX5 tyX5_ok nmX5 k_mo 0 (by decide) qF_X5_77 rfl (by decide +kernel) rfl rfl (Nat.le_of_ble_eq_true rfl) rfl dX5_given_2 (fun H locs f1 ef1 hw hS => ?_)
  have h2 : f1 mo = some (.inr (5, [.int 0, .ref dW, .ref dA, .ref dQ, .ref dM, .ref dS, .ref dL, .ref dR, .ref dT, .ref dZ, .ref dI, .ref dH, .ref dN, .ref dK, .ref dJ, .ref dU, .ref dO, .int (nI n), .int (nI a), .ref dF, .ref dP, .ref dE, .ref dX, .ref dY, .int (nI x), .int (nI cg), .ref dG])) := by rw [ef1, va_up_self]
  refine lv_aload_n hx hb dX5_given_5 rfl (lv_at hl9 0 rfl) ?_
  refine hp_get B0 hw 5 rfl in_X5 h2 25 (by decide) qF_X5_152 rfl dX5_given_6 ?_
  have n4 : dQ ≠ mo := hne k_dQ k_mo (Nat.ne_of_beq_eq_false rfl)
  have h3 : f1 dQ = some (.inl (cI G, 12, .inl gQ)) := by rw [ef1, va_up_ne _ _ n4]; exact k_dQ
  have n6 : dS ≠ mo := hne k_dS k_mo (Nat.ne_of_beq_eq_false rfl)
  have h5 : f1 dS = some (.inl (cI G, 2, .inl gS)) := by rw [ef1, va_up_ne _ _ n6]; exact k_dS
  have n8 : dL ≠ mo := hne k_dL k_mo (Nat.ne_of_beq_eq_false rfl)
  have h7 : f1 dL = some (.inl (cI G, 2, .inl gL)) := by rw [ef1, va_up_ne _ _ n8]; exact k_dL
  have n10 : dR ≠ mo := hne k_dR k_mo (Nat.ne_of_beq_eq_false rfl)
  have h9 : f1 dR = some (.inl (cI G, 2, .inl gR)) := by rw [ef1, va_up_ne _ _ n10]; exact k_dR
  have n12 : dT ≠ mo := hne k_dT k_mo (Nat.ne_of_beq_eq_false rfl)
  have h11 : f1 dT = some (.inl (cI G, 2, .inl gT)) := by rw [ef1, va_up_ne _ _ n12]; exact k_dT
  have n14 : dZ ≠ mo := hne k_dZ k_mo (Nat.ne_of_beq_eq_false rfl)
  have h13 : f1 dZ = some (.inl (cZ G, 2, .inl gZ)) := by rw [ef1, va_up_ne _ _ n14]; exact k_dZ
  have n16 : dI ≠ mo := hne k_dI k_mo (Nat.ne_of_beq_eq_false rfl)
  have h15 : f1 dI = some (.inl (cI G, 2, .inl gI)) := by rw [ef1, va_up_ne _ _ n16]; exact k_dI
  have n18 : dH ≠ mo := hne k_dH k_mo (Nat.ne_of_beq_eq_false rfl)
  have h17 : f1 dH = some (.inl (cI G, 2, .inl gH)) := by rw [ef1, va_up_ne _ _ n18]; exact k_dH
  have n20 : dN ≠ mo := hne k_dN k_mo (Nat.ne_of_beq_eq_false rfl)
  have h19 : f1 dN = some (.inl (cI G, 2, .inl gN)) := by rw [ef1, va_up_ne _ _ n20]; exact k_dN
  have n22 : dK ≠ mo := hne k_dK k_mo (Nat.ne_of_beq_eq_false rfl)
  have h21 : f1 dK = some (.inl (cI G, 2048, .inl gK)) := by rw [ef1, va_up_ne _ _ n22]; exact k_dK
  have n24 : dJ ≠ mo := hne k_dJ k_mo (Nat.ne_of_beq_eq_false rfl)
  have h23 : f1 dJ = some (.inl (cI G, 2048, .inl gJ)) := by rw [ef1, va_up_ne _ _ n24]; exact k_dJ
  have n26 : dU ≠ mo := hne k_dU k_mo (Nat.ne_of_beq_eq_false rfl)
  have h25 : f1 dU = some (.inl (cI G, 2048, .inl gU)) := by rw [ef1, va_up_ne _ _ n26]; exact k_dU
  have n28 : dO ≠ mo := hne k_dO k_mo (Nat.ne_of_beq_eq_false rfl)
  have h27 : f1 dO = some (.inl (cI G, 2048, .inl gO)) := by rw [ef1, va_up_ne _ _ n28]; exact k_dO
  have n30 : dW ≠ mo := hne k_dW k_mo (Nat.ne_of_beq_eq_false rfl)
  have h29 : f1 dW = some (.inl (cI G, 12, .inl (jn gw0 gw1))) := by rw [ef1, va_up_ne _ _ n30]; exact k_dW
  have n32 : dA ≠ mo := hne k_dA k_mo (Nat.ne_of_beq_eq_false rfl)
  have h31 : f1 dA = some (.inl (cI G, 12, .inl (jn ga0 ga1))) := by rw [ef1, va_up_ne _ _ n32]; exact k_dA
  have n34 : dM ≠ mo := hne k_dM k_mo (Nat.ne_of_beq_eq_false rfl)
  have h33 : f1 dM = some (.inl (cI G, 2, .inl (mA2 mg0 mg1))) := by rw [ef1, va_up_ne _ _ n34]; exact k_dM
  have n36 : dF ≠ mo := hne k_dF k_mo (Nat.ne_of_beq_eq_false rfl)
  have h35 : f1 dF = some (.inl (cI G, 61, .inl (nf sa))) := by rw [ef1, va_up_ne _ _ n36]; exact k_dF
  have n38 : dP ≠ mo := hne k_dP k_mo (Nat.ne_of_beq_eq_false rfl)
  have h37 : f1 dP = some (.inl (cI G, 240, .inl (nf pk))) := by rw [ef1, va_up_ne _ _ n38]; exact k_dP
  have n40 : dE ≠ mo := hne k_dE k_mo (Nat.ne_of_beq_eq_false rfl)
  have h39 : f1 dE = some (.inl (cZ G, 240, .inl gh)) := by rw [ef1, va_up_ne _ _ n40]; exact k_dE
  have n42 : dX ≠ mo := hne k_dX k_mo (Nat.ne_of_beq_eq_false rfl)
  have h41 : f1 dX = some (.inl (cI G, 3, .inl (nf fl))) := by rw [ef1, va_up_ne _ _ n42]; exact k_dX
  have n44 : dY ≠ mo := hne k_dY k_mo (Nat.ne_of_beq_eq_false rfl)
  have h43 : f1 dY = some (.inl (cI G, 3, .inl gl)) := by rw [ef1, va_up_ne _ _ n44]; exact k_dY
  have n46 : dG ≠ mo := hne k_dG k_mo (Nat.ne_of_beq_eq_false rfl)
  have h45 : f1 dG = some (.inl (cI G, 60, .inl (nf gv))) := by rw [ef1, va_up_ne _ _ n46]; exact k_dG
  exact hp_iret (v := (nI cg)) B0 hw hS hr ⟨Nat.le_of_ble_eq_true rfl, Nat.le_of_ble_eq_true rfl⟩ dX5_given_9 (⟨rfl, ⟨h2, hND, ⟨_, _, _, _, _, _, _, _, _, _, _, _, _, h3, h5, h7, h9, h11, h13, h15, h17, h19, h21, h23, h25, h27, hHd9, (hMn.mono hMn9 (by omega))⟩, h29, h31, h33, h35, h37, h39, h41, h43, h45, hSA, hB9, hfl9⟩, (show hEq [mo, dW, dA, dQ, dM, dS, dL, dR, dT, dZ, dI, dH, dN, dK, dJ, dU, dO, dF, dP, dE, dX, dY, dG] f f1 from (by rw [ef1]; exact hEq.up List.mem_cons_self))⟩)

set_option maxHeartbeats 4000000 in
set_option maxRecDepth 100000 in
theorem c_W5_next {l : Launch} (hl : l.stackTraces = false) (G : hG) (f : hM) (mo dW dA dQ dM dS dL dR dT dZ dI dH dN dK dJ dU dO dF dP dE dX dY dG : Nat) (th : Int32) (B : Nat) (gw0 : Nat → Int32) (ga0 : Nat → Int32) (gw1 : Nat → Int32) (ga1 : Nat → Int32) (mg0 : Int32) (mg1 : Int32) (n : Nat) (a : Nat) (cg : Nat) (x : Nat) (sa : Nat → Nat) (pk : Nat → Nat) (fl : Nat → Nat) (gv : Nat → Nat) (gh : Nat → Int32) (gl : Nat → Int32) (hC : MW G f mo dW dA dQ dM dS dL dR dT dZ dI dH dN dK dJ dU dO dF dP dE dX dY dG th B gw0 ga0 gw1 ga1 mg0 mg1 n a cg x sa pk fl gv gh gl) (hBB : B + 100 < 100000)  : CT l yX5_next (.code yX5_next cX5_next 1 (some .int)) 0 0 0 0 G [.ref mo] f (fun v f1 => v = some (.int (nI x)) ∧ MW G f1 mo dW dA dQ dM dS dL dR dT dZ dI dH dN dK dJ dU dO dF dP dE dX dY dG 0 B gw0 ga0 gw1 ga1 mg0 mg1 n a cg x sa pk fl gv gh gl ∧ hEq [mo, dW, dA, dQ, dM, dS, dL, dR, dT, dZ, dI, dH, dN, dK, dJ, dU, dO, dF, dP, dE, dX, dY, dG] f f1) (fun E f1 => False) := by
  refine hp_start hl (own := RX5) (by decide) rfl (Nat.le_of_ble_eq_true rfl) ?_
  intro p e s m args below meth c B0 hr hnm hout hw hS ls hl9
  have hx := B0.1
  have hb := B0.2.1
  have hl9 : lv_has ls 1 [(0, .ref mo)] := hl9
  obtain ⟨k_mo, hND, hLM, k_dW, k_dA, k_dM, k_dF, k_dP, k_dE, k_dX, k_dY, k_dG, hSA, hB9, hfl9⟩ := id hC
  obtain ⟨nd_dW_dA, nd_dW_dQ, nd_dA_dQ, nd_dM_dS, nd_dM_dL, nd_dM_dR, nd_dM_dT, nd_dM_dZ, nd_dM_dI, nd_dM_dH, nd_dM_dN, nd_dS_dL, nd_dS_dR, nd_dS_dT, nd_dS_dZ, nd_dS_dI, nd_dS_dH, nd_dS_dN, nd_dL_dR, nd_dL_dT, nd_dL_dZ, nd_dL_dI, nd_dL_dH, nd_dL_dN, nd_dR_dT, nd_dR_dZ, nd_dR_dI, nd_dR_dH, nd_dR_dN, nd_dT_dZ, nd_dT_dI, nd_dT_dH, nd_dT_dN, nd_dZ_dI, nd_dZ_dH, nd_dZ_dN, nd_dI_dH, nd_dI_dN, nd_dH_dN, nd_dK_dJ, nd_dK_dU, nd_dK_dO, nd_dJ_dU, nd_dJ_dO, nd_dU_dO, nd_dP_dE, nd_dX_dY⟩ := id hND
  obtain ⟨gQ, gS, gL, gR, gT, gZ, gI, gH, gN, gK, gJ, gU, gO, k_dQ, k_dS, k_dL, k_dR, k_dT, k_dZ, k_dI, k_dH, k_dN, k_dK, k_dJ, k_dU, k_dO, hHd9, hMn9⟩ := id hLM
  refine lv_aload_n hx hb dX5_next_0 rfl (lv_at hl9 0 rfl) ?_
  refine lv_iconst (v := 0) hx hb dX5_next_1 (by decide) ?_
  refine hp_put (fs1 := [.int 0, .ref dW, .ref dA, .ref dQ, .ref dM, .ref dS, .ref dL, .ref dR, .ref dT, .ref dZ, .ref dI, .ref dH, .ref dN, .ref dK, .ref dJ, .ref dU, .ref dO, .int (nI n), .int (nI a), .ref dF, .ref dP, .ref dE, .ref dX, .ref dY, .int (nI x), .int (nI cg), .ref dG]) (ty := .int) B0 hw hS 5 rfl in_X5 tyX5 tyX5_ok nmX5 k_mo 0 (by decide) qF_X5_77 rfl (by decide +kernel) rfl rfl (Nat.le_of_ble_eq_true rfl) rfl dX5_next_2 (fun H locs f1 ef1 hw hS => ?_)
  have h2 : f1 mo = some (.inr (5, [.int 0, .ref dW, .ref dA, .ref dQ, .ref dM, .ref dS, .ref dL, .ref dR, .ref dT, .ref dZ, .ref dI, .ref dH, .ref dN, .ref dK, .ref dJ, .ref dU, .ref dO, .int (nI n), .int (nI a), .ref dF, .ref dP, .ref dE, .ref dX, .ref dY, .int (nI x), .int (nI cg), .ref dG])) := by rw [ef1, va_up_self]
  refine lv_aload_n hx hb dX5_next_5 rfl (lv_at hl9 0 rfl) ?_
  refine hp_get B0 hw 5 rfl in_X5 h2 24 (by decide) qF_X5_142 rfl dX5_next_6 ?_
  have n4 : dQ ≠ mo := hne k_dQ k_mo (Nat.ne_of_beq_eq_false rfl)
  have h3 : f1 dQ = some (.inl (cI G, 12, .inl gQ)) := by rw [ef1, va_up_ne _ _ n4]; exact k_dQ
  have n6 : dS ≠ mo := hne k_dS k_mo (Nat.ne_of_beq_eq_false rfl)
  have h5 : f1 dS = some (.inl (cI G, 2, .inl gS)) := by rw [ef1, va_up_ne _ _ n6]; exact k_dS
  have n8 : dL ≠ mo := hne k_dL k_mo (Nat.ne_of_beq_eq_false rfl)
  have h7 : f1 dL = some (.inl (cI G, 2, .inl gL)) := by rw [ef1, va_up_ne _ _ n8]; exact k_dL
  have n10 : dR ≠ mo := hne k_dR k_mo (Nat.ne_of_beq_eq_false rfl)
  have h9 : f1 dR = some (.inl (cI G, 2, .inl gR)) := by rw [ef1, va_up_ne _ _ n10]; exact k_dR
  have n12 : dT ≠ mo := hne k_dT k_mo (Nat.ne_of_beq_eq_false rfl)
  have h11 : f1 dT = some (.inl (cI G, 2, .inl gT)) := by rw [ef1, va_up_ne _ _ n12]; exact k_dT
  have n14 : dZ ≠ mo := hne k_dZ k_mo (Nat.ne_of_beq_eq_false rfl)
  have h13 : f1 dZ = some (.inl (cZ G, 2, .inl gZ)) := by rw [ef1, va_up_ne _ _ n14]; exact k_dZ
  have n16 : dI ≠ mo := hne k_dI k_mo (Nat.ne_of_beq_eq_false rfl)
  have h15 : f1 dI = some (.inl (cI G, 2, .inl gI)) := by rw [ef1, va_up_ne _ _ n16]; exact k_dI
  have n18 : dH ≠ mo := hne k_dH k_mo (Nat.ne_of_beq_eq_false rfl)
  have h17 : f1 dH = some (.inl (cI G, 2, .inl gH)) := by rw [ef1, va_up_ne _ _ n18]; exact k_dH
  have n20 : dN ≠ mo := hne k_dN k_mo (Nat.ne_of_beq_eq_false rfl)
  have h19 : f1 dN = some (.inl (cI G, 2, .inl gN)) := by rw [ef1, va_up_ne _ _ n20]; exact k_dN
  have n22 : dK ≠ mo := hne k_dK k_mo (Nat.ne_of_beq_eq_false rfl)
  have h21 : f1 dK = some (.inl (cI G, 2048, .inl gK)) := by rw [ef1, va_up_ne _ _ n22]; exact k_dK
  have n24 : dJ ≠ mo := hne k_dJ k_mo (Nat.ne_of_beq_eq_false rfl)
  have h23 : f1 dJ = some (.inl (cI G, 2048, .inl gJ)) := by rw [ef1, va_up_ne _ _ n24]; exact k_dJ
  have n26 : dU ≠ mo := hne k_dU k_mo (Nat.ne_of_beq_eq_false rfl)
  have h25 : f1 dU = some (.inl (cI G, 2048, .inl gU)) := by rw [ef1, va_up_ne _ _ n26]; exact k_dU
  have n28 : dO ≠ mo := hne k_dO k_mo (Nat.ne_of_beq_eq_false rfl)
  have h27 : f1 dO = some (.inl (cI G, 2048, .inl gO)) := by rw [ef1, va_up_ne _ _ n28]; exact k_dO
  have n30 : dW ≠ mo := hne k_dW k_mo (Nat.ne_of_beq_eq_false rfl)
  have h29 : f1 dW = some (.inl (cI G, 12, .inl (jn gw0 gw1))) := by rw [ef1, va_up_ne _ _ n30]; exact k_dW
  have n32 : dA ≠ mo := hne k_dA k_mo (Nat.ne_of_beq_eq_false rfl)
  have h31 : f1 dA = some (.inl (cI G, 12, .inl (jn ga0 ga1))) := by rw [ef1, va_up_ne _ _ n32]; exact k_dA
  have n34 : dM ≠ mo := hne k_dM k_mo (Nat.ne_of_beq_eq_false rfl)
  have h33 : f1 dM = some (.inl (cI G, 2, .inl (mA2 mg0 mg1))) := by rw [ef1, va_up_ne _ _ n34]; exact k_dM
  have n36 : dF ≠ mo := hne k_dF k_mo (Nat.ne_of_beq_eq_false rfl)
  have h35 : f1 dF = some (.inl (cI G, 61, .inl (nf sa))) := by rw [ef1, va_up_ne _ _ n36]; exact k_dF
  have n38 : dP ≠ mo := hne k_dP k_mo (Nat.ne_of_beq_eq_false rfl)
  have h37 : f1 dP = some (.inl (cI G, 240, .inl (nf pk))) := by rw [ef1, va_up_ne _ _ n38]; exact k_dP
  have n40 : dE ≠ mo := hne k_dE k_mo (Nat.ne_of_beq_eq_false rfl)
  have h39 : f1 dE = some (.inl (cZ G, 240, .inl gh)) := by rw [ef1, va_up_ne _ _ n40]; exact k_dE
  have n42 : dX ≠ mo := hne k_dX k_mo (Nat.ne_of_beq_eq_false rfl)
  have h41 : f1 dX = some (.inl (cI G, 3, .inl (nf fl))) := by rw [ef1, va_up_ne _ _ n42]; exact k_dX
  have n44 : dY ≠ mo := hne k_dY k_mo (Nat.ne_of_beq_eq_false rfl)
  have h43 : f1 dY = some (.inl (cI G, 3, .inl gl)) := by rw [ef1, va_up_ne _ _ n44]; exact k_dY
  have n46 : dG ≠ mo := hne k_dG k_mo (Nat.ne_of_beq_eq_false rfl)
  have h45 : f1 dG = some (.inl (cI G, 60, .inl (nf gv))) := by rw [ef1, va_up_ne _ _ n46]; exact k_dG
  exact hp_iret (v := (nI x)) B0 hw hS hr ⟨Nat.le_of_ble_eq_true rfl, Nat.le_of_ble_eq_true rfl⟩ dX5_next_9 (⟨rfl, ⟨h2, hND, ⟨_, _, _, _, _, _, _, _, _, _, _, _, _, h3, h5, h7, h9, h11, h13, h15, h17, h19, h21, h23, h25, h27, hHd9, (hMn.mono hMn9 (by omega))⟩, h29, h31, h33, h35, h37, h39, h41, h43, h45, hSA, hB9, hfl9⟩, (show hEq [mo, dW, dA, dQ, dM, dS, dL, dR, dT, dZ, dI, dH, dN, dK, dJ, dU, dO, dF, dP, dE, dX, dY, dG] f f1 from (by rw [ef1]; exact hEq.up List.mem_cons_self))⟩)

set_option maxHeartbeats 4000000 in
set_option maxRecDepth 100000 in
theorem c_W5_givenAt {l : Launch} (hl : l.stackTraces = false) (G : hG) (f : hM) (mo dW dA dQ dM dS dL dR dT dZ dI dH dN dK dJ dU dO dF dP dE dX dY dG : Nat) (th : Int32) (B : Nat) (gw0 : Nat → Int32) (ga0 : Nat → Int32) (gw1 : Nat → Int32) (ga1 : Nat → Int32) (mg0 : Int32) (mg1 : Int32) (n : Nat) (a : Nat) (cg : Nat) (x : Nat) (sa : Nat → Nat) (pk : Nat → Nat) (fl : Nat → Nat) (gv : Nat → Nat) (gh : Nat → Int32) (gl : Nat → Int32) (hC : MW G f mo dW dA dQ dM dS dL dR dT dZ dI dH dN dK dJ dU dO dF dP dE dX dY dG th B gw0 ga0 gw1 ga1 mg0 mg1 n a cg x sa pk fl gv gh gl) (hBB : B + 100 < 100000) (xv : Int32) : CT l yX5_givenAt (.code yX5_givenAt cX5_givenAt 2 (some .int)) 1 22 0 0 G [.ref mo, .int xv] f (fun v f1 => ((spc (0 ≤ xv.toInt ∧ xv.toInt < (cg : Int)) True = 0 ∧ v = some (.int (nI (gv xv.toNatClampNeg))) ∧ MW G f1 mo dW dA dQ dM dS dL dR dT dZ dI dH dN dK dJ dU dO dF dP dE dX dY dG 0 B gw0 ga0 gw1 ga1 mg0 mg1 n a cg x sa pk fl gv gh gl) ∨ (¬ spc (0 ≤ xv.toInt ∧ xv.toInt < (cg : Int)) True = 0 ∧ (∃ r9 : Int32, v = some (.int r9)) ∧ MW G f1 mo dW dA dQ dM dS dL dR dT dZ dI dH dN dK dJ dU dO dF dP dE dX dY dG (spc (0 ≤ xv.toInt ∧ xv.toInt < (cg : Int)) True) B gw0 ga0 gw1 ga1 mg0 mg1 n a cg x sa pk fl gv gh gl)) ∧ hEq [mo, dW, dA, dQ, dM, dS, dL, dR, dT, dZ, dI, dH, dN, dK, dJ, dU, dO, dF, dP, dE, dX, dY, dG] f f1) (fun E f1 => False) := by
  refine hp_start hl (own := RX5) (by decide) rfl (Nat.le_of_ble_eq_true rfl) ?_
  intro p e s m args below meth c B0 hr hnm hout hw hS ls hl9
  have hx := B0.1
  have hb := B0.2.1
  have hl9 : lv_has ls 2 [(0, .ref mo), (1, .int xv)] := hl9
  obtain ⟨k_mo, hND, hLM, k_dW, k_dA, k_dM, k_dF, k_dP, k_dE, k_dX, k_dY, k_dG, hSA, hB9, hfl9⟩ := id hC
  obtain ⟨nd_dW_dA, nd_dW_dQ, nd_dA_dQ, nd_dM_dS, nd_dM_dL, nd_dM_dR, nd_dM_dT, nd_dM_dZ, nd_dM_dI, nd_dM_dH, nd_dM_dN, nd_dS_dL, nd_dS_dR, nd_dS_dT, nd_dS_dZ, nd_dS_dI, nd_dS_dH, nd_dS_dN, nd_dL_dR, nd_dL_dT, nd_dL_dZ, nd_dL_dI, nd_dL_dH, nd_dL_dN, nd_dR_dT, nd_dR_dZ, nd_dR_dI, nd_dR_dH, nd_dR_dN, nd_dT_dZ, nd_dT_dI, nd_dT_dH, nd_dT_dN, nd_dZ_dI, nd_dZ_dH, nd_dZ_dN, nd_dI_dH, nd_dI_dN, nd_dH_dN, nd_dK_dJ, nd_dK_dU, nd_dK_dO, nd_dJ_dU, nd_dJ_dO, nd_dU_dO, nd_dP_dE, nd_dX_dY⟩ := id hND
  obtain ⟨gQ, gS, gL, gR, gT, gZ, gI, gH, gN, gK, gJ, gU, gO, k_dQ, k_dS, k_dL, k_dR, k_dT, k_dZ, k_dI, k_dH, k_dN, k_dK, k_dJ, k_dU, k_dO, hHd9, hMn9⟩ := id hLM
  have hc60 : cg ≤ 60 := by obtain ⟨q, h1, h2, h3⟩ := hB9.2.2.2.2.2.2; have h4 := hB9.1; omega
  refine lv_aload_n hx hb dX5_givenAt_0 rfl (lv_at hl9 0 rfl) ?_
  refine lv_iload_n hx hb dX5_givenAt_1 rfl (lv_at hl9 1 rfl) ?_
  refine lv_iconst (v := 0) hx hb dX5_givenAt_2 (by decide) ?_
  refine lv_aload_n hx hb dX5_givenAt_3 rfl (lv_at hl9 0 rfl) ?_
  refine hp_get B0 hw 5 rfl in_X5 k_mo 25 (by decide) qF_X5_152 rfl dX5_givenAt_4 ?_
  refine lv_iconst (v := 1) hx hb dX5_givenAt_7 (by decide) ?_
  refine lv_isub hx hb dX5_givenAt_8 ?_
  refine hp_S (As := [.int xv, .int 0, .int ((nI cg) - 1)]) (rest := [.ref mo]) B0 hw hS (c_X5_in hl G f xv 0 ((nI cg) - 1)) mS_X5_in qM_X5_81 rfl rfl hl9.1 (Nat.le_of_ble_eq_true rfl) ⟨⟨Nat.le_of_ble_eq_true rfl, Nat.le_of_ble_eq_true rfl⟩, Nat.le_of_ble_eq_true rfl, Nat.le_of_ble_eq_true rfl⟩ dX5_givenAt_9 (fun E ce q9 f1 H locs hPX hw hS hce hcv hcl => ?_) (fun v f1 H locs hP hw hS => ?_)
  · exact hPX.elim
  · obtain ⟨ef9, hv9⟩ := hP
    rw [ef9] at hw
    rcases hv9 with ⟨b2, ev9⟩ | ⟨b2, ev9⟩
    · subst ev9
      refine W.eq (g2 := F0 m 12 ls [.int 1, .ref mo]) rfl ?_
      refine lv_if_eq (tgt := 19) hx hb dX5_givenAt_12 (by decide) (fun c9 => absurd c9 (by decide)) (fun _ => ?_)
      refine lv_iconst (v := 0) hx hb dX5_givenAt_15 (by decide) ?_
      refine lv_goto (tgt := 20) hx hb dX5_givenAt_16 (by decide) ?_
      refine hp_put (fs1 := [.int 0, .ref dW, .ref dA, .ref dQ, .ref dM, .ref dS, .ref dL, .ref dR, .ref dT, .ref dZ, .ref dI, .ref dH, .ref dN, .ref dK, .ref dJ, .ref dU, .ref dO, .int (nI n), .int (nI a), .ref dF, .ref dP, .ref dE, .ref dX, .ref dY, .int (nI x), .int (nI cg), .ref dG]) (ty := .int) B0 hw hS 5 rfl in_X5 tyX5 tyX5_ok nmX5 k_mo 0 (by decide) qF_X5_77 rfl (by decide +kernel) rfl rfl (Nat.le_of_ble_eq_true rfl) rfl dX5_givenAt_20 (fun H locs f3 ef3 hw hS => ?_)
      have h4 : f3 mo = some (.inr (5, [.int 0, .ref dW, .ref dA, .ref dQ, .ref dM, .ref dS, .ref dL, .ref dR, .ref dT, .ref dZ, .ref dI, .ref dH, .ref dN, .ref dK, .ref dJ, .ref dU, .ref dO, .int (nI n), .int (nI a), .ref dF, .ref dP, .ref dE, .ref dX, .ref dY, .int (nI x), .int (nI cg), .ref dG])) := by rw [ef3, va_up_self]
      refine lv_aload_n hx hb dX5_givenAt_23 rfl (lv_at hl9 0 rfl) ?_
      refine hp_get B0 hw 5 rfl in_X5 h4 0 (by decide) qF_X5_77 rfl dX5_givenAt_24 ?_
      refine lv_if_le (tgt := 34) hx hb dX5_givenAt_27 (by decide) (fun _ => ?_) (fun c9 => absurd (by decide) c9)
      have hga : (0 ≤ xv.toInt ∧ xv.toInt < (cg : Int)) := by have h1 := b2; rw [nI_m1 (by omega)] at h1; rw [tq0] at h1; exact ⟨h1.1, by omega⟩
      have hop : vp_in xv 60 := vp_in_iff.mpr ⟨hga.1, by have h1 := hga.2; omega⟩
      refine lv_aload_n hx hb dX5_givenAt_34 rfl (lv_at hl9 0 rfl) ?_
      refine hp_get B0 hw 5 rfl in_X5 h4 26 (by decide) qF_X5_74 rfl dX5_givenAt_35 ?_
      refine lv_iload_n hx hb dX5_givenAt_38 rfl (lv_at hl9 1 rfl) ?_
      have n6 : dG ≠ mo := hne k_dG k_mo (Nat.ne_of_beq_eq_false rfl)
      have h5 : f3 dG = some (.inl (cI G, 60, .inl (nf gv))) := by rw [ef3, va_up_ne _ _ n6]; exact k_dG
      refine hp_iald B0 hw h5 hop dX5_givenAt_39 ?_
      have n8 : dQ ≠ mo := hne k_dQ k_mo (Nat.ne_of_beq_eq_false rfl)
      have h7 : f3 dQ = some (.inl (cI G, 12, .inl gQ)) := by rw [ef3, va_up_ne _ _ n8]; exact k_dQ
      have n10 : dS ≠ mo := hne k_dS k_mo (Nat.ne_of_beq_eq_false rfl)
      have h9 : f3 dS = some (.inl (cI G, 2, .inl gS)) := by rw [ef3, va_up_ne _ _ n10]; exact k_dS
      have n12 : dL ≠ mo := hne k_dL k_mo (Nat.ne_of_beq_eq_false rfl)
      have h11 : f3 dL = some (.inl (cI G, 2, .inl gL)) := by rw [ef3, va_up_ne _ _ n12]; exact k_dL
      have n14 : dR ≠ mo := hne k_dR k_mo (Nat.ne_of_beq_eq_false rfl)
      have h13 : f3 dR = some (.inl (cI G, 2, .inl gR)) := by rw [ef3, va_up_ne _ _ n14]; exact k_dR
      have n16 : dT ≠ mo := hne k_dT k_mo (Nat.ne_of_beq_eq_false rfl)
      have h15 : f3 dT = some (.inl (cI G, 2, .inl gT)) := by rw [ef3, va_up_ne _ _ n16]; exact k_dT
      have n18 : dZ ≠ mo := hne k_dZ k_mo (Nat.ne_of_beq_eq_false rfl)
      have h17 : f3 dZ = some (.inl (cZ G, 2, .inl gZ)) := by rw [ef3, va_up_ne _ _ n18]; exact k_dZ
      have n20 : dI ≠ mo := hne k_dI k_mo (Nat.ne_of_beq_eq_false rfl)
      have h19 : f3 dI = some (.inl (cI G, 2, .inl gI)) := by rw [ef3, va_up_ne _ _ n20]; exact k_dI
      have n22 : dH ≠ mo := hne k_dH k_mo (Nat.ne_of_beq_eq_false rfl)
      have h21 : f3 dH = some (.inl (cI G, 2, .inl gH)) := by rw [ef3, va_up_ne _ _ n22]; exact k_dH
      have n24 : dN ≠ mo := hne k_dN k_mo (Nat.ne_of_beq_eq_false rfl)
      have h23 : f3 dN = some (.inl (cI G, 2, .inl gN)) := by rw [ef3, va_up_ne _ _ n24]; exact k_dN
      have n26 : dK ≠ mo := hne k_dK k_mo (Nat.ne_of_beq_eq_false rfl)
      have h25 : f3 dK = some (.inl (cI G, 2048, .inl gK)) := by rw [ef3, va_up_ne _ _ n26]; exact k_dK
      have n28 : dJ ≠ mo := hne k_dJ k_mo (Nat.ne_of_beq_eq_false rfl)
      have h27 : f3 dJ = some (.inl (cI G, 2048, .inl gJ)) := by rw [ef3, va_up_ne _ _ n28]; exact k_dJ
      have n30 : dU ≠ mo := hne k_dU k_mo (Nat.ne_of_beq_eq_false rfl)
      have h29 : f3 dU = some (.inl (cI G, 2048, .inl gU)) := by rw [ef3, va_up_ne _ _ n30]; exact k_dU
      have n32 : dO ≠ mo := hne k_dO k_mo (Nat.ne_of_beq_eq_false rfl)
      have h31 : f3 dO = some (.inl (cI G, 2048, .inl gO)) := by rw [ef3, va_up_ne _ _ n32]; exact k_dO
      have n34 : dW ≠ mo := hne k_dW k_mo (Nat.ne_of_beq_eq_false rfl)
      have h33 : f3 dW = some (.inl (cI G, 12, .inl (jn gw0 gw1))) := by rw [ef3, va_up_ne _ _ n34]; exact k_dW
      have n36 : dA ≠ mo := hne k_dA k_mo (Nat.ne_of_beq_eq_false rfl)
      have h35 : f3 dA = some (.inl (cI G, 12, .inl (jn ga0 ga1))) := by rw [ef3, va_up_ne _ _ n36]; exact k_dA
      have n38 : dM ≠ mo := hne k_dM k_mo (Nat.ne_of_beq_eq_false rfl)
      have h37 : f3 dM = some (.inl (cI G, 2, .inl (mA2 mg0 mg1))) := by rw [ef3, va_up_ne _ _ n38]; exact k_dM
      have n40 : dF ≠ mo := hne k_dF k_mo (Nat.ne_of_beq_eq_false rfl)
      have h39 : f3 dF = some (.inl (cI G, 61, .inl (nf sa))) := by rw [ef3, va_up_ne _ _ n40]; exact k_dF
      have n42 : dP ≠ mo := hne k_dP k_mo (Nat.ne_of_beq_eq_false rfl)
      have h41 : f3 dP = some (.inl (cI G, 240, .inl (nf pk))) := by rw [ef3, va_up_ne _ _ n42]; exact k_dP
      have n44 : dE ≠ mo := hne k_dE k_mo (Nat.ne_of_beq_eq_false rfl)
      have h43 : f3 dE = some (.inl (cZ G, 240, .inl gh)) := by rw [ef3, va_up_ne _ _ n44]; exact k_dE
      have n46 : dX ≠ mo := hne k_dX k_mo (Nat.ne_of_beq_eq_false rfl)
      have h45 : f3 dX = some (.inl (cI G, 3, .inl (nf fl))) := by rw [ef3, va_up_ne _ _ n46]; exact k_dX
      have n48 : dY ≠ mo := hne k_dY k_mo (Nat.ne_of_beq_eq_false rfl)
      have h47 : f3 dY = some (.inl (cI G, 3, .inl gl)) := by rw [ef3, va_up_ne _ _ n48]; exact k_dY
      exact hp_iret (v := ((nf gv) (xv : Int32).toNatClampNeg)) B0 hw hS hr ⟨Nat.le_of_ble_eq_true rfl, Nat.le_of_ble_eq_true rfl⟩ dX5_givenAt_40 (⟨Or.inl ⟨spc_0 hga trivial, rfl, ⟨h4, hND, ⟨_, _, _, _, _, _, _, _, _, _, _, _, _, h7, h9, h11, h13, h15, h17, h19, h21, h23, h25, h27, h29, h31, hHd9, (hMn.mono hMn9 (by omega))⟩, h33, h35, h37, h39, h41, h43, h45, h47, h5, hSA, hB9, hfl9⟩⟩, (show hEq [mo, dW, dA, dQ, dM, dS, dL, dR, dT, dZ, dI, dH, dN, dK, dJ, dU, dO, dF, dP, dE, dX, dY, dG] f f3 from (by rw [ef3]; exact hEq.up List.mem_cons_self))⟩)
    · subst ev9
      refine W.eq (g2 := F0 m 12 ls [.int 0, .ref mo]) rfl ?_
      refine lv_if_eq (tgt := 19) hx hb dX5_givenAt_12 (by decide) (fun _ => ?_) (fun c9 => absurd (by decide) c9)
      refine lv_iconst (v := 1) hx hb dX5_givenAt_19 (by decide) ?_
      refine hp_put (fs1 := [.int 1, .ref dW, .ref dA, .ref dQ, .ref dM, .ref dS, .ref dL, .ref dR, .ref dT, .ref dZ, .ref dI, .ref dH, .ref dN, .ref dK, .ref dJ, .ref dU, .ref dO, .int (nI n), .int (nI a), .ref dF, .ref dP, .ref dE, .ref dX, .ref dY, .int (nI x), .int (nI cg), .ref dG]) (ty := .int) B0 hw hS 5 rfl in_X5 tyX5 tyX5_ok nmX5 k_mo 0 (by decide) qF_X5_77 rfl (by decide +kernel) rfl rfl (Nat.le_of_ble_eq_true rfl) rfl dX5_givenAt_20 (fun H locs f49 ef49 hw hS => ?_)
      have h50 : f49 mo = some (.inr (5, [.int 1, .ref dW, .ref dA, .ref dQ, .ref dM, .ref dS, .ref dL, .ref dR, .ref dT, .ref dZ, .ref dI, .ref dH, .ref dN, .ref dK, .ref dJ, .ref dU, .ref dO, .int (nI n), .int (nI a), .ref dF, .ref dP, .ref dE, .ref dX, .ref dY, .int (nI x), .int (nI cg), .ref dG])) := by rw [ef49, va_up_self]
      refine lv_aload_n hx hb dX5_givenAt_23 rfl (lv_at hl9 0 rfl) ?_
      refine hp_get B0 hw 5 rfl in_X5 h50 0 (by decide) qF_X5_77 rfl dX5_givenAt_24 ?_
      refine lv_if_le (tgt := 34) hx hb dX5_givenAt_27 (by decide) (fun c9 => absurd c9 (by decide)) (fun _ => ?_)
      refine lv_iconst (v := 0) hx hb dX5_givenAt_30 (by decide) ?_
      refine lv_goto (tgt := 40) hx hb dX5_givenAt_31 (by decide) ?_
      have hs9 : spc (0 ≤ xv.toInt ∧ xv.toInt < (cg : Int)) True = 1 := spc_1 (fun h9 => b2 (by rw [nI_m1 (by omega), tq0]; exact ⟨h9.1, by have h1 := h9.2; omega⟩))
      have n52 : dQ ≠ mo := hne k_dQ k_mo (Nat.ne_of_beq_eq_false rfl)
      have h51 : f49 dQ = some (.inl (cI G, 12, .inl gQ)) := by rw [ef49, va_up_ne _ _ n52]; exact k_dQ
      have n54 : dS ≠ mo := hne k_dS k_mo (Nat.ne_of_beq_eq_false rfl)
      have h53 : f49 dS = some (.inl (cI G, 2, .inl gS)) := by rw [ef49, va_up_ne _ _ n54]; exact k_dS
      have n56 : dL ≠ mo := hne k_dL k_mo (Nat.ne_of_beq_eq_false rfl)
      have h55 : f49 dL = some (.inl (cI G, 2, .inl gL)) := by rw [ef49, va_up_ne _ _ n56]; exact k_dL
      have n58 : dR ≠ mo := hne k_dR k_mo (Nat.ne_of_beq_eq_false rfl)
      have h57 : f49 dR = some (.inl (cI G, 2, .inl gR)) := by rw [ef49, va_up_ne _ _ n58]; exact k_dR
      have n60 : dT ≠ mo := hne k_dT k_mo (Nat.ne_of_beq_eq_false rfl)
      have h59 : f49 dT = some (.inl (cI G, 2, .inl gT)) := by rw [ef49, va_up_ne _ _ n60]; exact k_dT
      have n62 : dZ ≠ mo := hne k_dZ k_mo (Nat.ne_of_beq_eq_false rfl)
      have h61 : f49 dZ = some (.inl (cZ G, 2, .inl gZ)) := by rw [ef49, va_up_ne _ _ n62]; exact k_dZ
      have n64 : dI ≠ mo := hne k_dI k_mo (Nat.ne_of_beq_eq_false rfl)
      have h63 : f49 dI = some (.inl (cI G, 2, .inl gI)) := by rw [ef49, va_up_ne _ _ n64]; exact k_dI
      have n66 : dH ≠ mo := hne k_dH k_mo (Nat.ne_of_beq_eq_false rfl)
      have h65 : f49 dH = some (.inl (cI G, 2, .inl gH)) := by rw [ef49, va_up_ne _ _ n66]; exact k_dH
      have n68 : dN ≠ mo := hne k_dN k_mo (Nat.ne_of_beq_eq_false rfl)
      have h67 : f49 dN = some (.inl (cI G, 2, .inl gN)) := by rw [ef49, va_up_ne _ _ n68]; exact k_dN
      have n70 : dK ≠ mo := hne k_dK k_mo (Nat.ne_of_beq_eq_false rfl)
      have h69 : f49 dK = some (.inl (cI G, 2048, .inl gK)) := by rw [ef49, va_up_ne _ _ n70]; exact k_dK
      have n72 : dJ ≠ mo := hne k_dJ k_mo (Nat.ne_of_beq_eq_false rfl)
      have h71 : f49 dJ = some (.inl (cI G, 2048, .inl gJ)) := by rw [ef49, va_up_ne _ _ n72]; exact k_dJ
      have n74 : dU ≠ mo := hne k_dU k_mo (Nat.ne_of_beq_eq_false rfl)
      have h73 : f49 dU = some (.inl (cI G, 2048, .inl gU)) := by rw [ef49, va_up_ne _ _ n74]; exact k_dU
      have n76 : dO ≠ mo := hne k_dO k_mo (Nat.ne_of_beq_eq_false rfl)
      have h75 : f49 dO = some (.inl (cI G, 2048, .inl gO)) := by rw [ef49, va_up_ne _ _ n76]; exact k_dO
      have n78 : dW ≠ mo := hne k_dW k_mo (Nat.ne_of_beq_eq_false rfl)
      have h77 : f49 dW = some (.inl (cI G, 12, .inl (jn gw0 gw1))) := by rw [ef49, va_up_ne _ _ n78]; exact k_dW
      have n80 : dA ≠ mo := hne k_dA k_mo (Nat.ne_of_beq_eq_false rfl)
      have h79 : f49 dA = some (.inl (cI G, 12, .inl (jn ga0 ga1))) := by rw [ef49, va_up_ne _ _ n80]; exact k_dA
      have n82 : dM ≠ mo := hne k_dM k_mo (Nat.ne_of_beq_eq_false rfl)
      have h81 : f49 dM = some (.inl (cI G, 2, .inl (mA2 mg0 mg1))) := by rw [ef49, va_up_ne _ _ n82]; exact k_dM
      have n84 : dF ≠ mo := hne k_dF k_mo (Nat.ne_of_beq_eq_false rfl)
      have h83 : f49 dF = some (.inl (cI G, 61, .inl (nf sa))) := by rw [ef49, va_up_ne _ _ n84]; exact k_dF
      have n86 : dP ≠ mo := hne k_dP k_mo (Nat.ne_of_beq_eq_false rfl)
      have h85 : f49 dP = some (.inl (cI G, 240, .inl (nf pk))) := by rw [ef49, va_up_ne _ _ n86]; exact k_dP
      have n88 : dE ≠ mo := hne k_dE k_mo (Nat.ne_of_beq_eq_false rfl)
      have h87 : f49 dE = some (.inl (cZ G, 240, .inl gh)) := by rw [ef49, va_up_ne _ _ n88]; exact k_dE
      have n90 : dX ≠ mo := hne k_dX k_mo (Nat.ne_of_beq_eq_false rfl)
      have h89 : f49 dX = some (.inl (cI G, 3, .inl (nf fl))) := by rw [ef49, va_up_ne _ _ n90]; exact k_dX
      have n92 : dY ≠ mo := hne k_dY k_mo (Nat.ne_of_beq_eq_false rfl)
      have h91 : f49 dY = some (.inl (cI G, 3, .inl gl)) := by rw [ef49, va_up_ne _ _ n92]; exact k_dY
      have n94 : dG ≠ mo := hne k_dG k_mo (Nat.ne_of_beq_eq_false rfl)
      have h93 : f49 dG = some (.inl (cI G, 60, .inl (nf gv))) := by rw [ef49, va_up_ne _ _ n94]; exact k_dG
      exact hp_iret (v := 0) B0 hw hS hr ⟨Nat.le_of_ble_eq_true rfl, Nat.le_of_ble_eq_true rfl⟩ dX5_givenAt_40 (⟨Or.inr ⟨(by rw [hs9]; decide), ⟨_, rfl⟩, ⟨(by rw [hs9]; exact h50), hND, ⟨_, _, _, _, _, _, _, _, _, _, _, _, _, h51, h53, h55, h57, h59, h61, h63, h65, h67, h69, h71, h73, h75, hHd9, (hMn.mono hMn9 (by omega))⟩, h77, h79, h81, h83, h85, h87, h89, h91, h93, hSA, hB9, hfl9⟩⟩, (show hEq [mo, dW, dA, dQ, dM, dS, dL, dR, dT, dZ, dI, dH, dN, dK, dJ, dU, dO, dF, dP, dE, dX, dY, dG] f f49 from (by rw [ef49]; exact hEq.up List.mem_cons_self))⟩)

