set_option maxHeartbeats 4000000 in
set_option maxRecDepth 100000 in
theorem c_W5_asksEnd {l : Launch} (hl : l.stackTraces = false) (G : hG) (f : hM) (mo dW dA dQ dM dS dL dR dT dZ dI dH dN dK dJ dU dO dF dP dE dX dY dG : Nat) (vth vpk vpc vnx vgv : Int32) (k_mo : f mo = some (.inr (5, [.int vth, .ref dW, .ref dA, .ref dQ, .ref dM, .ref dS, .ref dL, .ref dR, .ref dT, .ref dZ, .ref dI, .ref dH, .ref dN, .ref dK, .ref dJ, .ref dU, .ref dO, .int vpk, .int vpc, .ref dF, .ref dP, .ref dE, .ref dX, .ref dY, .int vnx, .int vgv, .ref dG]))) (i : Int32) : CT l yX5_asksEnd (.code yX5_asksEnd cX5_asksEnd 2 (some .boolean)) 2 42 0 0 G [.ref mo, .int i] f (fun v f1 => ∃ t9 : Int32, f1 mo = some (.inr (5, [.int t9, .ref dW, .ref dA, .ref dQ, .ref dM, .ref dS, .ref dL, .ref dR, .ref dT, .ref dZ, .ref dI, .ref dH, .ref dN, .ref dK, .ref dJ, .ref dU, .ref dO, .int vpk, .int vpc, .ref dF, .ref dP, .ref dE, .ref dX, .ref dY, .int vnx, .int vgv, .ref dG])) ∧ ((v = some (.int 1) ∧ sE i) ∨ v = some (.int 0)) ∧ hEq [mo] f f1) (fun E f1 => False) := by
  refine hp_start hl (own := RX5) (by decide) rfl (Nat.le_of_ble_eq_true rfl) ?_
  intro p e s m args below meth c B0 hr hnm hout hw hS ls hl9
  have hx := B0.1
  have hb := B0.2.1
  have hl9 : lv_has ls 2 [(0, .ref mo), (1, .int i)] := hl9
  refine lv_aload_n hx hb dX5_asksEnd_0 rfl (lv_at hl9 0 rfl) ?_
  refine lv_iload_n hx hb dX5_asksEnd_1 rfl (lv_at hl9 1 rfl) ?_
  refine hp_S (As := [.int i]) (rest := [.ref mo]) B0 hw hS (c_X5_isEnd hl G f i) mS_X5_isEnd qM_X5_85 rfl rfl hl9.1 (Nat.le_of_ble_eq_true rfl) ⟨⟨Nat.le_of_ble_eq_true rfl, Nat.le_of_ble_eq_true rfl⟩, Nat.le_of_ble_eq_true rfl, Nat.le_of_ble_eq_true rfl⟩ dX5_asksEnd_2 (fun E ce q9 f1 H locs hPX hw hS hce hcv hcl => ?_) (fun v f1 H locs hP hw hS => ?_)
  · exact hPX.elim
  · obtain ⟨ef9, hv9⟩ := hP
    rw [ef9] at hw
    rcases hv9 with ⟨b9 | b9, ev9⟩ | ⟨hnE, ev9⟩
    · subst ev9
      subst b9
      refine W.eq (g2 := F0 m 5 ls [.int 1, .ref mo]) rfl ?_
      refine lv_if_eq (tgt := 12) hx hb dX5_asksEnd_5 (by decide) (fun c9 => absurd c9 (by decide)) (fun _ => ?_)
      refine lv_iconst (v := 0) hx hb dX5_asksEnd_8 (by decide) ?_
      refine lv_goto (tgt := 13) hx hb dX5_asksEnd_9 (by decide) ?_
      refine hp_put (fs1 := [.int 0, .ref dW, .ref dA, .ref dQ, .ref dM, .ref dS, .ref dL, .ref dR, .ref dT, .ref dZ, .ref dI, .ref dH, .ref dN, .ref dK, .ref dJ, .ref dU, .ref dO, .int vpk, .int vpc, .ref dF, .ref dP, .ref dE, .ref dX, .ref dY, .int vnx, .int vgv, .ref dG]) (ty := .int) B0 hw hS 5 rfl in_X5 tyX5 tyX5_ok nmX5 k_mo 0 (by decide) qF_X5_77 rfl (by decide +kernel) rfl rfl (Nat.le_of_ble_eq_true rfl) rfl dX5_asksEnd_13 (fun H locs f2 ef2 hw hS => ?_)
      have h3 : f2 mo = some (.inr (5, [.int 0, .ref dW, .ref dA, .ref dQ, .ref dM, .ref dS, .ref dL, .ref dR, .ref dT, .ref dZ, .ref dI, .ref dH, .ref dN, .ref dK, .ref dJ, .ref dU, .ref dO, .int vpk, .int vpc, .ref dF, .ref dP, .ref dE, .ref dX, .ref dY, .int vnx, .int vgv, .ref dG])) := by rw [ef2, va_up_self]
      refine lv_aload_n hx hb dX5_asksEnd_16 rfl (lv_at hl9 0 rfl) ?_
      refine hp_get B0 hw 5 rfl in_X5 h3 0 (by decide) qF_X5_77 rfl dX5_asksEnd_17 ?_
      refine lv_if_ne (tgt := 27) hx hb dX5_asksEnd_20 (by decide) (fun c9 => absurd (by decide) c9) (fun _ => ?_)
      refine lv_iconst (v := 1) hx hb dX5_asksEnd_23 (by decide) ?_
      refine lv_goto (tgt := 28) hx hb dX5_asksEnd_24 (by decide) ?_
      exact hp_zret (v := 1) B0 hw hS hr ⟨Nat.le_of_ble_eq_true rfl, Nat.le_of_ble_eq_true rfl⟩ (rfl) dX5_asksEnd_28 (⟨_, h3, Or.inl ⟨rfl, Or.inl rfl⟩, (show hEq [mo] f f2 from (by rw [ef2]; exact hEq.up List.mem_cons_self))⟩)
    · subst ev9
      subst b9
      refine W.eq (g2 := F0 m 5 ls [.int 1, .ref mo]) rfl ?_
      refine lv_if_eq (tgt := 12) hx hb dX5_asksEnd_5 (by decide) (fun c9 => absurd c9 (by decide)) (fun _ => ?_)
      refine lv_iconst (v := 0) hx hb dX5_asksEnd_8 (by decide) ?_
      refine lv_goto (tgt := 13) hx hb dX5_asksEnd_9 (by decide) ?_
      refine hp_put (fs1 := [.int 0, .ref dW, .ref dA, .ref dQ, .ref dM, .ref dS, .ref dL, .ref dR, .ref dT, .ref dZ, .ref dI, .ref dH, .ref dN, .ref dK, .ref dJ, .ref dU, .ref dO, .int vpk, .int vpc, .ref dF, .ref dP, .ref dE, .ref dX, .ref dY, .int vnx, .int vgv, .ref dG]) (ty := .int) B0 hw hS 5 rfl in_X5 tyX5 tyX5_ok nmX5 k_mo 0 (by decide) qF_X5_77 rfl (by decide +kernel) rfl rfl (Nat.le_of_ble_eq_true rfl) rfl dX5_asksEnd_13 (fun H locs f4 ef4 hw hS => ?_)
      have h5 : f4 mo = some (.inr (5, [.int 0, .ref dW, .ref dA, .ref dQ, .ref dM, .ref dS, .ref dL, .ref dR, .ref dT, .ref dZ, .ref dI, .ref dH, .ref dN, .ref dK, .ref dJ, .ref dU, .ref dO, .int vpk, .int vpc, .ref dF, .ref dP, .ref dE, .ref dX, .ref dY, .int vnx, .int vgv, .ref dG])) := by rw [ef4, va_up_self]
      refine lv_aload_n hx hb dX5_asksEnd_16 rfl (lv_at hl9 0 rfl) ?_
      refine hp_get B0 hw 5 rfl in_X5 h5 0 (by decide) qF_X5_77 rfl dX5_asksEnd_17 ?_
      refine lv_if_ne (tgt := 27) hx hb dX5_asksEnd_20 (by decide) (fun c9 => absurd (by decide) c9) (fun _ => ?_)
      refine lv_iconst (v := 1) hx hb dX5_asksEnd_23 (by decide) ?_
      refine lv_goto (tgt := 28) hx hb dX5_asksEnd_24 (by decide) ?_
      exact hp_zret (v := 1) B0 hw hS hr ⟨Nat.le_of_ble_eq_true rfl, Nat.le_of_ble_eq_true rfl⟩ (rfl) dX5_asksEnd_28 (⟨_, h5, Or.inl ⟨rfl, Or.inr rfl⟩, (show hEq [mo] f f4 from (by rw [ef4]; exact hEq.up List.mem_cons_self))⟩)
    · subst ev9
      refine W.eq (g2 := F0 m 5 ls [.int 0, .ref mo]) rfl ?_
      refine lv_if_eq (tgt := 12) hx hb dX5_asksEnd_5 (by decide) (fun _ => ?_) (fun c9 => absurd (by decide) c9)
      refine lv_iconst (v := 1) hx hb dX5_asksEnd_12 (by decide) ?_
      refine hp_put (fs1 := [.int 1, .ref dW, .ref dA, .ref dQ, .ref dM, .ref dS, .ref dL, .ref dR, .ref dT, .ref dZ, .ref dI, .ref dH, .ref dN, .ref dK, .ref dJ, .ref dU, .ref dO, .int vpk, .int vpc, .ref dF, .ref dP, .ref dE, .ref dX, .ref dY, .int vnx, .int vgv, .ref dG]) (ty := .int) B0 hw hS 5 rfl in_X5 tyX5 tyX5_ok nmX5 k_mo 0 (by decide) qF_X5_77 rfl (by decide +kernel) rfl rfl (Nat.le_of_ble_eq_true rfl) rfl dX5_asksEnd_13 (fun H locs f6 ef6 hw hS => ?_)
      have h7 : f6 mo = some (.inr (5, [.int 1, .ref dW, .ref dA, .ref dQ, .ref dM, .ref dS, .ref dL, .ref dR, .ref dT, .ref dZ, .ref dI, .ref dH, .ref dN, .ref dK, .ref dJ, .ref dU, .ref dO, .int vpk, .int vpc, .ref dF, .ref dP, .ref dE, .ref dX, .ref dY, .int vnx, .int vgv, .ref dG])) := by rw [ef6, va_up_self]
      refine lv_aload_n hx hb dX5_asksEnd_16 rfl (lv_at hl9 0 rfl) ?_
      refine hp_get B0 hw 5 rfl in_X5 h7 0 (by decide) qF_X5_77 rfl dX5_asksEnd_17 ?_
      refine lv_if_ne (tgt := 27) hx hb dX5_asksEnd_20 (by decide) (fun _ => ?_) (fun c9 => absurd c9 (by decide))
      refine lv_iconst (v := 0) hx hb dX5_asksEnd_27 (by decide) ?_
      exact hp_zret (v := 0) B0 hw hS hr ⟨Nat.le_of_ble_eq_true rfl, Nat.le_of_ble_eq_true rfl⟩ (rfl) dX5_asksEnd_28 (⟨_, h7, Or.inr rfl, (show hEq [mo] f f6 from (by rw [ef6]; exact hEq.up List.mem_cons_self))⟩)

set_option maxHeartbeats 4000000 in
set_option maxRecDepth 100000 in
theorem c_W5_asksFrame {l : Launch} (hl : l.stackTraces = false) (G : hG) (f : hM) (mo dW dA dQ dM dS dL dR dT dZ dI dH dN dK dJ dU dO dF dP dE dX dY dG : Nat) (vth vpk vpc vnx vgv : Int32) (k_mo : f mo = some (.inr (5, [.int vth, .ref dW, .ref dA, .ref dQ, .ref dM, .ref dS, .ref dL, .ref dR, .ref dT, .ref dZ, .ref dI, .ref dH, .ref dN, .ref dK, .ref dJ, .ref dU, .ref dO, .int vpk, .int vpc, .ref dF, .ref dP, .ref dE, .ref dX, .ref dY, .int vnx, .int vgv, .ref dG]))) (gN : Nat → Int32) (k_dN : f dN = some (.inl (cI G, 2, .inl gN))) (i : Int32) : CT l yX5_asksFrame (.code yX5_asksFrame cX5_asksFrame 2 (some .boolean)) 2 42 0 0 G [.ref mo, .int i] f (fun v f1 => ∃ t9 : Int32, f1 mo = some (.inr (5, [.int t9, .ref dW, .ref dA, .ref dQ, .ref dM, .ref dS, .ref dL, .ref dR, .ref dT, .ref dZ, .ref dI, .ref dH, .ref dN, .ref dK, .ref dJ, .ref dU, .ref dO, .int vpk, .int vpc, .ref dF, .ref dP, .ref dE, .ref dX, .ref dY, .int vnx, .int vgv, .ref dG])) ∧ ((v = some (.int 1) ∧ sE i ∧ ¬ gN i.toNatClampNeg = 0) ∨ v = some (.int 0)) ∧ hEq [mo] f f1) (fun E f1 => False) := by
  refine hp_start hl (own := RX5) (by decide) rfl (Nat.le_of_ble_eq_true rfl) ?_
  intro p e s m args below meth c B0 hr hnm hout hw hS ls hl9
  have hx := B0.1
  have hb := B0.2.1
  have hl9 : lv_has ls 2 [(0, .ref mo), (1, .int i)] := hl9
  refine lv_aload_n hx hb dX5_asksFrame_0 rfl (lv_at hl9 0 rfl) ?_
  refine lv_iload_n hx hb dX5_asksFrame_1 rfl (lv_at hl9 1 rfl) ?_
  refine hp_S (As := [.int i]) (rest := [.ref mo]) B0 hw hS (c_X5_isEnd hl G f i) mS_X5_isEnd qM_X5_85 rfl rfl hl9.1 (Nat.le_of_ble_eq_true rfl) ⟨⟨Nat.le_of_ble_eq_true rfl, Nat.le_of_ble_eq_true rfl⟩, Nat.le_of_ble_eq_true rfl, Nat.le_of_ble_eq_true rfl⟩ dX5_asksFrame_2 (fun E ce q9 f1 H locs hPX hw hS hce hcv hcl => ?_) (fun v f1 H locs hP hw hS => ?_)
  · exact hPX.elim
  · obtain ⟨ef9, hv9⟩ := hP
    rw [ef9] at hw
    rcases hv9 with ⟨b9 | b9, ev9⟩ | ⟨hnE, ev9⟩
    · subst ev9
      subst b9
      refine W.eq (g2 := F0 m 5 ls [.int 1, .ref mo]) rfl ?_
      refine lv_if_ne (tgt := 12) hx hb dX5_asksFrame_5 (by decide) (fun _ => ?_) (fun c9 => absurd c9 (by decide))
      refine lv_aload_n hx hb dX5_asksFrame_12 rfl (lv_at hl9 0 rfl) ?_
      refine hp_get B0 hw 5 rfl in_X5 k_mo 12 (by decide) qF_X5_44 rfl dX5_asksFrame_13 ?_
      refine lv_iload_n hx hb dX5_asksFrame_16 rfl (lv_at hl9 1 rfl) ?_
      refine hp_iald B0 hw k_dN (by unfold vp_in; decide) dX5_asksFrame_17 ?_
      refine lv_if_ne (tgt := 25) hx hb dX5_asksFrame_18 (by decide) (fun c2 => ?_) (fun c2 => ?_)
      · refine lv_iconst (v := 0) hx hb dX5_asksFrame_25 (by decide) ?_
        refine hp_put (fs1 := [.int 0, .ref dW, .ref dA, .ref dQ, .ref dM, .ref dS, .ref dL, .ref dR, .ref dT, .ref dZ, .ref dI, .ref dH, .ref dN, .ref dK, .ref dJ, .ref dU, .ref dO, .int vpk, .int vpc, .ref dF, .ref dP, .ref dE, .ref dX, .ref dY, .int vnx, .int vgv, .ref dG]) (ty := .int) B0 hw hS 5 rfl in_X5 tyX5 tyX5_ok nmX5 k_mo 0 (by decide) qF_X5_77 rfl (by decide +kernel) rfl rfl (Nat.le_of_ble_eq_true rfl) rfl dX5_asksFrame_26 (fun H locs f3 ef3 hw hS => ?_)
        have h4 : f3 mo = some (.inr (5, [.int 0, .ref dW, .ref dA, .ref dQ, .ref dM, .ref dS, .ref dL, .ref dR, .ref dT, .ref dZ, .ref dI, .ref dH, .ref dN, .ref dK, .ref dJ, .ref dU, .ref dO, .int vpk, .int vpc, .ref dF, .ref dP, .ref dE, .ref dX, .ref dY, .int vnx, .int vgv, .ref dG])) := by rw [ef3, va_up_self]
        refine lv_aload_n hx hb dX5_asksFrame_29 rfl (lv_at hl9 0 rfl) ?_
        refine hp_get B0 hw 5 rfl in_X5 h4 0 (by decide) qF_X5_77 rfl dX5_asksFrame_30 ?_
        refine lv_if_ne (tgt := 40) hx hb dX5_asksFrame_33 (by decide) (fun c9 => absurd (by decide) c9) (fun _ => ?_)
        refine lv_iconst (v := 1) hx hb dX5_asksFrame_36 (by decide) ?_
        refine lv_goto (tgt := 41) hx hb dX5_asksFrame_37 (by decide) ?_
        exact hp_zret (v := 1) B0 hw hS hr ⟨Nat.le_of_ble_eq_true rfl, Nat.le_of_ble_eq_true rfl⟩ (rfl) dX5_asksFrame_41 (⟨_, h4, Or.inl ⟨rfl, Or.inl rfl, c2⟩, (show hEq [mo] f f3 from (by rw [ef3]; exact hEq.up List.mem_cons_self))⟩)
      · refine lv_iconst (v := 2) hx hb dX5_asksFrame_21 (by decide) ?_
        refine lv_goto (tgt := 26) hx hb dX5_asksFrame_22 (by decide) ?_
        refine hp_put (fs1 := [.int 2, .ref dW, .ref dA, .ref dQ, .ref dM, .ref dS, .ref dL, .ref dR, .ref dT, .ref dZ, .ref dI, .ref dH, .ref dN, .ref dK, .ref dJ, .ref dU, .ref dO, .int vpk, .int vpc, .ref dF, .ref dP, .ref dE, .ref dX, .ref dY, .int vnx, .int vgv, .ref dG]) (ty := .int) B0 hw hS 5 rfl in_X5 tyX5 tyX5_ok nmX5 k_mo 0 (by decide) qF_X5_77 rfl (by decide +kernel) rfl rfl (Nat.le_of_ble_eq_true rfl) rfl dX5_asksFrame_26 (fun H locs f5 ef5 hw hS => ?_)
        have h6 : f5 mo = some (.inr (5, [.int 2, .ref dW, .ref dA, .ref dQ, .ref dM, .ref dS, .ref dL, .ref dR, .ref dT, .ref dZ, .ref dI, .ref dH, .ref dN, .ref dK, .ref dJ, .ref dU, .ref dO, .int vpk, .int vpc, .ref dF, .ref dP, .ref dE, .ref dX, .ref dY, .int vnx, .int vgv, .ref dG])) := by rw [ef5, va_up_self]
        refine lv_aload_n hx hb dX5_asksFrame_29 rfl (lv_at hl9 0 rfl) ?_
        refine hp_get B0 hw 5 rfl in_X5 h6 0 (by decide) qF_X5_77 rfl dX5_asksFrame_30 ?_
        refine lv_if_ne (tgt := 40) hx hb dX5_asksFrame_33 (by decide) (fun _ => ?_) (fun c9 => absurd c9 (by decide))
        refine lv_iconst (v := 0) hx hb dX5_asksFrame_40 (by decide) ?_
        exact hp_zret (v := 0) B0 hw hS hr ⟨Nat.le_of_ble_eq_true rfl, Nat.le_of_ble_eq_true rfl⟩ (rfl) dX5_asksFrame_41 (⟨_, h6, Or.inr rfl, (show hEq [mo] f f5 from (by rw [ef5]; exact hEq.up List.mem_cons_self))⟩)
    · subst ev9
      subst b9
      refine W.eq (g2 := F0 m 5 ls [.int 1, .ref mo]) rfl ?_
      refine lv_if_ne (tgt := 12) hx hb dX5_asksFrame_5 (by decide) (fun _ => ?_) (fun c9 => absurd c9 (by decide))
      refine lv_aload_n hx hb dX5_asksFrame_12 rfl (lv_at hl9 0 rfl) ?_
      refine hp_get B0 hw 5 rfl in_X5 k_mo 12 (by decide) qF_X5_44 rfl dX5_asksFrame_13 ?_
      refine lv_iload_n hx hb dX5_asksFrame_16 rfl (lv_at hl9 1 rfl) ?_
      refine hp_iald B0 hw k_dN (by unfold vp_in; decide) dX5_asksFrame_17 ?_
      refine lv_if_ne (tgt := 25) hx hb dX5_asksFrame_18 (by decide) (fun c7 => ?_) (fun c7 => ?_)
      · refine lv_iconst (v := 0) hx hb dX5_asksFrame_25 (by decide) ?_
        refine hp_put (fs1 := [.int 0, .ref dW, .ref dA, .ref dQ, .ref dM, .ref dS, .ref dL, .ref dR, .ref dT, .ref dZ, .ref dI, .ref dH, .ref dN, .ref dK, .ref dJ, .ref dU, .ref dO, .int vpk, .int vpc, .ref dF, .ref dP, .ref dE, .ref dX, .ref dY, .int vnx, .int vgv, .ref dG]) (ty := .int) B0 hw hS 5 rfl in_X5 tyX5 tyX5_ok nmX5 k_mo 0 (by decide) qF_X5_77 rfl (by decide +kernel) rfl rfl (Nat.le_of_ble_eq_true rfl) rfl dX5_asksFrame_26 (fun H locs f8 ef8 hw hS => ?_)
        have h9 : f8 mo = some (.inr (5, [.int 0, .ref dW, .ref dA, .ref dQ, .ref dM, .ref dS, .ref dL, .ref dR, .ref dT, .ref dZ, .ref dI, .ref dH, .ref dN, .ref dK, .ref dJ, .ref dU, .ref dO, .int vpk, .int vpc, .ref dF, .ref dP, .ref dE, .ref dX, .ref dY, .int vnx, .int vgv, .ref dG])) := by rw [ef8, va_up_self]
        refine lv_aload_n hx hb dX5_asksFrame_29 rfl (lv_at hl9 0 rfl) ?_
        refine hp_get B0 hw 5 rfl in_X5 h9 0 (by decide) qF_X5_77 rfl dX5_asksFrame_30 ?_
        refine lv_if_ne (tgt := 40) hx hb dX5_asksFrame_33 (by decide) (fun c9 => absurd (by decide) c9) (fun _ => ?_)
        refine lv_iconst (v := 1) hx hb dX5_asksFrame_36 (by decide) ?_
        refine lv_goto (tgt := 41) hx hb dX5_asksFrame_37 (by decide) ?_
        exact hp_zret (v := 1) B0 hw hS hr ⟨Nat.le_of_ble_eq_true rfl, Nat.le_of_ble_eq_true rfl⟩ (rfl) dX5_asksFrame_41 (⟨_, h9, Or.inl ⟨rfl, Or.inr rfl, c7⟩, (show hEq [mo] f f8 from (by rw [ef8]; exact hEq.up List.mem_cons_self))⟩)
      · refine lv_iconst (v := 2) hx hb dX5_asksFrame_21 (by decide) ?_
        refine lv_goto (tgt := 26) hx hb dX5_asksFrame_22 (by decide) ?_
        refine hp_put (fs1 := [.int 2, .ref dW, .ref dA, .ref dQ, .ref dM, .ref dS, .ref dL, .ref dR, .ref dT, .ref dZ, .ref dI, .ref dH, .ref dN, .ref dK, .ref dJ, .ref dU, .ref dO, .int vpk, .int vpc, .ref dF, .ref dP, .ref dE, .ref dX, .ref dY, .int vnx, .int vgv, .ref dG]) (ty := .int) B0 hw hS 5 rfl in_X5 tyX5 tyX5_ok nmX5 k_mo 0 (by decide) qF_X5_77 rfl (by decide +kernel) rfl rfl (Nat.le_of_ble_eq_true rfl) rfl dX5_asksFrame_26 (fun H locs f10 ef10 hw hS => ?_)
        have h11 : f10 mo = some (.inr (5, [.int 2, .ref dW, .ref dA, .ref dQ, .ref dM, .ref dS, .ref dL, .ref dR, .ref dT, .ref dZ, .ref dI, .ref dH, .ref dN, .ref dK, .ref dJ, .ref dU, .ref dO, .int vpk, .int vpc, .ref dF, .ref dP, .ref dE, .ref dX, .ref dY, .int vnx, .int vgv, .ref dG])) := by rw [ef10, va_up_self]
        refine lv_aload_n hx hb dX5_asksFrame_29 rfl (lv_at hl9 0 rfl) ?_
        refine hp_get B0 hw 5 rfl in_X5 h11 0 (by decide) qF_X5_77 rfl dX5_asksFrame_30 ?_
        refine lv_if_ne (tgt := 40) hx hb dX5_asksFrame_33 (by decide) (fun _ => ?_) (fun c9 => absurd c9 (by decide))
        refine lv_iconst (v := 0) hx hb dX5_asksFrame_40 (by decide) ?_
        exact hp_zret (v := 0) B0 hw hS hr ⟨Nat.le_of_ble_eq_true rfl, Nat.le_of_ble_eq_true rfl⟩ (rfl) dX5_asksFrame_41 (⟨_, h11, Or.inr rfl, (show hEq [mo] f f10 from (by rw [ef10]; exact hEq.up List.mem_cons_self))⟩)
    · subst ev9
      refine W.eq (g2 := F0 m 5 ls [.int 0, .ref mo]) rfl ?_
      refine lv_if_ne (tgt := 12) hx hb dX5_asksFrame_5 (by decide) (fun c9 => absurd (by decide) c9) (fun _ => ?_)
      refine lv_iconst (v := 1) hx hb dX5_asksFrame_8 (by decide) ?_
      refine lv_goto (tgt := 26) hx hb dX5_asksFrame_9 (by decide) ?_
      refine hp_put (fs1 := [.int 1, .ref dW, .ref dA, .ref dQ, .ref dM, .ref dS, .ref dL, .ref dR, .ref dT, .ref dZ, .ref dI, .ref dH, .ref dN, .ref dK, .ref dJ, .ref dU, .ref dO, .int vpk, .int vpc, .ref dF, .ref dP, .ref dE, .ref dX, .ref dY, .int vnx, .int vgv, .ref dG]) (ty := .int) B0 hw hS 5 rfl in_X5 tyX5 tyX5_ok nmX5 k_mo 0 (by decide) qF_X5_77 rfl (by decide +kernel) rfl rfl (Nat.le_of_ble_eq_true rfl) rfl dX5_asksFrame_26 (fun H locs f12 ef12 hw hS => ?_)
      have h13 : f12 mo = some (.inr (5, [.int 1, .ref dW, .ref dA, .ref dQ, .ref dM, .ref dS, .ref dL, .ref dR, .ref dT, .ref dZ, .ref dI, .ref dH, .ref dN, .ref dK, .ref dJ, .ref dU, .ref dO, .int vpk, .int vpc, .ref dF, .ref dP, .ref dE, .ref dX, .ref dY, .int vnx, .int vgv, .ref dG])) := by rw [ef12, va_up_self]
      refine lv_aload_n hx hb dX5_asksFrame_29 rfl (lv_at hl9 0 rfl) ?_
      refine hp_get B0 hw 5 rfl in_X5 h13 0 (by decide) qF_X5_77 rfl dX5_asksFrame_30 ?_
      refine lv_if_ne (tgt := 40) hx hb dX5_asksFrame_33 (by decide) (fun _ => ?_) (fun c9 => absurd c9 (by decide))
      refine lv_iconst (v := 0) hx hb dX5_asksFrame_40 (by decide) ?_
      exact hp_zret (v := 0) B0 hw hS hr ⟨Nat.le_of_ble_eq_true rfl, Nat.le_of_ble_eq_true rfl⟩ (rfl) dX5_asksFrame_41 (⟨_, h13, Or.inr rfl, (show hEq [mo] f f12 from (by rw [ef12]; exact hEq.up List.mem_cons_self))⟩)

/-- the whole of the reference -/
def MW (G : hG) (f : hM) (mo dW dA dQ dM dS dL dR dT dZ dI dH dN dK dJ dU dO dF dP dE dX dY dG : Nat) (th : Int32) (B : Nat) (gw0 : Nat → Int32) (ga0 : Nat → Int32) (gw1 : Nat → Int32) (ga1 : Nat → Int32) (mg0 : Int32) (mg1 : Int32) (n : Nat) (a : Nat) (cg : Nat) (x : Nat) (sa : Nat → Nat) (pk : Nat → Nat) (fl : Nat → Nat) (gv : Nat → Nat) (gh : Nat → Int32) (gl : Nat → Int32) : Prop := f mo = some (.inr (5, [.int th, .ref dW, .ref dA, .ref dQ, .ref dM, .ref dS, .ref dL, .ref dR, .ref dT, .ref dZ, .ref dI, .ref dH, .ref dN, .ref dK, .ref dJ, .ref dU, .ref dO, .int (nI n), .int (nI a), .ref dF, .ref dP, .ref dE, .ref dX, .ref dY, .int (nI x), .int (nI cg), .ref dG])) ∧ ND5 dW dA dQ dM dS dL dR dT dZ dI dH dN dK dJ dU dO dF dP dE dX dY dG ∧ LM G f dQ dS dL dR dT dZ dI dH dN dK dJ dU dO B ∧ f dW = some (.inl (cI G, 12, .inl (jn gw0 gw1))) ∧ f dA = some (.inl (cI G, 12, .inl (jn ga0 ga1))) ∧ f dM = some (.inl (cI G, 2, .inl (mA2 mg0 mg1))) ∧ f dF = some (.inl (cI G, 61, .inl (nf sa))) ∧ f dP = some (.inl (cI G, 240, .inl (nf pk))) ∧ f dE = some (.inl (cZ G, 240, .inl gh)) ∧ f dX = some (.inl (cI G, 3, .inl (nf fl))) ∧ f dY = some (.inl (cI G, 3, .inl gl)) ∧ f dG = some (.inl (cI G, 60, .inl (nf gv))) ∧ (∀ j, j < 12 → sA (jn ga0 ga1 j)) ∧ BOK n a cg x sa pk ∧ (∀ k, k < 3 → fl k < 243)
theorem sub13 {mo dW dA dQ dM dS dL dR dT dZ dI dH dN dK dJ dU dO dF dP dE dX dY dG : Nat} : ∀ x, x ∈ [dQ, dS, dL, dR, dT, dZ, dI, dH, dN, dK, dJ, dU, dO] → x ∈ [mo, dW, dA, dQ, dM, dS, dL, dR, dT, dZ, dI, dH, dN, dK, dJ, dU, dO, dF, dP, dE, dX, dY, dG] := (sub_cons (List.mem_cons_of_mem _ (List.mem_cons_of_mem _ (List.mem_cons_of_mem _ List.mem_cons_self))) (sub_cons (List.mem_cons_of_mem _ (List.mem_cons_of_mem _ (List.mem_cons_of_mem _ (List.mem_cons_of_mem _ (List.mem_cons_of_mem _ List.mem_cons_self))))) (sub_cons (List.mem_cons_of_mem _ (List.mem_cons_of_mem _ (List.mem_cons_of_mem _ (List.mem_cons_of_mem _ (List.mem_cons_of_mem _ (List.mem_cons_of_mem _ List.mem_cons_self)))))) (sub_cons (List.mem_cons_of_mem _ (List.mem_cons_of_mem _ (List.mem_cons_of_mem _ (List.mem_cons_of_mem _ (List.mem_cons_of_mem _ (List.mem_cons_of_mem _ (List.mem_cons_of_mem _ List.mem_cons_self))))))) (sub_cons (List.mem_cons_of_mem _ (List.mem_cons_of_mem _ (List.mem_cons_of_mem _ (List.mem_cons_of_mem _ (List.mem_cons_of_mem _ (List.mem_cons_of_mem _ (List.mem_cons_of_mem _ (List.mem_cons_of_mem _ List.mem_cons_self)))))))) (sub_cons (List.mem_cons_of_mem _ (List.mem_cons_of_mem _ (List.mem_cons_of_mem _ (List.mem_cons_of_mem _ (List.mem_cons_of_mem _ (List.mem_cons_of_mem _ (List.mem_cons_of_mem _ (List.mem_cons_of_mem _ (List.mem_cons_of_mem _ List.mem_cons_self))))))))) (sub_cons (List.mem_cons_of_mem _ (List.mem_cons_of_mem _ (List.mem_cons_of_mem _ (List.mem_cons_of_mem _ (List.mem_cons_of_mem _ (List.mem_cons_of_mem _ (List.mem_cons_of_mem _ (List.mem_cons_of_mem _ (List.mem_cons_of_mem _ (List.mem_cons_of_mem _ List.mem_cons_self)))))))))) (sub_cons (List.mem_cons_of_mem _ (List.mem_cons_of_mem _ (List.mem_cons_of_mem _ (List.mem_cons_of_mem _ (List.mem_cons_of_mem _ (List.mem_cons_of_mem _ (List.mem_cons_of_mem _ (List.mem_cons_of_mem _ (List.mem_cons_of_mem _ (List.mem_cons_of_mem _ (List.mem_cons_of_mem _ List.mem_cons_self))))))))))) (sub_cons (List.mem_cons_of_mem _ (List.mem_cons_of_mem _ (List.mem_cons_of_mem _ (List.mem_cons_of_mem _ (List.mem_cons_of_mem _ (List.mem_cons_of_mem _ (List.mem_cons_of_mem _ (List.mem_cons_of_mem _ (List.mem_cons_of_mem _ (List.mem_cons_of_mem _ (List.mem_cons_of_mem _ (List.mem_cons_of_mem _ List.mem_cons_self)))))))))))) (sub_cons (List.mem_cons_of_mem _ (List.mem_cons_of_mem _ (List.mem_cons_of_mem _ (List.mem_cons_of_mem _ (List.mem_cons_of_mem _ (List.mem_cons_of_mem _ (List.mem_cons_of_mem _ (List.mem_cons_of_mem _ (List.mem_cons_of_mem _ (List.mem_cons_of_mem _ (List.mem_cons_of_mem _ (List.mem_cons_of_mem _ (List.mem_cons_of_mem _ List.mem_cons_self))))))))))))) (sub_cons (List.mem_cons_of_mem _ (List.mem_cons_of_mem _ (List.mem_cons_of_mem _ (List.mem_cons_of_mem _ (List.mem_cons_of_mem _ (List.mem_cons_of_mem _ (List.mem_cons_of_mem _ (List.mem_cons_of_mem _ (List.mem_cons_of_mem _ (List.mem_cons_of_mem _ (List.mem_cons_of_mem _ (List.mem_cons_of_mem _ (List.mem_cons_of_mem _ (List.mem_cons_of_mem _ List.mem_cons_self)))))))))))))) (sub_cons (List.mem_cons_of_mem _ (List.mem_cons_of_mem _ (List.mem_cons_of_mem _ (List.mem_cons_of_mem _ (List.mem_cons_of_mem _ (List.mem_cons_of_mem _ (List.mem_cons_of_mem _ (List.mem_cons_of_mem _ (List.mem_cons_of_mem _ (List.mem_cons_of_mem _ (List.mem_cons_of_mem _ (List.mem_cons_of_mem _ (List.mem_cons_of_mem _ (List.mem_cons_of_mem _ (List.mem_cons_of_mem _ List.mem_cons_self))))))))))))))) (sub_cons (List.mem_cons_of_mem _ (List.mem_cons_of_mem _ (List.mem_cons_of_mem _ (List.mem_cons_of_mem _ (List.mem_cons_of_mem _ (List.mem_cons_of_mem _ (List.mem_cons_of_mem _ (List.mem_cons_of_mem _ (List.mem_cons_of_mem _ (List.mem_cons_of_mem _ (List.mem_cons_of_mem _ (List.mem_cons_of_mem _ (List.mem_cons_of_mem _ (List.mem_cons_of_mem _ (List.mem_cons_of_mem _ (List.mem_cons_of_mem _ List.mem_cons_self)))))))))))))))) sub_nil)))))))))))))
set_option maxHeartbeats 4000000 in
set_option maxRecDepth 100000 in
theorem c_W5_stateOf {l : Launch} (hl : l.stackTraces = false) (G : hG) (f : hM) (mo dW dA dQ dM dS dL dR dT dZ dI dH dN dK dJ dU dO dF dP dE dX dY dG : Nat) (th : Int32) (B : Nat) (gw0 : Nat → Int32) (ga0 : Nat → Int32) (gw1 : Nat → Int32) (ga1 : Nat → Int32) (mg0 : Int32) (mg1 : Int32) (n : Nat) (a : Nat) (cg : Nat) (x : Nat) (sa : Nat → Nat) (pk : Nat → Nat) (fl : Nat → Nat) (gv : Nat → Nat) (gh : Nat → Int32) (gl : Nat → Int32) (hC : MW G f mo dW dA dQ dM dS dL dR dT dZ dI dH dN dK dJ dU dO dF dP dE dX dY dG th B gw0 ga0 gw1 ga1 mg0 mg1 n a cg x sa pk fl gv gh gl) (hBB : B + 100 < 100000) (i : Int32) : CT l yX5_stateOf (.code yX5_stateOf cX5_stateOf 2 (some .int)) 3 63 0 0 G [.ref mo, .int i] f (fun v f1 => (∃ r9 : Int32, v = some (.int r9)) ∧ (∃ t9 : Int32, MW G f1 mo dW dA dQ dM dS dL dR dT dZ dI dH dN dK dJ dU dO dF dP dE dX dY dG t9 (B + 100) gw0 ga0 gw1 ga1 mg0 mg1 n a cg x sa pk fl gv gh gl) ∧ hEq [mo, dW, dA, dQ, dM, dS, dL, dR, dT, dZ, dI, dH, dN, dK, dJ, dU, dO, dF, dP, dE, dX, dY, dG] f f1) (fun E f1 => False) := by
  refine hp_start hl (own := RX5) (by decide) rfl (Nat.le_of_ble_eq_true rfl) ?_
  intro p e s m args below meth c B0 hr hnm hout hw hS ls hl9
  have hx := B0.1
  have hb := B0.2.1
  have hl9 : lv_has ls 2 [(0, .ref mo), (1, .int i)] := hl9
  obtain ⟨k_mo, hND, hLM, k_dW, k_dA, k_dM, k_dF, k_dP, k_dE, k_dX, k_dY, k_dG, hSA, hB9, hfl9⟩ := id hC
  obtain ⟨nd_dW_dA, nd_dW_dQ, nd_dA_dQ, nd_dM_dS, nd_dM_dL, nd_dM_dR, nd_dM_dT, nd_dM_dZ, nd_dM_dI, nd_dM_dH, nd_dM_dN, nd_dS_dL, nd_dS_dR, nd_dS_dT, nd_dS_dZ, nd_dS_dI, nd_dS_dH, nd_dS_dN, nd_dL_dR, nd_dL_dT, nd_dL_dZ, nd_dL_dI, nd_dL_dH, nd_dL_dN, nd_dR_dT, nd_dR_dZ, nd_dR_dI, nd_dR_dH, nd_dR_dN, nd_dT_dZ, nd_dT_dI, nd_dT_dH, nd_dT_dN, nd_dZ_dI, nd_dZ_dH, nd_dZ_dN, nd_dI_dH, nd_dI_dN, nd_dH_dN, nd_dK_dJ, nd_dK_dU, nd_dK_dO, nd_dJ_dU, nd_dJ_dO, nd_dU_dO, nd_dP_dE, nd_dX_dY⟩ := id hND
  obtain ⟨gQ, gS, gL, gR, gT, gZ, gI, gH, gN, gK, gJ, gU, gO, k_dQ, k_dS, k_dL, k_dR, k_dT, k_dZ, k_dI, k_dH, k_dN, k_dK, k_dJ, k_dU, k_dO, hHd9, hMn9⟩ := id hLM
  refine lv_aload_n hx hb dX5_stateOf_0 rfl (lv_at hl9 0 rfl) ?_
  refine lv_iload_n hx hb dX5_stateOf_1 rfl (lv_at hl9 1 rfl) ?_
  refine hp_V (ci := 5) (As := [.int i]) (rest := []) B0 hw hS (c_W5_asksEnd hl G f mo dW dA dQ dM dS dL dR dT dZ dI dH dN dK dJ dU dO dF dP dE dX dY dG th (nI n) (nI a) (nI x) (nI cg) k_mo i) mV_X5_asksEnd qM_X5_133 rfl k_mo rfl rfl hl9.1 (Nat.le_of_ble_eq_true rfl) ⟨⟨Nat.le_of_ble_eq_true rfl, Nat.le_of_ble_eq_true rfl⟩, Nat.le_of_ble_eq_true rfl, Nat.le_of_ble_eq_true rfl⟩ dX5_stateOf_2 (fun E ce q9 f1 H locs hPX hw hS hce hcv hcl => ?_) (fun v f1 H locs hP hw hS => ?_)
  · exact hPX.elim
  · obtain ⟨t2, h3, hv9, k4⟩ := hP
    rcases hv9 with ⟨ev9, b9 | b9⟩ | ev9
    · subst ev9
      subst b9
      refine W.eq (g2 := F0 m 5 ls [.int 1]) rfl ?_
      refine lv_if_eq (tgt := 17) hx hb dX5_stateOf_5 (by decide) (fun c9 => absurd c9 (by decide)) (fun _ => ?_)
      refine lv_aload_n hx hb dX5_stateOf_8 rfl (lv_at hl9 0 rfl) ?_
      refine hp_get B0 hw 5 rfl in_X5 h3 5 (by decide) qF_X5_22 rfl dX5_stateOf_9 ?_
      refine lv_iload_n hx hb dX5_stateOf_12 rfl (lv_at hl9 1 rfl) ?_
      have n6 : dS ≠ mo := hne k_dS k_mo (Nat.ne_of_beq_eq_false rfl)
      have h5 : f1 dS = some (.inl (cI G, 2, .inl gS)) := (hEq.k k4) _ _ k_dS (ninc n6 nin0)
      refine hp_iald B0 hw h5 (by unfold vp_in; decide) dX5_stateOf_13 ?_
      refine lv_goto (tgt := 18) hx hb dX5_stateOf_14 (by decide) ?_
      have n8 : dQ ≠ mo := hne k_dQ k_mo (Nat.ne_of_beq_eq_false rfl)
      have h7 : f1 dQ = some (.inl (cI G, 12, .inl gQ)) := (hEq.k k4) _ _ k_dQ (ninc n8 nin0)
      have n10 : dL ≠ mo := hne k_dL k_mo (Nat.ne_of_beq_eq_false rfl)
      have h9 : f1 dL = some (.inl (cI G, 2, .inl gL)) := (hEq.k k4) _ _ k_dL (ninc n10 nin0)
      have n12 : dR ≠ mo := hne k_dR k_mo (Nat.ne_of_beq_eq_false rfl)
      have h11 : f1 dR = some (.inl (cI G, 2, .inl gR)) := (hEq.k k4) _ _ k_dR (ninc n12 nin0)
      have n14 : dT ≠ mo := hne k_dT k_mo (Nat.ne_of_beq_eq_false rfl)
      have h13 : f1 dT = some (.inl (cI G, 2, .inl gT)) := (hEq.k k4) _ _ k_dT (ninc n14 nin0)
      have n16 : dZ ≠ mo := hne k_dZ k_mo (Nat.ne_of_beq_eq_false rfl)
      have h15 : f1 dZ = some (.inl (cZ G, 2, .inl gZ)) := (hEq.k k4) _ _ k_dZ (ninc n16 nin0)
      have n18 : dI ≠ mo := hne k_dI k_mo (Nat.ne_of_beq_eq_false rfl)
      have h17 : f1 dI = some (.inl (cI G, 2, .inl gI)) := (hEq.k k4) _ _ k_dI (ninc n18 nin0)
      have n20 : dH ≠ mo := hne k_dH k_mo (Nat.ne_of_beq_eq_false rfl)
      have h19 : f1 dH = some (.inl (cI G, 2, .inl gH)) := (hEq.k k4) _ _ k_dH (ninc n20 nin0)
      have n22 : dN ≠ mo := hne k_dN k_mo (Nat.ne_of_beq_eq_false rfl)
      have h21 : f1 dN = some (.inl (cI G, 2, .inl gN)) := (hEq.k k4) _ _ k_dN (ninc n22 nin0)
      have n24 : dK ≠ mo := hne k_dK k_mo (Nat.ne_of_beq_eq_false rfl)
      have h23 : f1 dK = some (.inl (cI G, 2048, .inl gK)) := (hEq.k k4) _ _ k_dK (ninc n24 nin0)
      have n26 : dJ ≠ mo := hne k_dJ k_mo (Nat.ne_of_beq_eq_false rfl)
      have h25 : f1 dJ = some (.inl (cI G, 2048, .inl gJ)) := (hEq.k k4) _ _ k_dJ (ninc n26 nin0)
      have n28 : dU ≠ mo := hne k_dU k_mo (Nat.ne_of_beq_eq_false rfl)
      have h27 : f1 dU = some (.inl (cI G, 2048, .inl gU)) := (hEq.k k4) _ _ k_dU (ninc n28 nin0)
      have n30 : dO ≠ mo := hne k_dO k_mo (Nat.ne_of_beq_eq_false rfl)
      have h29 : f1 dO = some (.inl (cI G, 2048, .inl gO)) := (hEq.k k4) _ _ k_dO (ninc n30 nin0)
      have n32 : dW ≠ mo := hne k_dW k_mo (Nat.ne_of_beq_eq_false rfl)
      have h31 : f1 dW = some (.inl (cI G, 12, .inl (jn gw0 gw1))) := (hEq.k k4) _ _ k_dW (ninc n32 nin0)
      have n34 : dA ≠ mo := hne k_dA k_mo (Nat.ne_of_beq_eq_false rfl)
      have h33 : f1 dA = some (.inl (cI G, 12, .inl (jn ga0 ga1))) := (hEq.k k4) _ _ k_dA (ninc n34 nin0)
      have n36 : dM ≠ mo := hne k_dM k_mo (Nat.ne_of_beq_eq_false rfl)
      have h35 : f1 dM = some (.inl (cI G, 2, .inl (mA2 mg0 mg1))) := (hEq.k k4) _ _ k_dM (ninc n36 nin0)
      have n38 : dF ≠ mo := hne k_dF k_mo (Nat.ne_of_beq_eq_false rfl)
      have h37 : f1 dF = some (.inl (cI G, 61, .inl (nf sa))) := (hEq.k k4) _ _ k_dF (ninc n38 nin0)
      have n40 : dP ≠ mo := hne k_dP k_mo (Nat.ne_of_beq_eq_false rfl)
      have h39 : f1 dP = some (.inl (cI G, 240, .inl (nf pk))) := (hEq.k k4) _ _ k_dP (ninc n40 nin0)
      have n42 : dE ≠ mo := hne k_dE k_mo (Nat.ne_of_beq_eq_false rfl)
      have h41 : f1 dE = some (.inl (cZ G, 240, .inl gh)) := (hEq.k k4) _ _ k_dE (ninc n42 nin0)
      have n44 : dX ≠ mo := hne k_dX k_mo (Nat.ne_of_beq_eq_false rfl)
      have h43 : f1 dX = some (.inl (cI G, 3, .inl (nf fl))) := (hEq.k k4) _ _ k_dX (ninc n44 nin0)
      have n46 : dY ≠ mo := hne k_dY k_mo (Nat.ne_of_beq_eq_false rfl)
      have h45 : f1 dY = some (.inl (cI G, 3, .inl gl)) := (hEq.k k4) _ _ k_dY (ninc n46 nin0)
      have n48 : dG ≠ mo := hne k_dG k_mo (Nat.ne_of_beq_eq_false rfl)
      have h47 : f1 dG = some (.inl (cI G, 60, .inl (nf gv))) := (hEq.k k4) _ _ k_dG (ninc n48 nin0)
      exact hp_iret (v := (gS (0 : Int32).toNatClampNeg)) B0 hw hS hr ⟨Nat.le_of_ble_eq_true rfl, Nat.le_of_ble_eq_true rfl⟩ dX5_stateOf_18 (⟨⟨_, rfl⟩, ⟨_, ⟨h3, hND, ⟨_, _, _, _, _, _, _, _, _, _, _, _, _, h7, h5, h9, h11, h13, h15, h17, h19, h21, h23, h25, h27, h29, hHd9, (hMn.mono hMn9 (by omega))⟩, h31, h33, h35, h37, h39, h41, h43, h45, h47, hSA, hB9, hfl9⟩⟩, (show hEq [mo, dW, dA, dQ, dM, dS, dL, dR, dT, dZ, dI, dH, dN, dK, dJ, dU, dO, dF, dP, dE, dX, dY, dG] f f1 from (hEq.mono k4 (sub_cons List.mem_cons_self sub_nil)))⟩)
    · subst ev9
      subst b9
      refine W.eq (g2 := F0 m 5 ls [.int 1]) rfl ?_
      refine lv_if_eq (tgt := 17) hx hb dX5_stateOf_5 (by decide) (fun c9 => absurd c9 (by decide)) (fun _ => ?_)
      refine lv_aload_n hx hb dX5_stateOf_8 rfl (lv_at hl9 0 rfl) ?_
      refine hp_get B0 hw 5 rfl in_X5 h3 5 (by decide) qF_X5_22 rfl dX5_stateOf_9 ?_
      refine lv_iload_n hx hb dX5_stateOf_12 rfl (lv_at hl9 1 rfl) ?_
      have n50 : dS ≠ mo := hne k_dS k_mo (Nat.ne_of_beq_eq_false rfl)
      have h49 : f1 dS = some (.inl (cI G, 2, .inl gS)) := (hEq.k k4) _ _ k_dS (ninc n50 nin0)
      refine hp_iald B0 hw h49 (by unfold vp_in; decide) dX5_stateOf_13 ?_
      refine lv_goto (tgt := 18) hx hb dX5_stateOf_14 (by decide) ?_
      have n52 : dQ ≠ mo := hne k_dQ k_mo (Nat.ne_of_beq_eq_false rfl)
      have h51 : f1 dQ = some (.inl (cI G, 12, .inl gQ)) := (hEq.k k4) _ _ k_dQ (ninc n52 nin0)
      have n54 : dL ≠ mo := hne k_dL k_mo (Nat.ne_of_beq_eq_false rfl)
      have h53 : f1 dL = some (.inl (cI G, 2, .inl gL)) := (hEq.k k4) _ _ k_dL (ninc n54 nin0)
      have n56 : dR ≠ mo := hne k_dR k_mo (Nat.ne_of_beq_eq_false rfl)
      have h55 : f1 dR = some (.inl (cI G, 2, .inl gR)) := (hEq.k k4) _ _ k_dR (ninc n56 nin0)
      have n58 : dT ≠ mo := hne k_dT k_mo (Nat.ne_of_beq_eq_false rfl)
      have h57 : f1 dT = some (.inl (cI G, 2, .inl gT)) := (hEq.k k4) _ _ k_dT (ninc n58 nin0)
      have n60 : dZ ≠ mo := hne k_dZ k_mo (Nat.ne_of_beq_eq_false rfl)
      have h59 : f1 dZ = some (.inl (cZ G, 2, .inl gZ)) := (hEq.k k4) _ _ k_dZ (ninc n60 nin0)
      have n62 : dI ≠ mo := hne k_dI k_mo (Nat.ne_of_beq_eq_false rfl)
      have h61 : f1 dI = some (.inl (cI G, 2, .inl gI)) := (hEq.k k4) _ _ k_dI (ninc n62 nin0)
      have n64 : dH ≠ mo := hne k_dH k_mo (Nat.ne_of_beq_eq_false rfl)
      have h63 : f1 dH = some (.inl (cI G, 2, .inl gH)) := (hEq.k k4) _ _ k_dH (ninc n64 nin0)
      have n66 : dN ≠ mo := hne k_dN k_mo (Nat.ne_of_beq_eq_false rfl)
      have h65 : f1 dN = some (.inl (cI G, 2, .inl gN)) := (hEq.k k4) _ _ k_dN (ninc n66 nin0)
      have n68 : dK ≠ mo := hne k_dK k_mo (Nat.ne_of_beq_eq_false rfl)
      have h67 : f1 dK = some (.inl (cI G, 2048, .inl gK)) := (hEq.k k4) _ _ k_dK (ninc n68 nin0)
      have n70 : dJ ≠ mo := hne k_dJ k_mo (Nat.ne_of_beq_eq_false rfl)
      have h69 : f1 dJ = some (.inl (cI G, 2048, .inl gJ)) := (hEq.k k4) _ _ k_dJ (ninc n70 nin0)
      have n72 : dU ≠ mo := hne k_dU k_mo (Nat.ne_of_beq_eq_false rfl)
      have h71 : f1 dU = some (.inl (cI G, 2048, .inl gU)) := (hEq.k k4) _ _ k_dU (ninc n72 nin0)
      have n74 : dO ≠ mo := hne k_dO k_mo (Nat.ne_of_beq_eq_false rfl)
      have h73 : f1 dO = some (.inl (cI G, 2048, .inl gO)) := (hEq.k k4) _ _ k_dO (ninc n74 nin0)
      have n76 : dW ≠ mo := hne k_dW k_mo (Nat.ne_of_beq_eq_false rfl)
      have h75 : f1 dW = some (.inl (cI G, 12, .inl (jn gw0 gw1))) := (hEq.k k4) _ _ k_dW (ninc n76 nin0)
      have n78 : dA ≠ mo := hne k_dA k_mo (Nat.ne_of_beq_eq_false rfl)
      have h77 : f1 dA = some (.inl (cI G, 12, .inl (jn ga0 ga1))) := (hEq.k k4) _ _ k_dA (ninc n78 nin0)
      have n80 : dM ≠ mo := hne k_dM k_mo (Nat.ne_of_beq_eq_false rfl)
      have h79 : f1 dM = some (.inl (cI G, 2, .inl (mA2 mg0 mg1))) := (hEq.k k4) _ _ k_dM (ninc n80 nin0)
      have n82 : dF ≠ mo := hne k_dF k_mo (Nat.ne_of_beq_eq_false rfl)
      have h81 : f1 dF = some (.inl (cI G, 61, .inl (nf sa))) := (hEq.k k4) _ _ k_dF (ninc n82 nin0)
      have n84 : dP ≠ mo := hne k_dP k_mo (Nat.ne_of_beq_eq_false rfl)
      have h83 : f1 dP = some (.inl (cI G, 240, .inl (nf pk))) := (hEq.k k4) _ _ k_dP (ninc n84 nin0)
      have n86 : dE ≠ mo := hne k_dE k_mo (Nat.ne_of_beq_eq_false rfl)
      have h85 : f1 dE = some (.inl (cZ G, 240, .inl gh)) := (hEq.k k4) _ _ k_dE (ninc n86 nin0)
      have n88 : dX ≠ mo := hne k_dX k_mo (Nat.ne_of_beq_eq_false rfl)
      have h87 : f1 dX = some (.inl (cI G, 3, .inl (nf fl))) := (hEq.k k4) _ _ k_dX (ninc n88 nin0)
      have n90 : dY ≠ mo := hne k_dY k_mo (Nat.ne_of_beq_eq_false rfl)
      have h89 : f1 dY = some (.inl (cI G, 3, .inl gl)) := (hEq.k k4) _ _ k_dY (ninc n90 nin0)
      have n92 : dG ≠ mo := hne k_dG k_mo (Nat.ne_of_beq_eq_false rfl)
      have h91 : f1 dG = some (.inl (cI G, 60, .inl (nf gv))) := (hEq.k k4) _ _ k_dG (ninc n92 nin0)
      exact hp_iret (v := (gS (1 : Int32).toNatClampNeg)) B0 hw hS hr ⟨Nat.le_of_ble_eq_true rfl, Nat.le_of_ble_eq_true rfl⟩ dX5_stateOf_18 (⟨⟨_, rfl⟩, ⟨_, ⟨h3, hND, ⟨_, _, _, _, _, _, _, _, _, _, _, _, _, h51, h49, h53, h55, h57, h59, h61, h63, h65, h67, h69, h71, h73, hHd9, (hMn.mono hMn9 (by omega))⟩, h75, h77, h79, h81, h83, h85, h87, h89, h91, hSA, hB9, hfl9⟩⟩, (show hEq [mo, dW, dA, dQ, dM, dS, dL, dR, dT, dZ, dI, dH, dN, dK, dJ, dU, dO, dF, dP, dE, dX, dY, dG] f f1 from (hEq.mono k4 (sub_cons List.mem_cons_self sub_nil)))⟩)
    · subst ev9
      refine W.eq (g2 := F0 m 5 ls [.int 0]) rfl ?_
      refine lv_if_eq (tgt := 17) hx hb dX5_stateOf_5 (by decide) (fun _ => ?_) (fun c9 => absurd (by decide) c9)
      refine lv_iconst (v := 0) hx hb dX5_stateOf_17 (by decide) ?_
      have n94 : dQ ≠ mo := hne k_dQ k_mo (Nat.ne_of_beq_eq_false rfl)
      have h93 : f1 dQ = some (.inl (cI G, 12, .inl gQ)) := (hEq.k k4) _ _ k_dQ (ninc n94 nin0)
      have n96 : dS ≠ mo := hne k_dS k_mo (Nat.ne_of_beq_eq_false rfl)
      have h95 : f1 dS = some (.inl (cI G, 2, .inl gS)) := (hEq.k k4) _ _ k_dS (ninc n96 nin0)
      have n98 : dL ≠ mo := hne k_dL k_mo (Nat.ne_of_beq_eq_false rfl)
      have h97 : f1 dL = some (.inl (cI G, 2, .inl gL)) := (hEq.k k4) _ _ k_dL (ninc n98 nin0)
      have n100 : dR ≠ mo := hne k_dR k_mo (Nat.ne_of_beq_eq_false rfl)
      have h99 : f1 dR = some (.inl (cI G, 2, .inl gR)) := (hEq.k k4) _ _ k_dR (ninc n100 nin0)
      have n102 : dT ≠ mo := hne k_dT k_mo (Nat.ne_of_beq_eq_false rfl)
      have h101 : f1 dT = some (.inl (cI G, 2, .inl gT)) := (hEq.k k4) _ _ k_dT (ninc n102 nin0)
      have n104 : dZ ≠ mo := hne k_dZ k_mo (Nat.ne_of_beq_eq_false rfl)
      have h103 : f1 dZ = some (.inl (cZ G, 2, .inl gZ)) := (hEq.k k4) _ _ k_dZ (ninc n104 nin0)
      have n106 : dI ≠ mo := hne k_dI k_mo (Nat.ne_of_beq_eq_false rfl)
      have h105 : f1 dI = some (.inl (cI G, 2, .inl gI)) := (hEq.k k4) _ _ k_dI (ninc n106 nin0)
      have n108 : dH ≠ mo := hne k_dH k_mo (Nat.ne_of_beq_eq_false rfl)
      have h107 : f1 dH = some (.inl (cI G, 2, .inl gH)) := (hEq.k k4) _ _ k_dH (ninc n108 nin0)
      have n110 : dN ≠ mo := hne k_dN k_mo (Nat.ne_of_beq_eq_false rfl)
      have h109 : f1 dN = some (.inl (cI G, 2, .inl gN)) := (hEq.k k4) _ _ k_dN (ninc n110 nin0)
      have n112 : dK ≠ mo := hne k_dK k_mo (Nat.ne_of_beq_eq_false rfl)
      have h111 : f1 dK = some (.inl (cI G, 2048, .inl gK)) := (hEq.k k4) _ _ k_dK (ninc n112 nin0)
      have n114 : dJ ≠ mo := hne k_dJ k_mo (Nat.ne_of_beq_eq_false rfl)
      have h113 : f1 dJ = some (.inl (cI G, 2048, .inl gJ)) := (hEq.k k4) _ _ k_dJ (ninc n114 nin0)
      have n116 : dU ≠ mo := hne k_dU k_mo (Nat.ne_of_beq_eq_false rfl)
      have h115 : f1 dU = some (.inl (cI G, 2048, .inl gU)) := (hEq.k k4) _ _ k_dU (ninc n116 nin0)
      have n118 : dO ≠ mo := hne k_dO k_mo (Nat.ne_of_beq_eq_false rfl)
      have h117 : f1 dO = some (.inl (cI G, 2048, .inl gO)) := (hEq.k k4) _ _ k_dO (ninc n118 nin0)
      have n120 : dW ≠ mo := hne k_dW k_mo (Nat.ne_of_beq_eq_false rfl)
      have h119 : f1 dW = some (.inl (cI G, 12, .inl (jn gw0 gw1))) := (hEq.k k4) _ _ k_dW (ninc n120 nin0)
      have n122 : dA ≠ mo := hne k_dA k_mo (Nat.ne_of_beq_eq_false rfl)
      have h121 : f1 dA = some (.inl (cI G, 12, .inl (jn ga0 ga1))) := (hEq.k k4) _ _ k_dA (ninc n122 nin0)
      have n124 : dM ≠ mo := hne k_dM k_mo (Nat.ne_of_beq_eq_false rfl)
      have h123 : f1 dM = some (.inl (cI G, 2, .inl (mA2 mg0 mg1))) := (hEq.k k4) _ _ k_dM (ninc n124 nin0)
      have n126 : dF ≠ mo := hne k_dF k_mo (Nat.ne_of_beq_eq_false rfl)
      have h125 : f1 dF = some (.inl (cI G, 61, .inl (nf sa))) := (hEq.k k4) _ _ k_dF (ninc n126 nin0)
      have n128 : dP ≠ mo := hne k_dP k_mo (Nat.ne_of_beq_eq_false rfl)
      have h127 : f1 dP = some (.inl (cI G, 240, .inl (nf pk))) := (hEq.k k4) _ _ k_dP (ninc n128 nin0)
      have n130 : dE ≠ mo := hne k_dE k_mo (Nat.ne_of_beq_eq_false rfl)
      have h129 : f1 dE = some (.inl (cZ G, 240, .inl gh)) := (hEq.k k4) _ _ k_dE (ninc n130 nin0)
      have n132 : dX ≠ mo := hne k_dX k_mo (Nat.ne_of_beq_eq_false rfl)
      have h131 : f1 dX = some (.inl (cI G, 3, .inl (nf fl))) := (hEq.k k4) _ _ k_dX (ninc n132 nin0)
      have n134 : dY ≠ mo := hne k_dY k_mo (Nat.ne_of_beq_eq_false rfl)
      have h133 : f1 dY = some (.inl (cI G, 3, .inl gl)) := (hEq.k k4) _ _ k_dY (ninc n134 nin0)
      have n136 : dG ≠ mo := hne k_dG k_mo (Nat.ne_of_beq_eq_false rfl)
      have h135 : f1 dG = some (.inl (cI G, 60, .inl (nf gv))) := (hEq.k k4) _ _ k_dG (ninc n136 nin0)
      exact hp_iret (v := 0) B0 hw hS hr ⟨Nat.le_of_ble_eq_true rfl, Nat.le_of_ble_eq_true rfl⟩ dX5_stateOf_18 (⟨⟨_, rfl⟩, ⟨_, ⟨h3, hND, ⟨_, _, _, _, _, _, _, _, _, _, _, _, _, h93, h95, h97, h99, h101, h103, h105, h107, h109, h111, h113, h115, h117, hHd9, (hMn.mono hMn9 (by omega))⟩, h119, h121, h123, h125, h127, h129, h131, h133, h135, hSA, hB9, hfl9⟩⟩, (show hEq [mo, dW, dA, dQ, dM, dS, dL, dR, dT, dZ, dI, dH, dN, dK, dJ, dU, dO, dF, dP, dE, dX, dY, dG] f f1 from (hEq.mono k4 (sub_cons List.mem_cons_self sub_nil)))⟩)

set_option maxHeartbeats 4000000 in
set_option maxRecDepth 100000 in
theorem c_W5_requests {l : Launch} (hl : l.stackTraces = false) (G : hG) (f : hM) (mo dW dA dQ dM dS dL dR dT dZ dI dH dN dK dJ dU dO dF dP dE dX dY dG : Nat) (th : Int32) (B : Nat) (gw0 : Nat → Int32) (ga0 : Nat → Int32) (gw1 : Nat → Int32) (ga1 : Nat → Int32) (mg0 : Int32) (mg1 : Int32) (n : Nat) (a : Nat) (cg : Nat) (x : Nat) (sa : Nat → Nat) (pk : Nat → Nat) (fl : Nat → Nat) (gv : Nat → Nat) (gh : Nat → Int32) (gl : Nat → Int32) (hC : MW G f mo dW dA dQ dM dS dL dR dT dZ dI dH dN dK dJ dU dO dF dP dE dX dY dG th B gw0 ga0 gw1 ga1 mg0 mg1 n a cg x sa pk fl gv gh gl) (hBB : B + 100 < 100000) (i : Int32) : CT l yX5_requests (.code yX5_requests cX5_requests 2 (some .int)) 3 63 0 0 G [.ref mo, .int i] f (fun v f1 => (∃ r9 : Int32, v = some (.int r9)) ∧ (∃ t9 : Int32, MW G f1 mo dW dA dQ dM dS dL dR dT dZ dI dH dN dK dJ dU dO dF dP dE dX dY dG t9 (B + 100) gw0 ga0 gw1 ga1 mg0 mg1 n a cg x sa pk fl gv gh gl) ∧ hEq [mo, dW, dA, dQ, dM, dS, dL, dR, dT, dZ, dI, dH, dN, dK, dJ, dU, dO, dF, dP, dE, dX, dY, dG] f f1) (fun E f1 => False) := by
  refine hp_start hl (own := RX5) (by decide) rfl (Nat.le_of_ble_eq_true rfl) ?_
  intro p e s m args below meth c B0 hr hnm hout hw hS ls hl9
  have hx := B0.1
  have hb := B0.2.1
  have hl9 : lv_has ls 2 [(0, .ref mo), (1, .int i)] := hl9
  obtain ⟨k_mo, hND, hLM, k_dW, k_dA, k_dM, k_dF, k_dP, k_dE, k_dX, k_dY, k_dG, hSA, hB9, hfl9⟩ := id hC
  obtain ⟨nd_dW_dA, nd_dW_dQ, nd_dA_dQ, nd_dM_dS, nd_dM_dL, nd_dM_dR, nd_dM_dT, nd_dM_dZ, nd_dM_dI, nd_dM_dH, nd_dM_dN, nd_dS_dL, nd_dS_dR, nd_dS_dT, nd_dS_dZ, nd_dS_dI, nd_dS_dH, nd_dS_dN, nd_dL_dR, nd_dL_dT, nd_dL_dZ, nd_dL_dI, nd_dL_dH, nd_dL_dN, nd_dR_dT, nd_dR_dZ, nd_dR_dI, nd_dR_dH, nd_dR_dN, nd_dT_dZ, nd_dT_dI, nd_dT_dH, nd_dT_dN, nd_dZ_dI, nd_dZ_dH, nd_dZ_dN, nd_dI_dH, nd_dI_dN, nd_dH_dN, nd_dK_dJ, nd_dK_dU, nd_dK_dO, nd_dJ_dU, nd_dJ_dO, nd_dU_dO, nd_dP_dE, nd_dX_dY⟩ := id hND
  obtain ⟨gQ, gS, gL, gR, gT, gZ, gI, gH, gN, gK, gJ, gU, gO, k_dQ, k_dS, k_dL, k_dR, k_dT, k_dZ, k_dI, k_dH, k_dN, k_dK, k_dJ, k_dU, k_dO, hHd9, hMn9⟩ := id hLM
  refine lv_aload_n hx hb dX5_requests_0 rfl (lv_at hl9 0 rfl) ?_
  refine lv_iload_n hx hb dX5_requests_1 rfl (lv_at hl9 1 rfl) ?_
  refine hp_V (ci := 5) (As := [.int i]) (rest := []) B0 hw hS (c_W5_asksEnd hl G f mo dW dA dQ dM dS dL dR dT dZ dI dH dN dK dJ dU dO dF dP dE dX dY dG th (nI n) (nI a) (nI x) (nI cg) k_mo i) mV_X5_asksEnd qM_X5_133 rfl k_mo rfl rfl hl9.1 (Nat.le_of_ble_eq_true rfl) ⟨⟨Nat.le_of_ble_eq_true rfl, Nat.le_of_ble_eq_true rfl⟩, Nat.le_of_ble_eq_true rfl, Nat.le_of_ble_eq_true rfl⟩ dX5_requests_2 (fun E ce q9 f1 H locs hPX hw hS hce hcv hcl => ?_) (fun v f1 H locs hP hw hS => ?_)
  · exact hPX.elim
  · obtain ⟨t2, h3, hv9, k4⟩ := hP
    rcases hv9 with ⟨ev9, b9 | b9⟩ | ev9
    · subst ev9
      subst b9
      refine W.eq (g2 := F0 m 5 ls [.int 1]) rfl ?_
      refine lv_if_eq (tgt := 17) hx hb dX5_requests_5 (by decide) (fun c9 => absurd c9 (by decide)) (fun _ => ?_)
      refine lv_aload_n hx hb dX5_requests_8 rfl (lv_at hl9 0 rfl) ?_
      refine hp_get B0 hw 5 rfl in_X5 h3 7 (by decide) qF_X5_28 rfl dX5_requests_9 ?_
      refine lv_iload_n hx hb dX5_requests_12 rfl (lv_at hl9 1 rfl) ?_
      have n6 : dR ≠ mo := hne k_dR k_mo (Nat.ne_of_beq_eq_false rfl)
      have h5 : f1 dR = some (.inl (cI G, 2, .inl gR)) := (hEq.k k4) _ _ k_dR (ninc n6 nin0)
      refine hp_iald B0 hw h5 (by unfold vp_in; decide) dX5_requests_13 ?_
      refine lv_goto (tgt := 18) hx hb dX5_requests_14 (by decide) ?_
      have n8 : dQ ≠ mo := hne k_dQ k_mo (Nat.ne_of_beq_eq_false rfl)
      have h7 : f1 dQ = some (.inl (cI G, 12, .inl gQ)) := (hEq.k k4) _ _ k_dQ (ninc n8 nin0)
      have n10 : dS ≠ mo := hne k_dS k_mo (Nat.ne_of_beq_eq_false rfl)
      have h9 : f1 dS = some (.inl (cI G, 2, .inl gS)) := (hEq.k k4) _ _ k_dS (ninc n10 nin0)
      have n12 : dL ≠ mo := hne k_dL k_mo (Nat.ne_of_beq_eq_false rfl)
      have h11 : f1 dL = some (.inl (cI G, 2, .inl gL)) := (hEq.k k4) _ _ k_dL (ninc n12 nin0)
      have n14 : dT ≠ mo := hne k_dT k_mo (Nat.ne_of_beq_eq_false rfl)
      have h13 : f1 dT = some (.inl (cI G, 2, .inl gT)) := (hEq.k k4) _ _ k_dT (ninc n14 nin0)
      have n16 : dZ ≠ mo := hne k_dZ k_mo (Nat.ne_of_beq_eq_false rfl)
      have h15 : f1 dZ = some (.inl (cZ G, 2, .inl gZ)) := (hEq.k k4) _ _ k_dZ (ninc n16 nin0)
      have n18 : dI ≠ mo := hne k_dI k_mo (Nat.ne_of_beq_eq_false rfl)
      have h17 : f1 dI = some (.inl (cI G, 2, .inl gI)) := (hEq.k k4) _ _ k_dI (ninc n18 nin0)
      have n20 : dH ≠ mo := hne k_dH k_mo (Nat.ne_of_beq_eq_false rfl)
      have h19 : f1 dH = some (.inl (cI G, 2, .inl gH)) := (hEq.k k4) _ _ k_dH (ninc n20 nin0)
      have n22 : dN ≠ mo := hne k_dN k_mo (Nat.ne_of_beq_eq_false rfl)
      have h21 : f1 dN = some (.inl (cI G, 2, .inl gN)) := (hEq.k k4) _ _ k_dN (ninc n22 nin0)
      have n24 : dK ≠ mo := hne k_dK k_mo (Nat.ne_of_beq_eq_false rfl)
      have h23 : f1 dK = some (.inl (cI G, 2048, .inl gK)) := (hEq.k k4) _ _ k_dK (ninc n24 nin0)
      have n26 : dJ ≠ mo := hne k_dJ k_mo (Nat.ne_of_beq_eq_false rfl)
      have h25 : f1 dJ = some (.inl (cI G, 2048, .inl gJ)) := (hEq.k k4) _ _ k_dJ (ninc n26 nin0)
      have n28 : dU ≠ mo := hne k_dU k_mo (Nat.ne_of_beq_eq_false rfl)
      have h27 : f1 dU = some (.inl (cI G, 2048, .inl gU)) := (hEq.k k4) _ _ k_dU (ninc n28 nin0)
      have n30 : dO ≠ mo := hne k_dO k_mo (Nat.ne_of_beq_eq_false rfl)
      have h29 : f1 dO = some (.inl (cI G, 2048, .inl gO)) := (hEq.k k4) _ _ k_dO (ninc n30 nin0)
      have n32 : dW ≠ mo := hne k_dW k_mo (Nat.ne_of_beq_eq_false rfl)
      have h31 : f1 dW = some (.inl (cI G, 12, .inl (jn gw0 gw1))) := (hEq.k k4) _ _ k_dW (ninc n32 nin0)
      have n34 : dA ≠ mo := hne k_dA k_mo (Nat.ne_of_beq_eq_false rfl)
      have h33 : f1 dA = some (.inl (cI G, 12, .inl (jn ga0 ga1))) := (hEq.k k4) _ _ k_dA (ninc n34 nin0)
      have n36 : dM ≠ mo := hne k_dM k_mo (Nat.ne_of_beq_eq_false rfl)
      have h35 : f1 dM = some (.inl (cI G, 2, .inl (mA2 mg0 mg1))) := (hEq.k k4) _ _ k_dM (ninc n36 nin0)
      have n38 : dF ≠ mo := hne k_dF k_mo (Nat.ne_of_beq_eq_false rfl)
      have h37 : f1 dF = some (.inl (cI G, 61, .inl (nf sa))) := (hEq.k k4) _ _ k_dF (ninc n38 nin0)
      have n40 : dP ≠ mo := hne k_dP k_mo (Nat.ne_of_beq_eq_false rfl)
      have h39 : f1 dP = some (.inl (cI G, 240, .inl (nf pk))) := (hEq.k k4) _ _ k_dP (ninc n40 nin0)
      have n42 : dE ≠ mo := hne k_dE k_mo (Nat.ne_of_beq_eq_false rfl)
      have h41 : f1 dE = some (.inl (cZ G, 240, .inl gh)) := (hEq.k k4) _ _ k_dE (ninc n42 nin0)
      have n44 : dX ≠ mo := hne k_dX k_mo (Nat.ne_of_beq_eq_false rfl)
      have h43 : f1 dX = some (.inl (cI G, 3, .inl (nf fl))) := (hEq.k k4) _ _ k_dX (ninc n44 nin0)
      have n46 : dY ≠ mo := hne k_dY k_mo (Nat.ne_of_beq_eq_false rfl)
      have h45 : f1 dY = some (.inl (cI G, 3, .inl gl)) := (hEq.k k4) _ _ k_dY (ninc n46 nin0)
      have n48 : dG ≠ mo := hne k_dG k_mo (Nat.ne_of_beq_eq_false rfl)
      have h47 : f1 dG = some (.inl (cI G, 60, .inl (nf gv))) := (hEq.k k4) _ _ k_dG (ninc n48 nin0)
      exact hp_iret (v := (gR (0 : Int32).toNatClampNeg)) B0 hw hS hr ⟨Nat.le_of_ble_eq_true rfl, Nat.le_of_ble_eq_true rfl⟩ dX5_requests_18 (⟨⟨_, rfl⟩, ⟨_, ⟨h3, hND, ⟨_, _, _, _, _, _, _, _, _, _, _, _, _, h7, h9, h11, h5, h13, h15, h17, h19, h21, h23, h25, h27, h29, hHd9, (hMn.mono hMn9 (by omega))⟩, h31, h33, h35, h37, h39, h41, h43, h45, h47, hSA, hB9, hfl9⟩⟩, (show hEq [mo, dW, dA, dQ, dM, dS, dL, dR, dT, dZ, dI, dH, dN, dK, dJ, dU, dO, dF, dP, dE, dX, dY, dG] f f1 from (hEq.mono k4 (sub_cons List.mem_cons_self sub_nil)))⟩)
    · subst ev9
      subst b9
      refine W.eq (g2 := F0 m 5 ls [.int 1]) rfl ?_
      refine lv_if_eq (tgt := 17) hx hb dX5_requests_5 (by decide) (fun c9 => absurd c9 (by decide)) (fun _ => ?_)
      refine lv_aload_n hx hb dX5_requests_8 rfl (lv_at hl9 0 rfl) ?_
      refine hp_get B0 hw 5 rfl in_X5 h3 7 (by decide) qF_X5_28 rfl dX5_requests_9 ?_
      refine lv_iload_n hx hb dX5_requests_12 rfl (lv_at hl9 1 rfl) ?_
      have n50 : dR ≠ mo := hne k_dR k_mo (Nat.ne_of_beq_eq_false rfl)
      have h49 : f1 dR = some (.inl (cI G, 2, .inl gR)) := (hEq.k k4) _ _ k_dR (ninc n50 nin0)
      refine hp_iald B0 hw h49 (by unfold vp_in; decide) dX5_requests_13 ?_
      refine lv_goto (tgt := 18) hx hb dX5_requests_14 (by decide) ?_
      have n52 : dQ ≠ mo := hne k_dQ k_mo (Nat.ne_of_beq_eq_false rfl)
      have h51 : f1 dQ = some (.inl (cI G, 12, .inl gQ)) := (hEq.k k4) _ _ k_dQ (ninc n52 nin0)
      have n54 : dS ≠ mo := hne k_dS k_mo (Nat.ne_of_beq_eq_false rfl)
      have h53 : f1 dS = some (.inl (cI G, 2, .inl gS)) := (hEq.k k4) _ _ k_dS (ninc n54 nin0)
      have n56 : dL ≠ mo := hne k_dL k_mo (Nat.ne_of_beq_eq_false rfl)
      have h55 : f1 dL = some (.inl (cI G, 2, .inl gL)) := (hEq.k k4) _ _ k_dL (ninc n56 nin0)
      have n58 : dT ≠ mo := hne k_dT k_mo (Nat.ne_of_beq_eq_false rfl)
      have h57 : f1 dT = some (.inl (cI G, 2, .inl gT)) := (hEq.k k4) _ _ k_dT (ninc n58 nin0)
      have n60 : dZ ≠ mo := hne k_dZ k_mo (Nat.ne_of_beq_eq_false rfl)
      have h59 : f1 dZ = some (.inl (cZ G, 2, .inl gZ)) := (hEq.k k4) _ _ k_dZ (ninc n60 nin0)
      have n62 : dI ≠ mo := hne k_dI k_mo (Nat.ne_of_beq_eq_false rfl)
      have h61 : f1 dI = some (.inl (cI G, 2, .inl gI)) := (hEq.k k4) _ _ k_dI (ninc n62 nin0)
      have n64 : dH ≠ mo := hne k_dH k_mo (Nat.ne_of_beq_eq_false rfl)
      have h63 : f1 dH = some (.inl (cI G, 2, .inl gH)) := (hEq.k k4) _ _ k_dH (ninc n64 nin0)
      have n66 : dN ≠ mo := hne k_dN k_mo (Nat.ne_of_beq_eq_false rfl)
      have h65 : f1 dN = some (.inl (cI G, 2, .inl gN)) := (hEq.k k4) _ _ k_dN (ninc n66 nin0)
      have n68 : dK ≠ mo := hne k_dK k_mo (Nat.ne_of_beq_eq_false rfl)
      have h67 : f1 dK = some (.inl (cI G, 2048, .inl gK)) := (hEq.k k4) _ _ k_dK (ninc n68 nin0)
      have n70 : dJ ≠ mo := hne k_dJ k_mo (Nat.ne_of_beq_eq_false rfl)
      have h69 : f1 dJ = some (.inl (cI G, 2048, .inl gJ)) := (hEq.k k4) _ _ k_dJ (ninc n70 nin0)
      have n72 : dU ≠ mo := hne k_dU k_mo (Nat.ne_of_beq_eq_false rfl)
      have h71 : f1 dU = some (.inl (cI G, 2048, .inl gU)) := (hEq.k k4) _ _ k_dU (ninc n72 nin0)
      have n74 : dO ≠ mo := hne k_dO k_mo (Nat.ne_of_beq_eq_false rfl)
      have h73 : f1 dO = some (.inl (cI G, 2048, .inl gO)) := (hEq.k k4) _ _ k_dO (ninc n74 nin0)
      have n76 : dW ≠ mo := hne k_dW k_mo (Nat.ne_of_beq_eq_false rfl)
      have h75 : f1 dW = some (.inl (cI G, 12, .inl (jn gw0 gw1))) := (hEq.k k4) _ _ k_dW (ninc n76 nin0)
      have n78 : dA ≠ mo := hne k_dA k_mo (Nat.ne_of_beq_eq_false rfl)
      have h77 : f1 dA = some (.inl (cI G, 12, .inl (jn ga0 ga1))) := (hEq.k k4) _ _ k_dA (ninc n78 nin0)
      have n80 : dM ≠ mo := hne k_dM k_mo (Nat.ne_of_beq_eq_false rfl)
      have h79 : f1 dM = some (.inl (cI G, 2, .inl (mA2 mg0 mg1))) := (hEq.k k4) _ _ k_dM (ninc n80 nin0)
      have n82 : dF ≠ mo := hne k_dF k_mo (Nat.ne_of_beq_eq_false rfl)
      have h81 : f1 dF = some (.inl (cI G, 61, .inl (nf sa))) := (hEq.k k4) _ _ k_dF (ninc n82 nin0)
      have n84 : dP ≠ mo := hne k_dP k_mo (Nat.ne_of_beq_eq_false rfl)
      have h83 : f1 dP = some (.inl (cI G, 240, .inl (nf pk))) := (hEq.k k4) _ _ k_dP (ninc n84 nin0)
      have n86 : dE ≠ mo := hne k_dE k_mo (Nat.ne_of_beq_eq_false rfl)
      have h85 : f1 dE = some (.inl (cZ G, 240, .inl gh)) := (hEq.k k4) _ _ k_dE (ninc n86 nin0)
      have n88 : dX ≠ mo := hne k_dX k_mo (Nat.ne_of_beq_eq_false rfl)
      have h87 : f1 dX = some (.inl (cI G, 3, .inl (nf fl))) := (hEq.k k4) _ _ k_dX (ninc n88 nin0)
      have n90 : dY ≠ mo := hne k_dY k_mo (Nat.ne_of_beq_eq_false rfl)
      have h89 : f1 dY = some (.inl (cI G, 3, .inl gl)) := (hEq.k k4) _ _ k_dY (ninc n90 nin0)
      have n92 : dG ≠ mo := hne k_dG k_mo (Nat.ne_of_beq_eq_false rfl)
      have h91 : f1 dG = some (.inl (cI G, 60, .inl (nf gv))) := (hEq.k k4) _ _ k_dG (ninc n92 nin0)
      exact hp_iret (v := (gR (1 : Int32).toNatClampNeg)) B0 hw hS hr ⟨Nat.le_of_ble_eq_true rfl, Nat.le_of_ble_eq_true rfl⟩ dX5_requests_18 (⟨⟨_, rfl⟩, ⟨_, ⟨h3, hND, ⟨_, _, _, _, _, _, _, _, _, _, _, _, _, h51, h53, h55, h49, h57, h59, h61, h63, h65, h67, h69, h71, h73, hHd9, (hMn.mono hMn9 (by omega))⟩, h75, h77, h79, h81, h83, h85, h87, h89, h91, hSA, hB9, hfl9⟩⟩, (show hEq [mo, dW, dA, dQ, dM, dS, dL, dR, dT, dZ, dI, dH, dN, dK, dJ, dU, dO, dF, dP, dE, dX, dY, dG] f f1 from (hEq.mono k4 (sub_cons List.mem_cons_self sub_nil)))⟩)
    · subst ev9
      refine W.eq (g2 := F0 m 5 ls [.int 0]) rfl ?_
      refine lv_if_eq (tgt := 17) hx hb dX5_requests_5 (by decide) (fun _ => ?_) (fun c9 => absurd (by decide) c9)
      refine lv_iconst (v := 0) hx hb dX5_requests_17 (by decide) ?_
      have n94 : dQ ≠ mo := hne k_dQ k_mo (Nat.ne_of_beq_eq_false rfl)
      have h93 : f1 dQ = some (.inl (cI G, 12, .inl gQ)) := (hEq.k k4) _ _ k_dQ (ninc n94 nin0)
      have n96 : dS ≠ mo := hne k_dS k_mo (Nat.ne_of_beq_eq_false rfl)
      have h95 : f1 dS = some (.inl (cI G, 2, .inl gS)) := (hEq.k k4) _ _ k_dS (ninc n96 nin0)
      have n98 : dL ≠ mo := hne k_dL k_mo (Nat.ne_of_beq_eq_false rfl)
      have h97 : f1 dL = some (.inl (cI G, 2, .inl gL)) := (hEq.k k4) _ _ k_dL (ninc n98 nin0)
      have n100 : dR ≠ mo := hne k_dR k_mo (Nat.ne_of_beq_eq_false rfl)
      have h99 : f1 dR = some (.inl (cI G, 2, .inl gR)) := (hEq.k k4) _ _ k_dR (ninc n100 nin0)
      have n102 : dT ≠ mo := hne k_dT k_mo (Nat.ne_of_beq_eq_false rfl)
      have h101 : f1 dT = some (.inl (cI G, 2, .inl gT)) := (hEq.k k4) _ _ k_dT (ninc n102 nin0)
      have n104 : dZ ≠ mo := hne k_dZ k_mo (Nat.ne_of_beq_eq_false rfl)
      have h103 : f1 dZ = some (.inl (cZ G, 2, .inl gZ)) := (hEq.k k4) _ _ k_dZ (ninc n104 nin0)
      have n106 : dI ≠ mo := hne k_dI k_mo (Nat.ne_of_beq_eq_false rfl)
      have h105 : f1 dI = some (.inl (cI G, 2, .inl gI)) := (hEq.k k4) _ _ k_dI (ninc n106 nin0)
      have n108 : dH ≠ mo := hne k_dH k_mo (Nat.ne_of_beq_eq_false rfl)
      have h107 : f1 dH = some (.inl (cI G, 2, .inl gH)) := (hEq.k k4) _ _ k_dH (ninc n108 nin0)
      have n110 : dN ≠ mo := hne k_dN k_mo (Nat.ne_of_beq_eq_false rfl)
      have h109 : f1 dN = some (.inl (cI G, 2, .inl gN)) := (hEq.k k4) _ _ k_dN (ninc n110 nin0)
      have n112 : dK ≠ mo := hne k_dK k_mo (Nat.ne_of_beq_eq_false rfl)
      have h111 : f1 dK = some (.inl (cI G, 2048, .inl gK)) := (hEq.k k4) _ _ k_dK (ninc n112 nin0)
      have n114 : dJ ≠ mo := hne k_dJ k_mo (Nat.ne_of_beq_eq_false rfl)
      have h113 : f1 dJ = some (.inl (cI G, 2048, .inl gJ)) := (hEq.k k4) _ _ k_dJ (ninc n114 nin0)
      have n116 : dU ≠ mo := hne k_dU k_mo (Nat.ne_of_beq_eq_false rfl)
      have h115 : f1 dU = some (.inl (cI G, 2048, .inl gU)) := (hEq.k k4) _ _ k_dU (ninc n116 nin0)
      have n118 : dO ≠ mo := hne k_dO k_mo (Nat.ne_of_beq_eq_false rfl)
      have h117 : f1 dO = some (.inl (cI G, 2048, .inl gO)) := (hEq.k k4) _ _ k_dO (ninc n118 nin0)
      have n120 : dW ≠ mo := hne k_dW k_mo (Nat.ne_of_beq_eq_false rfl)
      have h119 : f1 dW = some (.inl (cI G, 12, .inl (jn gw0 gw1))) := (hEq.k k4) _ _ k_dW (ninc n120 nin0)
      have n122 : dA ≠ mo := hne k_dA k_mo (Nat.ne_of_beq_eq_false rfl)
      have h121 : f1 dA = some (.inl (cI G, 12, .inl (jn ga0 ga1))) := (hEq.k k4) _ _ k_dA (ninc n122 nin0)
      have n124 : dM ≠ mo := hne k_dM k_mo (Nat.ne_of_beq_eq_false rfl)
      have h123 : f1 dM = some (.inl (cI G, 2, .inl (mA2 mg0 mg1))) := (hEq.k k4) _ _ k_dM (ninc n124 nin0)
      have n126 : dF ≠ mo := hne k_dF k_mo (Nat.ne_of_beq_eq_false rfl)
      have h125 : f1 dF = some (.inl (cI G, 61, .inl (nf sa))) := (hEq.k k4) _ _ k_dF (ninc n126 nin0)
      have n128 : dP ≠ mo := hne k_dP k_mo (Nat.ne_of_beq_eq_false rfl)
      have h127 : f1 dP = some (.inl (cI G, 240, .inl (nf pk))) := (hEq.k k4) _ _ k_dP (ninc n128 nin0)
      have n130 : dE ≠ mo := hne k_dE k_mo (Nat.ne_of_beq_eq_false rfl)
      have h129 : f1 dE = some (.inl (cZ G, 240, .inl gh)) := (hEq.k k4) _ _ k_dE (ninc n130 nin0)
      have n132 : dX ≠ mo := hne k_dX k_mo (Nat.ne_of_beq_eq_false rfl)
      have h131 : f1 dX = some (.inl (cI G, 3, .inl (nf fl))) := (hEq.k k4) _ _ k_dX (ninc n132 nin0)
      have n134 : dY ≠ mo := hne k_dY k_mo (Nat.ne_of_beq_eq_false rfl)
      have h133 : f1 dY = some (.inl (cI G, 3, .inl gl)) := (hEq.k k4) _ _ k_dY (ninc n134 nin0)
      have n136 : dG ≠ mo := hne k_dG k_mo (Nat.ne_of_beq_eq_false rfl)
      have h135 : f1 dG = some (.inl (cI G, 60, .inl (nf gv))) := (hEq.k k4) _ _ k_dG (ninc n136 nin0)
      exact hp_iret (v := 0) B0 hw hS hr ⟨Nat.le_of_ble_eq_true rfl, Nat.le_of_ble_eq_true rfl⟩ dX5_requests_18 (⟨⟨_, rfl⟩, ⟨_, ⟨h3, hND, ⟨_, _, _, _, _, _, _, _, _, _, _, _, _, h93, h95, h97, h99, h101, h103, h105, h107, h109, h111, h113, h115, h117, hHd9, (hMn.mono hMn9 (by omega))⟩, h119, h121, h123, h125, h127, h129, h131, h133, h135, hSA, hB9, hfl9⟩⟩, (show hEq [mo, dW, dA, dQ, dM, dS, dL, dR, dT, dZ, dI, dH, dN, dK, dJ, dU, dO, dF, dP, dE, dX, dY, dG] f f1 from (hEq.mono k4 (sub_cons List.mem_cons_self sub_nil)))⟩)

set_option maxHeartbeats 4000000 in
set_option maxRecDepth 100000 in
theorem c_W5_isLooped {l : Launch} (hl : l.stackTraces = false) (G : hG) (f : hM) (mo dW dA dQ dM dS dL dR dT dZ dI dH dN dK dJ dU dO dF dP dE dX dY dG : Nat) (th : Int32) (B : Nat) (gw0 : Nat → Int32) (ga0 : Nat → Int32) (gw1 : Nat → Int32) (ga1 : Nat → Int32) (mg0 : Int32) (mg1 : Int32) (n : Nat) (a : Nat) (cg : Nat) (x : Nat) (sa : Nat → Nat) (pk : Nat → Nat) (fl : Nat → Nat) (gv : Nat → Nat) (gh : Nat → Int32) (gl : Nat → Int32) (hC : MW G f mo dW dA dQ dM dS dL dR dT dZ dI dH dN dK dJ dU dO dF dP dE dX dY dG th B gw0 ga0 gw1 ga1 mg0 mg1 n a cg x sa pk fl gv gh gl) (hBB : B + 100 < 100000) (i : Int32) : CT l yX5_isLooped (.code yX5_isLooped cX5_isLooped 2 (some .boolean)) 3 63 0 0 G [.ref mo, .int i] f (fun v f1 => (∃ r9 : Int32, v = some (.int r9)) ∧ (∃ t9 : Int32, MW G f1 mo dW dA dQ dM dS dL dR dT dZ dI dH dN dK dJ dU dO dF dP dE dX dY dG t9 (B + 100) gw0 ga0 gw1 ga1 mg0 mg1 n a cg x sa pk fl gv gh gl) ∧ hEq [mo, dW, dA, dQ, dM, dS, dL, dR, dT, dZ, dI, dH, dN, dK, dJ, dU, dO, dF, dP, dE, dX, dY, dG] f f1) (fun E f1 => False) := by
  refine hp_start hl (own := RX5) (by decide) rfl (Nat.le_of_ble_eq_true rfl) ?_
  intro p e s m args below meth c B0 hr hnm hout hw hS ls hl9
  have hx := B0.1
  have hb := B0.2.1
  have hl9 : lv_has ls 2 [(0, .ref mo), (1, .int i)] := hl9
  obtain ⟨k_mo, hND, hLM, k_dW, k_dA, k_dM, k_dF, k_dP, k_dE, k_dX, k_dY, k_dG, hSA, hB9, hfl9⟩ := id hC
  obtain ⟨nd_dW_dA, nd_dW_dQ, nd_dA_dQ, nd_dM_dS, nd_dM_dL, nd_dM_dR, nd_dM_dT, nd_dM_dZ, nd_dM_dI, nd_dM_dH, nd_dM_dN, nd_dS_dL, nd_dS_dR, nd_dS_dT, nd_dS_dZ, nd_dS_dI, nd_dS_dH, nd_dS_dN, nd_dL_dR, nd_dL_dT, nd_dL_dZ, nd_dL_dI, nd_dL_dH, nd_dL_dN, nd_dR_dT, nd_dR_dZ, nd_dR_dI, nd_dR_dH, nd_dR_dN, nd_dT_dZ, nd_dT_dI, nd_dT_dH, nd_dT_dN, nd_dZ_dI, nd_dZ_dH, nd_dZ_dN, nd_dI_dH, nd_dI_dN, nd_dH_dN, nd_dK_dJ, nd_dK_dU, nd_dK_dO, nd_dJ_dU, nd_dJ_dO, nd_dU_dO, nd_dP_dE, nd_dX_dY⟩ := id hND
  obtain ⟨gQ, gS, gL, gR, gT, gZ, gI, gH, gN, gK, gJ, gU, gO, k_dQ, k_dS, k_dL, k_dR, k_dT, k_dZ, k_dI, k_dH, k_dN, k_dK, k_dJ, k_dU, k_dO, hHd9, hMn9⟩ := id hLM
  refine lv_aload_n hx hb dX5_isLooped_0 rfl (lv_at hl9 0 rfl) ?_
  refine lv_iload_n hx hb dX5_isLooped_1 rfl (lv_at hl9 1 rfl) ?_
  refine hp_V (ci := 5) (As := [.int i]) (rest := []) B0 hw hS (c_W5_asksEnd hl G f mo dW dA dQ dM dS dL dR dT dZ dI dH dN dK dJ dU dO dF dP dE dX dY dG th (nI n) (nI a) (nI x) (nI cg) k_mo i) mV_X5_asksEnd qM_X5_133 rfl k_mo rfl rfl hl9.1 (Nat.le_of_ble_eq_true rfl) ⟨⟨Nat.le_of_ble_eq_true rfl, Nat.le_of_ble_eq_true rfl⟩, Nat.le_of_ble_eq_true rfl, Nat.le_of_ble_eq_true rfl⟩ dX5_isLooped_2 (fun E ce q9 f1 H locs hPX hw hS hce hcv hcl => ?_) (fun v f1 H locs hP hw hS => ?_)
  · exact hPX.elim
  · obtain ⟨t2, h3, hv9, k4⟩ := hP
    rcases hv9 with ⟨ev9, b9 | b9⟩ | ev9
    · subst ev9
      subst b9
      refine W.eq (g2 := F0 m 5 ls [.int 1]) rfl ?_
      refine lv_if_eq (tgt := 21) hx hb dX5_isLooped_5 (by decide) (fun c9 => absurd c9 (by decide)) (fun _ => ?_)
      refine lv_aload_n hx hb dX5_isLooped_8 rfl (lv_at hl9 0 rfl) ?_
      refine hp_get B0 hw 5 rfl in_X5 h3 9 (by decide) qF_X5_34 rfl dX5_isLooped_9 ?_
      refine lv_iload_n hx hb dX5_isLooped_12 rfl (lv_at hl9 1 rfl) ?_
      have n6 : dZ ≠ mo := hne k_dZ k_mo (Nat.ne_of_beq_eq_false rfl)
      have h5 : f1 dZ = some (.inl (cZ G, 2, .inl gZ)) := (hEq.k k4) _ _ k_dZ (ninc n6 nin0)
      refine hp_zald B0 hw h5 (by unfold vp_in; decide) dX5_isLooped_13 ?_
      refine lv_if_eq (tgt := 21) hx hb dX5_isLooped_14 (by decide) (fun c7 => ?_) (fun c7 => ?_)
      · refine lv_iconst (v := 0) hx hb dX5_isLooped_21 (by decide) ?_
        have n9 : dQ ≠ mo := hne k_dQ k_mo (Nat.ne_of_beq_eq_false rfl)
        have h8 : f1 dQ = some (.inl (cI G, 12, .inl gQ)) := (hEq.k k4) _ _ k_dQ (ninc n9 nin0)
        have n11 : dS ≠ mo := hne k_dS k_mo (Nat.ne_of_beq_eq_false rfl)
        have h10 : f1 dS = some (.inl (cI G, 2, .inl gS)) := (hEq.k k4) _ _ k_dS (ninc n11 nin0)
        have n13 : dL ≠ mo := hne k_dL k_mo (Nat.ne_of_beq_eq_false rfl)
        have h12 : f1 dL = some (.inl (cI G, 2, .inl gL)) := (hEq.k k4) _ _ k_dL (ninc n13 nin0)
        have n15 : dR ≠ mo := hne k_dR k_mo (Nat.ne_of_beq_eq_false rfl)
        have h14 : f1 dR = some (.inl (cI G, 2, .inl gR)) := (hEq.k k4) _ _ k_dR (ninc n15 nin0)
        have n17 : dT ≠ mo := hne k_dT k_mo (Nat.ne_of_beq_eq_false rfl)
        have h16 : f1 dT = some (.inl (cI G, 2, .inl gT)) := (hEq.k k4) _ _ k_dT (ninc n17 nin0)
        have n19 : dI ≠ mo := hne k_dI k_mo (Nat.ne_of_beq_eq_false rfl)
        have h18 : f1 dI = some (.inl (cI G, 2, .inl gI)) := (hEq.k k4) _ _ k_dI (ninc n19 nin0)
        have n21 : dH ≠ mo := hne k_dH k_mo (Nat.ne_of_beq_eq_false rfl)
        have h20 : f1 dH = some (.inl (cI G, 2, .inl gH)) := (hEq.k k4) _ _ k_dH (ninc n21 nin0)
        have n23 : dN ≠ mo := hne k_dN k_mo (Nat.ne_of_beq_eq_false rfl)
        have h22 : f1 dN = some (.inl (cI G, 2, .inl gN)) := (hEq.k k4) _ _ k_dN (ninc n23 nin0)
        have n25 : dK ≠ mo := hne k_dK k_mo (Nat.ne_of_beq_eq_false rfl)
        have h24 : f1 dK = some (.inl (cI G, 2048, .inl gK)) := (hEq.k k4) _ _ k_dK (ninc n25 nin0)
        have n27 : dJ ≠ mo := hne k_dJ k_mo (Nat.ne_of_beq_eq_false rfl)
        have h26 : f1 dJ = some (.inl (cI G, 2048, .inl gJ)) := (hEq.k k4) _ _ k_dJ (ninc n27 nin0)
        have n29 : dU ≠ mo := hne k_dU k_mo (Nat.ne_of_beq_eq_false rfl)
        have h28 : f1 dU = some (.inl (cI G, 2048, .inl gU)) := (hEq.k k4) _ _ k_dU (ninc n29 nin0)
        have n31 : dO ≠ mo := hne k_dO k_mo (Nat.ne_of_beq_eq_false rfl)
        have h30 : f1 dO = some (.inl (cI G, 2048, .inl gO)) := (hEq.k k4) _ _ k_dO (ninc n31 nin0)
        have n33 : dW ≠ mo := hne k_dW k_mo (Nat.ne_of_beq_eq_false rfl)
        have h32 : f1 dW = some (.inl (cI G, 12, .inl (jn gw0 gw1))) := (hEq.k k4) _ _ k_dW (ninc n33 nin0)
        have n35 : dA ≠ mo := hne k_dA k_mo (Nat.ne_of_beq_eq_false rfl)
        have h34 : f1 dA = some (.inl (cI G, 12, .inl (jn ga0 ga1))) := (hEq.k k4) _ _ k_dA (ninc n35 nin0)
        have n37 : dM ≠ mo := hne k_dM k_mo (Nat.ne_of_beq_eq_false rfl)
        have h36 : f1 dM = some (.inl (cI G, 2, .inl (mA2 mg0 mg1))) := (hEq.k k4) _ _ k_dM (ninc n37 nin0)
        have n39 : dF ≠ mo := hne k_dF k_mo (Nat.ne_of_beq_eq_false rfl)
        have h38 : f1 dF = some (.inl (cI G, 61, .inl (nf sa))) := (hEq.k k4) _ _ k_dF (ninc n39 nin0)
        have n41 : dP ≠ mo := hne k_dP k_mo (Nat.ne_of_beq_eq_false rfl)
        have h40 : f1 dP = some (.inl (cI G, 240, .inl (nf pk))) := (hEq.k k4) _ _ k_dP (ninc n41 nin0)
        have n43 : dE ≠ mo := hne k_dE k_mo (Nat.ne_of_beq_eq_false rfl)
        have h42 : f1 dE = some (.inl (cZ G, 240, .inl gh)) := (hEq.k k4) _ _ k_dE (ninc n43 nin0)
        have n45 : dX ≠ mo := hne k_dX k_mo (Nat.ne_of_beq_eq_false rfl)
        have h44 : f1 dX = some (.inl (cI G, 3, .inl (nf fl))) := (hEq.k k4) _ _ k_dX (ninc n45 nin0)
        have n47 : dY ≠ mo := hne k_dY k_mo (Nat.ne_of_beq_eq_false rfl)
        have h46 : f1 dY = some (.inl (cI G, 3, .inl gl)) := (hEq.k k4) _ _ k_dY (ninc n47 nin0)
        have n49 : dG ≠ mo := hne k_dG k_mo (Nat.ne_of_beq_eq_false rfl)
        have h48 : f1 dG = some (.inl (cI G, 60, .inl (nf gv))) := (hEq.k k4) _ _ k_dG (ninc n49 nin0)
        exact hp_zret (v := 0) B0 hw hS hr ⟨Nat.le_of_ble_eq_true rfl, Nat.le_of_ble_eq_true rfl⟩ (rfl) dX5_isLooped_22 (⟨⟨_, rfl⟩, ⟨_, ⟨h3, hND, ⟨_, _, _, _, _, _, _, _, _, _, _, _, _, h8, h10, h12, h14, h16, h5, h18, h20, h22, h24, h26, h28, h30, hHd9, (hMn.mono hMn9 (by omega))⟩, h32, h34, h36, h38, h40, h42, h44, h46, h48, hSA, hB9, hfl9⟩⟩, (show hEq [mo, dW, dA, dQ, dM, dS, dL, dR, dT, dZ, dI, dH, dN, dK, dJ, dU, dO, dF, dP, dE, dX, dY, dG] f f1 from (hEq.mono k4 (sub_cons List.mem_cons_self sub_nil)))⟩)
      · refine lv_iconst (v := 1) hx hb dX5_isLooped_17 (by decide) ?_
        refine lv_goto (tgt := 22) hx hb dX5_isLooped_18 (by decide) ?_
        have n51 : dQ ≠ mo := hne k_dQ k_mo (Nat.ne_of_beq_eq_false rfl)
        have h50 : f1 dQ = some (.inl (cI G, 12, .inl gQ)) := (hEq.k k4) _ _ k_dQ (ninc n51 nin0)
        have n53 : dS ≠ mo := hne k_dS k_mo (Nat.ne_of_beq_eq_false rfl)
        have h52 : f1 dS = some (.inl (cI G, 2, .inl gS)) := (hEq.k k4) _ _ k_dS (ninc n53 nin0)
        have n55 : dL ≠ mo := hne k_dL k_mo (Nat.ne_of_beq_eq_false rfl)
        have h54 : f1 dL = some (.inl (cI G, 2, .inl gL)) := (hEq.k k4) _ _ k_dL (ninc n55 nin0)
        have n57 : dR ≠ mo := hne k_dR k_mo (Nat.ne_of_beq_eq_false rfl)
        have h56 : f1 dR = some (.inl (cI G, 2, .inl gR)) := (hEq.k k4) _ _ k_dR (ninc n57 nin0)
        have n59 : dT ≠ mo := hne k_dT k_mo (Nat.ne_of_beq_eq_false rfl)
        have h58 : f1 dT = some (.inl (cI G, 2, .inl gT)) := (hEq.k k4) _ _ k_dT (ninc n59 nin0)
        have n61 : dI ≠ mo := hne k_dI k_mo (Nat.ne_of_beq_eq_false rfl)
        have h60 : f1 dI = some (.inl (cI G, 2, .inl gI)) := (hEq.k k4) _ _ k_dI (ninc n61 nin0)
        have n63 : dH ≠ mo := hne k_dH k_mo (Nat.ne_of_beq_eq_false rfl)
        have h62 : f1 dH = some (.inl (cI G, 2, .inl gH)) := (hEq.k k4) _ _ k_dH (ninc n63 nin0)
        have n65 : dN ≠ mo := hne k_dN k_mo (Nat.ne_of_beq_eq_false rfl)
        have h64 : f1 dN = some (.inl (cI G, 2, .inl gN)) := (hEq.k k4) _ _ k_dN (ninc n65 nin0)
        have n67 : dK ≠ mo := hne k_dK k_mo (Nat.ne_of_beq_eq_false rfl)
        have h66 : f1 dK = some (.inl (cI G, 2048, .inl gK)) := (hEq.k k4) _ _ k_dK (ninc n67 nin0)
        have n69 : dJ ≠ mo := hne k_dJ k_mo (Nat.ne_of_beq_eq_false rfl)
        have h68 : f1 dJ = some (.inl (cI G, 2048, .inl gJ)) := (hEq.k k4) _ _ k_dJ (ninc n69 nin0)
        have n71 : dU ≠ mo := hne k_dU k_mo (Nat.ne_of_beq_eq_false rfl)
        have h70 : f1 dU = some (.inl (cI G, 2048, .inl gU)) := (hEq.k k4) _ _ k_dU (ninc n71 nin0)
        have n73 : dO ≠ mo := hne k_dO k_mo (Nat.ne_of_beq_eq_false rfl)
        have h72 : f1 dO = some (.inl (cI G, 2048, .inl gO)) := (hEq.k k4) _ _ k_dO (ninc n73 nin0)
        have n75 : dW ≠ mo := hne k_dW k_mo (Nat.ne_of_beq_eq_false rfl)
        have h74 : f1 dW = some (.inl (cI G, 12, .inl (jn gw0 gw1))) := (hEq.k k4) _ _ k_dW (ninc n75 nin0)
        have n77 : dA ≠ mo := hne k_dA k_mo (Nat.ne_of_beq_eq_false rfl)
        have h76 : f1 dA = some (.inl (cI G, 12, .inl (jn ga0 ga1))) := (hEq.k k4) _ _ k_dA (ninc n77 nin0)
        have n79 : dM ≠ mo := hne k_dM k_mo (Nat.ne_of_beq_eq_false rfl)
        have h78 : f1 dM = some (.inl (cI G, 2, .inl (mA2 mg0 mg1))) := (hEq.k k4) _ _ k_dM (ninc n79 nin0)
        have n81 : dF ≠ mo := hne k_dF k_mo (Nat.ne_of_beq_eq_false rfl)
        have h80 : f1 dF = some (.inl (cI G, 61, .inl (nf sa))) := (hEq.k k4) _ _ k_dF (ninc n81 nin0)
        have n83 : dP ≠ mo := hne k_dP k_mo (Nat.ne_of_beq_eq_false rfl)
        have h82 : f1 dP = some (.inl (cI G, 240, .inl (nf pk))) := (hEq.k k4) _ _ k_dP (ninc n83 nin0)
        have n85 : dE ≠ mo := hne k_dE k_mo (Nat.ne_of_beq_eq_false rfl)
        have h84 : f1 dE = some (.inl (cZ G, 240, .inl gh)) := (hEq.k k4) _ _ k_dE (ninc n85 nin0)
        have n87 : dX ≠ mo := hne k_dX k_mo (Nat.ne_of_beq_eq_false rfl)
        have h86 : f1 dX = some (.inl (cI G, 3, .inl (nf fl))) := (hEq.k k4) _ _ k_dX (ninc n87 nin0)
        have n89 : dY ≠ mo := hne k_dY k_mo (Nat.ne_of_beq_eq_false rfl)
        have h88 : f1 dY = some (.inl (cI G, 3, .inl gl)) := (hEq.k k4) _ _ k_dY (ninc n89 nin0)
        have n91 : dG ≠ mo := hne k_dG k_mo (Nat.ne_of_beq_eq_false rfl)
        have h90 : f1 dG = some (.inl (cI G, 60, .inl (nf gv))) := (hEq.k k4) _ _ k_dG (ninc n91 nin0)
        exact hp_zret (v := 1) B0 hw hS hr ⟨Nat.le_of_ble_eq_true rfl, Nat.le_of_ble_eq_true rfl⟩ (rfl) dX5_isLooped_22 (⟨⟨_, rfl⟩, ⟨_, ⟨h3, hND, ⟨_, _, _, _, _, _, _, _, _, _, _, _, _, h50, h52, h54, h56, h58, h5, h60, h62, h64, h66, h68, h70, h72, hHd9, (hMn.mono hMn9 (by omega))⟩, h74, h76, h78, h80, h82, h84, h86, h88, h90, hSA, hB9, hfl9⟩⟩, (show hEq [mo, dW, dA, dQ, dM, dS, dL, dR, dT, dZ, dI, dH, dN, dK, dJ, dU, dO, dF, dP, dE, dX, dY, dG] f f1 from (hEq.mono k4 (sub_cons List.mem_cons_self sub_nil)))⟩)
    · subst ev9
      subst b9
      refine W.eq (g2 := F0 m 5 ls [.int 1]) rfl ?_
      refine lv_if_eq (tgt := 21) hx hb dX5_isLooped_5 (by decide) (fun c9 => absurd c9 (by decide)) (fun _ => ?_)
      refine lv_aload_n hx hb dX5_isLooped_8 rfl (lv_at hl9 0 rfl) ?_
      refine hp_get B0 hw 5 rfl in_X5 h3 9 (by decide) qF_X5_34 rfl dX5_isLooped_9 ?_
      refine lv_iload_n hx hb dX5_isLooped_12 rfl (lv_at hl9 1 rfl) ?_
      have n93 : dZ ≠ mo := hne k_dZ k_mo (Nat.ne_of_beq_eq_false rfl)
      have h92 : f1 dZ = some (.inl (cZ G, 2, .inl gZ)) := (hEq.k k4) _ _ k_dZ (ninc n93 nin0)
      refine hp_zald B0 hw h92 (by unfold vp_in; decide) dX5_isLooped_13 ?_
      refine lv_if_eq (tgt := 21) hx hb dX5_isLooped_14 (by decide) (fun c94 => ?_) (fun c94 => ?_)
      · refine lv_iconst (v := 0) hx hb dX5_isLooped_21 (by decide) ?_
        have n96 : dQ ≠ mo := hne k_dQ k_mo (Nat.ne_of_beq_eq_false rfl)
        have h95 : f1 dQ = some (.inl (cI G, 12, .inl gQ)) := (hEq.k k4) _ _ k_dQ (ninc n96 nin0)
        have n98 : dS ≠ mo := hne k_dS k_mo (Nat.ne_of_beq_eq_false rfl)
        have h97 : f1 dS = some (.inl (cI G, 2, .inl gS)) := (hEq.k k4) _ _ k_dS (ninc n98 nin0)
        have n100 : dL ≠ mo := hne k_dL k_mo (Nat.ne_of_beq_eq_false rfl)
        have h99 : f1 dL = some (.inl (cI G, 2, .inl gL)) := (hEq.k k4) _ _ k_dL (ninc n100 nin0)
        have n102 : dR ≠ mo := hne k_dR k_mo (Nat.ne_of_beq_eq_false rfl)
        have h101 : f1 dR = some (.inl (cI G, 2, .inl gR)) := (hEq.k k4) _ _ k_dR (ninc n102 nin0)
        have n104 : dT ≠ mo := hne k_dT k_mo (Nat.ne_of_beq_eq_false rfl)
        have h103 : f1 dT = some (.inl (cI G, 2, .inl gT)) := (hEq.k k4) _ _ k_dT (ninc n104 nin0)
        have n106 : dI ≠ mo := hne k_dI k_mo (Nat.ne_of_beq_eq_false rfl)
        have h105 : f1 dI = some (.inl (cI G, 2, .inl gI)) := (hEq.k k4) _ _ k_dI (ninc n106 nin0)
        have n108 : dH ≠ mo := hne k_dH k_mo (Nat.ne_of_beq_eq_false rfl)
        have h107 : f1 dH = some (.inl (cI G, 2, .inl gH)) := (hEq.k k4) _ _ k_dH (ninc n108 nin0)
        have n110 : dN ≠ mo := hne k_dN k_mo (Nat.ne_of_beq_eq_false rfl)
        have h109 : f1 dN = some (.inl (cI G, 2, .inl gN)) := (hEq.k k4) _ _ k_dN (ninc n110 nin0)
        have n112 : dK ≠ mo := hne k_dK k_mo (Nat.ne_of_beq_eq_false rfl)
        have h111 : f1 dK = some (.inl (cI G, 2048, .inl gK)) := (hEq.k k4) _ _ k_dK (ninc n112 nin0)
        have n114 : dJ ≠ mo := hne k_dJ k_mo (Nat.ne_of_beq_eq_false rfl)
        have h113 : f1 dJ = some (.inl (cI G, 2048, .inl gJ)) := (hEq.k k4) _ _ k_dJ (ninc n114 nin0)
        have n116 : dU ≠ mo := hne k_dU k_mo (Nat.ne_of_beq_eq_false rfl)
        have h115 : f1 dU = some (.inl (cI G, 2048, .inl gU)) := (hEq.k k4) _ _ k_dU (ninc n116 nin0)
        have n118 : dO ≠ mo := hne k_dO k_mo (Nat.ne_of_beq_eq_false rfl)
        have h117 : f1 dO = some (.inl (cI G, 2048, .inl gO)) := (hEq.k k4) _ _ k_dO (ninc n118 nin0)
        have n120 : dW ≠ mo := hne k_dW k_mo (Nat.ne_of_beq_eq_false rfl)
        have h119 : f1 dW = some (.inl (cI G, 12, .inl (jn gw0 gw1))) := (hEq.k k4) _ _ k_dW (ninc n120 nin0)
        have n122 : dA ≠ mo := hne k_dA k_mo (Nat.ne_of_beq_eq_false rfl)
        have h121 : f1 dA = some (.inl (cI G, 12, .inl (jn ga0 ga1))) := (hEq.k k4) _ _ k_dA (ninc n122 nin0)
        have n124 : dM ≠ mo := hne k_dM k_mo (Nat.ne_of_beq_eq_false rfl)
        have h123 : f1 dM = some (.inl (cI G, 2, .inl (mA2 mg0 mg1))) := (hEq.k k4) _ _ k_dM (ninc n124 nin0)
        have n126 : dF ≠ mo := hne k_dF k_mo (Nat.ne_of_beq_eq_false rfl)
        have h125 : f1 dF = some (.inl (cI G, 61, .inl (nf sa))) := (hEq.k k4) _ _ k_dF (ninc n126 nin0)
        have n128 : dP ≠ mo := hne k_dP k_mo (Nat.ne_of_beq_eq_false rfl)
        have h127 : f1 dP = some (.inl (cI G, 240, .inl (nf pk))) := (hEq.k k4) _ _ k_dP (ninc n128 nin0)
        have n130 : dE ≠ mo := hne k_dE k_mo (Nat.ne_of_beq_eq_false rfl)
        have h129 : f1 dE = some (.inl (cZ G, 240, .inl gh)) := (hEq.k k4) _ _ k_dE (ninc n130 nin0)
        have n132 : dX ≠ mo := hne k_dX k_mo (Nat.ne_of_beq_eq_false rfl)
        have h131 : f1 dX = some (.inl (cI G, 3, .inl (nf fl))) := (hEq.k k4) _ _ k_dX (ninc n132 nin0)
        have n134 : dY ≠ mo := hne k_dY k_mo (Nat.ne_of_beq_eq_false rfl)
        have h133 : f1 dY = some (.inl (cI G, 3, .inl gl)) := (hEq.k k4) _ _ k_dY (ninc n134 nin0)
        have n136 : dG ≠ mo := hne k_dG k_mo (Nat.ne_of_beq_eq_false rfl)
        have h135 : f1 dG = some (.inl (cI G, 60, .inl (nf gv))) := (hEq.k k4) _ _ k_dG (ninc n136 nin0)
        exact hp_zret (v := 0) B0 hw hS hr ⟨Nat.le_of_ble_eq_true rfl, Nat.le_of_ble_eq_true rfl⟩ (rfl) dX5_isLooped_22 (⟨⟨_, rfl⟩, ⟨_, ⟨h3, hND, ⟨_, _, _, _, _, _, _, _, _, _, _, _, _, h95, h97, h99, h101, h103, h92, h105, h107, h109, h111, h113, h115, h117, hHd9, (hMn.mono hMn9 (by omega))⟩, h119, h121, h123, h125, h127, h129, h131, h133, h135, hSA, hB9, hfl9⟩⟩, (show hEq [mo, dW, dA, dQ, dM, dS, dL, dR, dT, dZ, dI, dH, dN, dK, dJ, dU, dO, dF, dP, dE, dX, dY, dG] f f1 from (hEq.mono k4 (sub_cons List.mem_cons_self sub_nil)))⟩)
      · refine lv_iconst (v := 1) hx hb dX5_isLooped_17 (by decide) ?_
        refine lv_goto (tgt := 22) hx hb dX5_isLooped_18 (by decide) ?_
        have n138 : dQ ≠ mo := hne k_dQ k_mo (Nat.ne_of_beq_eq_false rfl)
        have h137 : f1 dQ = some (.inl (cI G, 12, .inl gQ)) := (hEq.k k4) _ _ k_dQ (ninc n138 nin0)
        have n140 : dS ≠ mo := hne k_dS k_mo (Nat.ne_of_beq_eq_false rfl)
        have h139 : f1 dS = some (.inl (cI G, 2, .inl gS)) := (hEq.k k4) _ _ k_dS (ninc n140 nin0)
        have n142 : dL ≠ mo := hne k_dL k_mo (Nat.ne_of_beq_eq_false rfl)
        have h141 : f1 dL = some (.inl (cI G, 2, .inl gL)) := (hEq.k k4) _ _ k_dL (ninc n142 nin0)
        have n144 : dR ≠ mo := hne k_dR k_mo (Nat.ne_of_beq_eq_false rfl)
        have h143 : f1 dR = some (.inl (cI G, 2, .inl gR)) := (hEq.k k4) _ _ k_dR (ninc n144 nin0)
        have n146 : dT ≠ mo := hne k_dT k_mo (Nat.ne_of_beq_eq_false rfl)
        have h145 : f1 dT = some (.inl (cI G, 2, .inl gT)) := (hEq.k k4) _ _ k_dT (ninc n146 nin0)
        have n148 : dI ≠ mo := hne k_dI k_mo (Nat.ne_of_beq_eq_false rfl)
        have h147 : f1 dI = some (.inl (cI G, 2, .inl gI)) := (hEq.k k4) _ _ k_dI (ninc n148 nin0)
        have n150 : dH ≠ mo := hne k_dH k_mo (Nat.ne_of_beq_eq_false rfl)
        have h149 : f1 dH = some (.inl (cI G, 2, .inl gH)) := (hEq.k k4) _ _ k_dH (ninc n150 nin0)
        have n152 : dN ≠ mo := hne k_dN k_mo (Nat.ne_of_beq_eq_false rfl)
        have h151 : f1 dN = some (.inl (cI G, 2, .inl gN)) := (hEq.k k4) _ _ k_dN (ninc n152 nin0)
        have n154 : dK ≠ mo := hne k_dK k_mo (Nat.ne_of_beq_eq_false rfl)
        have h153 : f1 dK = some (.inl (cI G, 2048, .inl gK)) := (hEq.k k4) _ _ k_dK (ninc n154 nin0)
        have n156 : dJ ≠ mo := hne k_dJ k_mo (Nat.ne_of_beq_eq_false rfl)
        have h155 : f1 dJ = some (.inl (cI G, 2048, .inl gJ)) := (hEq.k k4) _ _ k_dJ (ninc n156 nin0)
        have n158 : dU ≠ mo := hne k_dU k_mo (Nat.ne_of_beq_eq_false rfl)
        have h157 : f1 dU = some (.inl (cI G, 2048, .inl gU)) := (hEq.k k4) _ _ k_dU (ninc n158 nin0)
        have n160 : dO ≠ mo := hne k_dO k_mo (Nat.ne_of_beq_eq_false rfl)
        have h159 : f1 dO = some (.inl (cI G, 2048, .inl gO)) := (hEq.k k4) _ _ k_dO (ninc n160 nin0)
        have n162 : dW ≠ mo := hne k_dW k_mo (Nat.ne_of_beq_eq_false rfl)
        have h161 : f1 dW = some (.inl (cI G, 12, .inl (jn gw0 gw1))) := (hEq.k k4) _ _ k_dW (ninc n162 nin0)
        have n164 : dA ≠ mo := hne k_dA k_mo (Nat.ne_of_beq_eq_false rfl)
        have h163 : f1 dA = some (.inl (cI G, 12, .inl (jn ga0 ga1))) := (hEq.k k4) _ _ k_dA (ninc n164 nin0)
        have n166 : dM ≠ mo := hne k_dM k_mo (Nat.ne_of_beq_eq_false rfl)
        have h165 : f1 dM = some (.inl (cI G, 2, .inl (mA2 mg0 mg1))) := (hEq.k k4) _ _ k_dM (ninc n166 nin0)
        have n168 : dF ≠ mo := hne k_dF k_mo (Nat.ne_of_beq_eq_false rfl)
        have h167 : f1 dF = some (.inl (cI G, 61, .inl (nf sa))) := (hEq.k k4) _ _ k_dF (ninc n168 nin0)
        have n170 : dP ≠ mo := hne k_dP k_mo (Nat.ne_of_beq_eq_false rfl)
        have h169 : f1 dP = some (.inl (cI G, 240, .inl (nf pk))) := (hEq.k k4) _ _ k_dP (ninc n170 nin0)
        have n172 : dE ≠ mo := hne k_dE k_mo (Nat.ne_of_beq_eq_false rfl)
        have h171 : f1 dE = some (.inl (cZ G, 240, .inl gh)) := (hEq.k k4) _ _ k_dE (ninc n172 nin0)
        have n174 : dX ≠ mo := hne k_dX k_mo (Nat.ne_of_beq_eq_false rfl)
        have h173 : f1 dX = some (.inl (cI G, 3, .inl (nf fl))) := (hEq.k k4) _ _ k_dX (ninc n174 nin0)
        have n176 : dY ≠ mo := hne k_dY k_mo (Nat.ne_of_beq_eq_false rfl)
        have h175 : f1 dY = some (.inl (cI G, 3, .inl gl)) := (hEq.k k4) _ _ k_dY (ninc n176 nin0)
        have n178 : dG ≠ mo := hne k_dG k_mo (Nat.ne_of_beq_eq_false rfl)
        have h177 : f1 dG = some (.inl (cI G, 60, .inl (nf gv))) := (hEq.k k4) _ _ k_dG (ninc n178 nin0)
        exact hp_zret (v := 1) B0 hw hS hr ⟨Nat.le_of_ble_eq_true rfl, Nat.le_of_ble_eq_true rfl⟩ (rfl) dX5_isLooped_22 (⟨⟨_, rfl⟩, ⟨_, ⟨h3, hND, ⟨_, _, _, _, _, _, _, _, _, _, _, _, _, h137, h139, h141, h143, h145, h92, h147, h149, h151, h153, h155, h157, h159, hHd9, (hMn.mono hMn9 (by omega))⟩, h161, h163, h165, h167, h169, h171, h173, h175, h177, hSA, hB9, hfl9⟩⟩, (show hEq [mo, dW, dA, dQ, dM, dS, dL, dR, dT, dZ, dI, dH, dN, dK, dJ, dU, dO, dF, dP, dE, dX, dY, dG] f f1 from (hEq.mono k4 (sub_cons List.mem_cons_self sub_nil)))⟩)
    · subst ev9
      refine W.eq (g2 := F0 m 5 ls [.int 0]) rfl ?_
      refine lv_if_eq (tgt := 21) hx hb dX5_isLooped_5 (by decide) (fun _ => ?_) (fun c9 => absurd (by decide) c9)
      refine lv_iconst (v := 0) hx hb dX5_isLooped_21 (by decide) ?_
      have n180 : dQ ≠ mo := hne k_dQ k_mo (Nat.ne_of_beq_eq_false rfl)
      have h179 : f1 dQ = some (.inl (cI G, 12, .inl gQ)) := (hEq.k k4) _ _ k_dQ (ninc n180 nin0)
      have n182 : dS ≠ mo := hne k_dS k_mo (Nat.ne_of_beq_eq_false rfl)
      have h181 : f1 dS = some (.inl (cI G, 2, .inl gS)) := (hEq.k k4) _ _ k_dS (ninc n182 nin0)
      have n184 : dL ≠ mo := hne k_dL k_mo (Nat.ne_of_beq_eq_false rfl)
      have h183 : f1 dL = some (.inl (cI G, 2, .inl gL)) := (hEq.k k4) _ _ k_dL (ninc n184 nin0)
      have n186 : dR ≠ mo := hne k_dR k_mo (Nat.ne_of_beq_eq_false rfl)
      have h185 : f1 dR = some (.inl (cI G, 2, .inl gR)) := (hEq.k k4) _ _ k_dR (ninc n186 nin0)
      have n188 : dT ≠ mo := hne k_dT k_mo (Nat.ne_of_beq_eq_false rfl)
      have h187 : f1 dT = some (.inl (cI G, 2, .inl gT)) := (hEq.k k4) _ _ k_dT (ninc n188 nin0)
      have n190 : dZ ≠ mo := hne k_dZ k_mo (Nat.ne_of_beq_eq_false rfl)
      have h189 : f1 dZ = some (.inl (cZ G, 2, .inl gZ)) := (hEq.k k4) _ _ k_dZ (ninc n190 nin0)
      have n192 : dI ≠ mo := hne k_dI k_mo (Nat.ne_of_beq_eq_false rfl)
      have h191 : f1 dI = some (.inl (cI G, 2, .inl gI)) := (hEq.k k4) _ _ k_dI (ninc n192 nin0)
      have n194 : dH ≠ mo := hne k_dH k_mo (Nat.ne_of_beq_eq_false rfl)
      have h193 : f1 dH = some (.inl (cI G, 2, .inl gH)) := (hEq.k k4) _ _ k_dH (ninc n194 nin0)
      have n196 : dN ≠ mo := hne k_dN k_mo (Nat.ne_of_beq_eq_false rfl)
      have h195 : f1 dN = some (.inl (cI G, 2, .inl gN)) := (hEq.k k4) _ _ k_dN (ninc n196 nin0)
      have n198 : dK ≠ mo := hne k_dK k_mo (Nat.ne_of_beq_eq_false rfl)
      have h197 : f1 dK = some (.inl (cI G, 2048, .inl gK)) := (hEq.k k4) _ _ k_dK (ninc n198 nin0)
      have n200 : dJ ≠ mo := hne k_dJ k_mo (Nat.ne_of_beq_eq_false rfl)
      have h199 : f1 dJ = some (.inl (cI G, 2048, .inl gJ)) := (hEq.k k4) _ _ k_dJ (ninc n200 nin0)
      have n202 : dU ≠ mo := hne k_dU k_mo (Nat.ne_of_beq_eq_false rfl)
      have h201 : f1 dU = some (.inl (cI G, 2048, .inl gU)) := (hEq.k k4) _ _ k_dU (ninc n202 nin0)
      have n204 : dO ≠ mo := hne k_dO k_mo (Nat.ne_of_beq_eq_false rfl)
      have h203 : f1 dO = some (.inl (cI G, 2048, .inl gO)) := (hEq.k k4) _ _ k_dO (ninc n204 nin0)
      have n206 : dW ≠ mo := hne k_dW k_mo (Nat.ne_of_beq_eq_false rfl)
      have h205 : f1 dW = some (.inl (cI G, 12, .inl (jn gw0 gw1))) := (hEq.k k4) _ _ k_dW (ninc n206 nin0)
      have n208 : dA ≠ mo := hne k_dA k_mo (Nat.ne_of_beq_eq_false rfl)
      have h207 : f1 dA = some (.inl (cI G, 12, .inl (jn ga0 ga1))) := (hEq.k k4) _ _ k_dA (ninc n208 nin0)
      have n210 : dM ≠ mo := hne k_dM k_mo (Nat.ne_of_beq_eq_false rfl)
      have h209 : f1 dM = some (.inl (cI G, 2, .inl (mA2 mg0 mg1))) := (hEq.k k4) _ _ k_dM (ninc n210 nin0)
      have n212 : dF ≠ mo := hne k_dF k_mo (Nat.ne_of_beq_eq_false rfl)
      have h211 : f1 dF = some (.inl (cI G, 61, .inl (nf sa))) := (hEq.k k4) _ _ k_dF (ninc n212 nin0)
      have n214 : dP ≠ mo := hne k_dP k_mo (Nat.ne_of_beq_eq_false rfl)
      have h213 : f1 dP = some (.inl (cI G, 240, .inl (nf pk))) := (hEq.k k4) _ _ k_dP (ninc n214 nin0)
      have n216 : dE ≠ mo := hne k_dE k_mo (Nat.ne_of_beq_eq_false rfl)
      have h215 : f1 dE = some (.inl (cZ G, 240, .inl gh)) := (hEq.k k4) _ _ k_dE (ninc n216 nin0)
      have n218 : dX ≠ mo := hne k_dX k_mo (Nat.ne_of_beq_eq_false rfl)
      have h217 : f1 dX = some (.inl (cI G, 3, .inl (nf fl))) := (hEq.k k4) _ _ k_dX (ninc n218 nin0)
      have n220 : dY ≠ mo := hne k_dY k_mo (Nat.ne_of_beq_eq_false rfl)
      have h219 : f1 dY = some (.inl (cI G, 3, .inl gl)) := (hEq.k k4) _ _ k_dY (ninc n220 nin0)
      have n222 : dG ≠ mo := hne k_dG k_mo (Nat.ne_of_beq_eq_false rfl)
      have h221 : f1 dG = some (.inl (cI G, 60, .inl (nf gv))) := (hEq.k k4) _ _ k_dG (ninc n222 nin0)
      exact hp_zret (v := 0) B0 hw hS hr ⟨Nat.le_of_ble_eq_true rfl, Nat.le_of_ble_eq_true rfl⟩ (rfl) dX5_isLooped_22 (⟨⟨_, rfl⟩, ⟨_, ⟨h3, hND, ⟨_, _, _, _, _, _, _, _, _, _, _, _, _, h179, h181, h183, h185, h187, h189, h191, h193, h195, h197, h199, h201, h203, hHd9, (hMn.mono hMn9 (by omega))⟩, h205, h207, h209, h211, h213, h215, h217, h219, h221, hSA, hB9, hfl9⟩⟩, (show hEq [mo, dW, dA, dQ, dM, dS, dL, dR, dT, dZ, dI, dH, dN, dK, dJ, dU, dO, dF, dP, dE, dX, dY, dG] f f1 from (hEq.mono k4 (sub_cons List.mem_cons_self sub_nil)))⟩)

set_option maxHeartbeats 4000000 in
set_option maxRecDepth 100000 in
theorem c_W5_underWay {l : Launch} (hl : l.stackTraces = false) (G : hG) (f : hM) (mo dW dA dQ dM dS dL dR dT dZ dI dH dN dK dJ dU dO dF dP dE dX dY dG : Nat) (th : Int32) (B : Nat) (gw0 : Nat → Int32) (ga0 : Nat → Int32) (gw1 : Nat → Int32) (ga1 : Nat → Int32) (mg0 : Int32) (mg1 : Int32) (n : Nat) (a : Nat) (cg : Nat) (x : Nat) (sa : Nat → Nat) (pk : Nat → Nat) (fl : Nat → Nat) (gv : Nat → Nat) (gh : Nat → Int32) (gl : Nat → Int32) (hC : MW G f mo dW dA dQ dM dS dL dR dT dZ dI dH dN dK dJ dU dO dF dP dE dX dY dG th B gw0 ga0 gw1 ga1 mg0 mg1 n a cg x sa pk fl gv gh gl) (hBB : B + 100 < 100000) (i : Int32) : CT l yX5_underWay (.code yX5_underWay cX5_underWay 2 (some .int)) 3 63 0 0 G [.ref mo, .int i] f (fun v f1 => (∃ r9 : Int32, v = some (.int r9)) ∧ (∃ t9 : Int32, MW G f1 mo dW dA dQ dM dS dL dR dT dZ dI dH dN dK dJ dU dO dF dP dE dX dY dG t9 (B + 100) gw0 ga0 gw1 ga1 mg0 mg1 n a cg x sa pk fl gv gh gl) ∧ hEq [mo, dW, dA, dQ, dM, dS, dL, dR, dT, dZ, dI, dH, dN, dK, dJ, dU, dO, dF, dP, dE, dX, dY, dG] f f1) (fun E f1 => False) := by
  refine hp_start hl (own := RX5) (by decide) rfl (Nat.le_of_ble_eq_true rfl) ?_
  intro p e s m args below meth c B0 hr hnm hout hw hS ls hl9
  have hx := B0.1
  have hb := B0.2.1
  have hl9 : lv_has ls 2 [(0, .ref mo), (1, .int i)] := hl9
  obtain ⟨k_mo, hND, hLM, k_dW, k_dA, k_dM, k_dF, k_dP, k_dE, k_dX, k_dY, k_dG, hSA, hB9, hfl9⟩ := id hC
  obtain ⟨nd_dW_dA, nd_dW_dQ, nd_dA_dQ, nd_dM_dS, nd_dM_dL, nd_dM_dR, nd_dM_dT, nd_dM_dZ, nd_dM_dI, nd_dM_dH, nd_dM_dN, nd_dS_dL, nd_dS_dR, nd_dS_dT, nd_dS_dZ, nd_dS_dI, nd_dS_dH, nd_dS_dN, nd_dL_dR, nd_dL_dT, nd_dL_dZ, nd_dL_dI, nd_dL_dH, nd_dL_dN, nd_dR_dT, nd_dR_dZ, nd_dR_dI, nd_dR_dH, nd_dR_dN, nd_dT_dZ, nd_dT_dI, nd_dT_dH, nd_dT_dN, nd_dZ_dI, nd_dZ_dH, nd_dZ_dN, nd_dI_dH, nd_dI_dN, nd_dH_dN, nd_dK_dJ, nd_dK_dU, nd_dK_dO, nd_dJ_dU, nd_dJ_dO, nd_dU_dO, nd_dP_dE, nd_dX_dY⟩ := id hND
  obtain ⟨gQ, gS, gL, gR, gT, gZ, gI, gH, gN, gK, gJ, gU, gO, k_dQ, k_dS, k_dL, k_dR, k_dT, k_dZ, k_dI, k_dH, k_dN, k_dK, k_dJ, k_dU, k_dO, hHd9, hMn9⟩ := id hLM
  refine lv_aload_n hx hb dX5_underWay_0 rfl (lv_at hl9 0 rfl) ?_
  refine lv_iload_n hx hb dX5_underWay_1 rfl (lv_at hl9 1 rfl) ?_
  refine hp_V (ci := 5) (As := [.int i]) (rest := []) B0 hw hS (c_W5_asksEnd hl G f mo dW dA dQ dM dS dL dR dT dZ dI dH dN dK dJ dU dO dF dP dE dX dY dG th (nI n) (nI a) (nI x) (nI cg) k_mo i) mV_X5_asksEnd qM_X5_133 rfl k_mo rfl rfl hl9.1 (Nat.le_of_ble_eq_true rfl) ⟨⟨Nat.le_of_ble_eq_true rfl, Nat.le_of_ble_eq_true rfl⟩, Nat.le_of_ble_eq_true rfl, Nat.le_of_ble_eq_true rfl⟩ dX5_underWay_2 (fun E ce q9 f1 H locs hPX hw hS hce hcv hcl => ?_) (fun v f1 H locs hP hw hS => ?_)
  · exact hPX.elim
  · obtain ⟨t2, h3, hv9, k4⟩ := hP
    rcases hv9 with ⟨ev9, b9 | b9⟩ | ev9
    · subst ev9
      subst b9
      refine W.eq (g2 := F0 m 5 ls [.int 1]) rfl ?_
      refine lv_if_eq (tgt := 17) hx hb dX5_underWay_5 (by decide) (fun c9 => absurd c9 (by decide)) (fun _ => ?_)
      refine lv_aload_n hx hb dX5_underWay_8 rfl (lv_at hl9 0 rfl) ?_
      refine hp_get B0 hw 5 rfl in_X5 h3 12 (by decide) qF_X5_44 rfl dX5_underWay_9 ?_
      refine lv_iload_n hx hb dX5_underWay_12 rfl (lv_at hl9 1 rfl) ?_
      have n6 : dN ≠ mo := hne k_dN k_mo (Nat.ne_of_beq_eq_false rfl)
      have h5 : f1 dN = some (.inl (cI G, 2, .inl gN)) := (hEq.k k4) _ _ k_dN (ninc n6 nin0)
      refine hp_iald B0 hw h5 (by unfold vp_in; decide) dX5_underWay_13 ?_
      refine lv_goto (tgt := 18) hx hb dX5_underWay_14 (by decide) ?_
      have n8 : dQ ≠ mo := hne k_dQ k_mo (Nat.ne_of_beq_eq_false rfl)
      have h7 : f1 dQ = some (.inl (cI G, 12, .inl gQ)) := (hEq.k k4) _ _ k_dQ (ninc n8 nin0)
      have n10 : dS ≠ mo := hne k_dS k_mo (Nat.ne_of_beq_eq_false rfl)
      have h9 : f1 dS = some (.inl (cI G, 2, .inl gS)) := (hEq.k k4) _ _ k_dS (ninc n10 nin0)
      have n12 : dL ≠ mo := hne k_dL k_mo (Nat.ne_of_beq_eq_false rfl)
      have h11 : f1 dL = some (.inl (cI G, 2, .inl gL)) := (hEq.k k4) _ _ k_dL (ninc n12 nin0)
      have n14 : dR ≠ mo := hne k_dR k_mo (Nat.ne_of_beq_eq_false rfl)
      have h13 : f1 dR = some (.inl (cI G, 2, .inl gR)) := (hEq.k k4) _ _ k_dR (ninc n14 nin0)
      have n16 : dT ≠ mo := hne k_dT k_mo (Nat.ne_of_beq_eq_false rfl)
      have h15 : f1 dT = some (.inl (cI G, 2, .inl gT)) := (hEq.k k4) _ _ k_dT (ninc n16 nin0)
      have n18 : dZ ≠ mo := hne k_dZ k_mo (Nat.ne_of_beq_eq_false rfl)
      have h17 : f1 dZ = some (.inl (cZ G, 2, .inl gZ)) := (hEq.k k4) _ _ k_dZ (ninc n18 nin0)
      have n20 : dI ≠ mo := hne k_dI k_mo (Nat.ne_of_beq_eq_false rfl)
      have h19 : f1 dI = some (.inl (cI G, 2, .inl gI)) := (hEq.k k4) _ _ k_dI (ninc n20 nin0)
      have n22 : dH ≠ mo := hne k_dH k_mo (Nat.ne_of_beq_eq_false rfl)
      have h21 : f1 dH = some (.inl (cI G, 2, .inl gH)) := (hEq.k k4) _ _ k_dH (ninc n22 nin0)
      have n24 : dK ≠ mo := hne k_dK k_mo (Nat.ne_of_beq_eq_false rfl)
      have h23 : f1 dK = some (.inl (cI G, 2048, .inl gK)) := (hEq.k k4) _ _ k_dK (ninc n24 nin0)
      have n26 : dJ ≠ mo := hne k_dJ k_mo (Nat.ne_of_beq_eq_false rfl)
      have h25 : f1 dJ = some (.inl (cI G, 2048, .inl gJ)) := (hEq.k k4) _ _ k_dJ (ninc n26 nin0)
      have n28 : dU ≠ mo := hne k_dU k_mo (Nat.ne_of_beq_eq_false rfl)
      have h27 : f1 dU = some (.inl (cI G, 2048, .inl gU)) := (hEq.k k4) _ _ k_dU (ninc n28 nin0)
      have n30 : dO ≠ mo := hne k_dO k_mo (Nat.ne_of_beq_eq_false rfl)
      have h29 : f1 dO = some (.inl (cI G, 2048, .inl gO)) := (hEq.k k4) _ _ k_dO (ninc n30 nin0)
      have n32 : dW ≠ mo := hne k_dW k_mo (Nat.ne_of_beq_eq_false rfl)
      have h31 : f1 dW = some (.inl (cI G, 12, .inl (jn gw0 gw1))) := (hEq.k k4) _ _ k_dW (ninc n32 nin0)
      have n34 : dA ≠ mo := hne k_dA k_mo (Nat.ne_of_beq_eq_false rfl)
      have h33 : f1 dA = some (.inl (cI G, 12, .inl (jn ga0 ga1))) := (hEq.k k4) _ _ k_dA (ninc n34 nin0)
      have n36 : dM ≠ mo := hne k_dM k_mo (Nat.ne_of_beq_eq_false rfl)
      have h35 : f1 dM = some (.inl (cI G, 2, .inl (mA2 mg0 mg1))) := (hEq.k k4) _ _ k_dM (ninc n36 nin0)
      have n38 : dF ≠ mo := hne k_dF k_mo (Nat.ne_of_beq_eq_false rfl)
      have h37 : f1 dF = some (.inl (cI G, 61, .inl (nf sa))) := (hEq.k k4) _ _ k_dF (ninc n38 nin0)
      have n40 : dP ≠ mo := hne k_dP k_mo (Nat.ne_of_beq_eq_false rfl)
      have h39 : f1 dP = some (.inl (cI G, 240, .inl (nf pk))) := (hEq.k k4) _ _ k_dP (ninc n40 nin0)
      have n42 : dE ≠ mo := hne k_dE k_mo (Nat.ne_of_beq_eq_false rfl)
      have h41 : f1 dE = some (.inl (cZ G, 240, .inl gh)) := (hEq.k k4) _ _ k_dE (ninc n42 nin0)
      have n44 : dX ≠ mo := hne k_dX k_mo (Nat.ne_of_beq_eq_false rfl)
      have h43 : f1 dX = some (.inl (cI G, 3, .inl (nf fl))) := (hEq.k k4) _ _ k_dX (ninc n44 nin0)
      have n46 : dY ≠ mo := hne k_dY k_mo (Nat.ne_of_beq_eq_false rfl)
      have h45 : f1 dY = some (.inl (cI G, 3, .inl gl)) := (hEq.k k4) _ _ k_dY (ninc n46 nin0)
      have n48 : dG ≠ mo := hne k_dG k_mo (Nat.ne_of_beq_eq_false rfl)
      have h47 : f1 dG = some (.inl (cI G, 60, .inl (nf gv))) := (hEq.k k4) _ _ k_dG (ninc n48 nin0)
      exact hp_iret (v := (gN (0 : Int32).toNatClampNeg)) B0 hw hS hr ⟨Nat.le_of_ble_eq_true rfl, Nat.le_of_ble_eq_true rfl⟩ dX5_underWay_18 (⟨⟨_, rfl⟩, ⟨_, ⟨h3, hND, ⟨_, _, _, _, _, _, _, _, _, _, _, _, _, h7, h9, h11, h13, h15, h17, h19, h21, h5, h23, h25, h27, h29, hHd9, (hMn.mono hMn9 (by omega))⟩, h31, h33, h35, h37, h39, h41, h43, h45, h47, hSA, hB9, hfl9⟩⟩, (show hEq [mo, dW, dA, dQ, dM, dS, dL, dR, dT, dZ, dI, dH, dN, dK, dJ, dU, dO, dF, dP, dE, dX, dY, dG] f f1 from (hEq.mono k4 (sub_cons List.mem_cons_self sub_nil)))⟩)
    · subst ev9
      subst b9
      refine W.eq (g2 := F0 m 5 ls [.int 1]) rfl ?_
      refine lv_if_eq (tgt := 17) hx hb dX5_underWay_5 (by decide) (fun c9 => absurd c9 (by decide)) (fun _ => ?_)
      refine lv_aload_n hx hb dX5_underWay_8 rfl (lv_at hl9 0 rfl) ?_
      refine hp_get B0 hw 5 rfl in_X5 h3 12 (by decide) qF_X5_44 rfl dX5_underWay_9 ?_
      refine lv_iload_n hx hb dX5_underWay_12 rfl (lv_at hl9 1 rfl) ?_
      have n50 : dN ≠ mo := hne k_dN k_mo (Nat.ne_of_beq_eq_false rfl)
      have h49 : f1 dN = some (.inl (cI G, 2, .inl gN)) := (hEq.k k4) _ _ k_dN (ninc n50 nin0)
      refine hp_iald B0 hw h49 (by unfold vp_in; decide) dX5_underWay_13 ?_
      refine lv_goto (tgt := 18) hx hb dX5_underWay_14 (by decide) ?_
      have n52 : dQ ≠ mo := hne k_dQ k_mo (Nat.ne_of_beq_eq_false rfl)
      have h51 : f1 dQ = some (.inl (cI G, 12, .inl gQ)) := (hEq.k k4) _ _ k_dQ (ninc n52 nin0)
      have n54 : dS ≠ mo := hne k_dS k_mo (Nat.ne_of_beq_eq_false rfl)
      have h53 : f1 dS = some (.inl (cI G, 2, .inl gS)) := (hEq.k k4) _ _ k_dS (ninc n54 nin0)
      have n56 : dL ≠ mo := hne k_dL k_mo (Nat.ne_of_beq_eq_false rfl)
      have h55 : f1 dL = some (.inl (cI G, 2, .inl gL)) := (hEq.k k4) _ _ k_dL (ninc n56 nin0)
      have n58 : dR ≠ mo := hne k_dR k_mo (Nat.ne_of_beq_eq_false rfl)
      have h57 : f1 dR = some (.inl (cI G, 2, .inl gR)) := (hEq.k k4) _ _ k_dR (ninc n58 nin0)
      have n60 : dT ≠ mo := hne k_dT k_mo (Nat.ne_of_beq_eq_false rfl)
      have h59 : f1 dT = some (.inl (cI G, 2, .inl gT)) := (hEq.k k4) _ _ k_dT (ninc n60 nin0)
      have n62 : dZ ≠ mo := hne k_dZ k_mo (Nat.ne_of_beq_eq_false rfl)
      have h61 : f1 dZ = some (.inl (cZ G, 2, .inl gZ)) := (hEq.k k4) _ _ k_dZ (ninc n62 nin0)
      have n64 : dI ≠ mo := hne k_dI k_mo (Nat.ne_of_beq_eq_false rfl)
      have h63 : f1 dI = some (.inl (cI G, 2, .inl gI)) := (hEq.k k4) _ _ k_dI (ninc n64 nin0)
      have n66 : dH ≠ mo := hne k_dH k_mo (Nat.ne_of_beq_eq_false rfl)
      have h65 : f1 dH = some (.inl (cI G, 2, .inl gH)) := (hEq.k k4) _ _ k_dH (ninc n66 nin0)
      have n68 : dK ≠ mo := hne k_dK k_mo (Nat.ne_of_beq_eq_false rfl)
      have h67 : f1 dK = some (.inl (cI G, 2048, .inl gK)) := (hEq.k k4) _ _ k_dK (ninc n68 nin0)
      have n70 : dJ ≠ mo := hne k_dJ k_mo (Nat.ne_of_beq_eq_false rfl)
      have h69 : f1 dJ = some (.inl (cI G, 2048, .inl gJ)) := (hEq.k k4) _ _ k_dJ (ninc n70 nin0)
      have n72 : dU ≠ mo := hne k_dU k_mo (Nat.ne_of_beq_eq_false rfl)
      have h71 : f1 dU = some (.inl (cI G, 2048, .inl gU)) := (hEq.k k4) _ _ k_dU (ninc n72 nin0)
      have n74 : dO ≠ mo := hne k_dO k_mo (Nat.ne_of_beq_eq_false rfl)
      have h73 : f1 dO = some (.inl (cI G, 2048, .inl gO)) := (hEq.k k4) _ _ k_dO (ninc n74 nin0)
      have n76 : dW ≠ mo := hne k_dW k_mo (Nat.ne_of_beq_eq_false rfl)
      have h75 : f1 dW = some (.inl (cI G, 12, .inl (jn gw0 gw1))) := (hEq.k k4) _ _ k_dW (ninc n76 nin0)
      have n78 : dA ≠ mo := hne k_dA k_mo (Nat.ne_of_beq_eq_false rfl)
      have h77 : f1 dA = some (.inl (cI G, 12, .inl (jn ga0 ga1))) := (hEq.k k4) _ _ k_dA (ninc n78 nin0)
      have n80 : dM ≠ mo := hne k_dM k_mo (Nat.ne_of_beq_eq_false rfl)
      have h79 : f1 dM = some (.inl (cI G, 2, .inl (mA2 mg0 mg1))) := (hEq.k k4) _ _ k_dM (ninc n80 nin0)
      have n82 : dF ≠ mo := hne k_dF k_mo (Nat.ne_of_beq_eq_false rfl)
      have h81 : f1 dF = some (.inl (cI G, 61, .inl (nf sa))) := (hEq.k k4) _ _ k_dF (ninc n82 nin0)
      have n84 : dP ≠ mo := hne k_dP k_mo (Nat.ne_of_beq_eq_false rfl)
      have h83 : f1 dP = some (.inl (cI G, 240, .inl (nf pk))) := (hEq.k k4) _ _ k_dP (ninc n84 nin0)
      have n86 : dE ≠ mo := hne k_dE k_mo (Nat.ne_of_beq_eq_false rfl)
      have h85 : f1 dE = some (.inl (cZ G, 240, .inl gh)) := (hEq.k k4) _ _ k_dE (ninc n86 nin0)
      have n88 : dX ≠ mo := hne k_dX k_mo (Nat.ne_of_beq_eq_false rfl)
      have h87 : f1 dX = some (.inl (cI G, 3, .inl (nf fl))) := (hEq.k k4) _ _ k_dX (ninc n88 nin0)
      have n90 : dY ≠ mo := hne k_dY k_mo (Nat.ne_of_beq_eq_false rfl)
      have h89 : f1 dY = some (.inl (cI G, 3, .inl gl)) := (hEq.k k4) _ _ k_dY (ninc n90 nin0)
      have n92 : dG ≠ mo := hne k_dG k_mo (Nat.ne_of_beq_eq_false rfl)
      have h91 : f1 dG = some (.inl (cI G, 60, .inl (nf gv))) := (hEq.k k4) _ _ k_dG (ninc n92 nin0)
      exact hp_iret (v := (gN (1 : Int32).toNatClampNeg)) B0 hw hS hr ⟨Nat.le_of_ble_eq_true rfl, Nat.le_of_ble_eq_true rfl⟩ dX5_underWay_18 (⟨⟨_, rfl⟩, ⟨_, ⟨h3, hND, ⟨_, _, _, _, _, _, _, _, _, _, _, _, _, h51, h53, h55, h57, h59, h61, h63, h65, h49, h67, h69, h71, h73, hHd9, (hMn.mono hMn9 (by omega))⟩, h75, h77, h79, h81, h83, h85, h87, h89, h91, hSA, hB9, hfl9⟩⟩, (show hEq [mo, dW, dA, dQ, dM, dS, dL, dR, dT, dZ, dI, dH, dN, dK, dJ, dU, dO, dF, dP, dE, dX, dY, dG] f f1 from (hEq.mono k4 (sub_cons List.mem_cons_self sub_nil)))⟩)
    · subst ev9
      refine W.eq (g2 := F0 m 5 ls [.int 0]) rfl ?_
      refine lv_if_eq (tgt := 17) hx hb dX5_underWay_5 (by decide) (fun _ => ?_) (fun c9 => absurd (by decide) c9)
      refine lv_iconst (v := 0) hx hb dX5_underWay_17 (by decide) ?_
      have n94 : dQ ≠ mo := hne k_dQ k_mo (Nat.ne_of_beq_eq_false rfl)
      have h93 : f1 dQ = some (.inl (cI G, 12, .inl gQ)) := (hEq.k k4) _ _ k_dQ (ninc n94 nin0)
      have n96 : dS ≠ mo := hne k_dS k_mo (Nat.ne_of_beq_eq_false rfl)
      have h95 : f1 dS = some (.inl (cI G, 2, .inl gS)) := (hEq.k k4) _ _ k_dS (ninc n96 nin0)
      have n98 : dL ≠ mo := hne k_dL k_mo (Nat.ne_of_beq_eq_false rfl)
      have h97 : f1 dL = some (.inl (cI G, 2, .inl gL)) := (hEq.k k4) _ _ k_dL (ninc n98 nin0)
      have n100 : dR ≠ mo := hne k_dR k_mo (Nat.ne_of_beq_eq_false rfl)
      have h99 : f1 dR = some (.inl (cI G, 2, .inl gR)) := (hEq.k k4) _ _ k_dR (ninc n100 nin0)
      have n102 : dT ≠ mo := hne k_dT k_mo (Nat.ne_of_beq_eq_false rfl)
      have h101 : f1 dT = some (.inl (cI G, 2, .inl gT)) := (hEq.k k4) _ _ k_dT (ninc n102 nin0)
      have n104 : dZ ≠ mo := hne k_dZ k_mo (Nat.ne_of_beq_eq_false rfl)
      have h103 : f1 dZ = some (.inl (cZ G, 2, .inl gZ)) := (hEq.k k4) _ _ k_dZ (ninc n104 nin0)
      have n106 : dI ≠ mo := hne k_dI k_mo (Nat.ne_of_beq_eq_false rfl)
      have h105 : f1 dI = some (.inl (cI G, 2, .inl gI)) := (hEq.k k4) _ _ k_dI (ninc n106 nin0)
      have n108 : dH ≠ mo := hne k_dH k_mo (Nat.ne_of_beq_eq_false rfl)
      have h107 : f1 dH = some (.inl (cI G, 2, .inl gH)) := (hEq.k k4) _ _ k_dH (ninc n108 nin0)
      have n110 : dN ≠ mo := hne k_dN k_mo (Nat.ne_of_beq_eq_false rfl)
      have h109 : f1 dN = some (.inl (cI G, 2, .inl gN)) := (hEq.k k4) _ _ k_dN (ninc n110 nin0)
      have n112 : dK ≠ mo := hne k_dK k_mo (Nat.ne_of_beq_eq_false rfl)
      have h111 : f1 dK = some (.inl (cI G, 2048, .inl gK)) := (hEq.k k4) _ _ k_dK (ninc n112 nin0)
      have n114 : dJ ≠ mo := hne k_dJ k_mo (Nat.ne_of_beq_eq_false rfl)
      have h113 : f1 dJ = some (.inl (cI G, 2048, .inl gJ)) := (hEq.k k4) _ _ k_dJ (ninc n114 nin0)
      have n116 : dU ≠ mo := hne k_dU k_mo (Nat.ne_of_beq_eq_false rfl)
      have h115 : f1 dU = some (.inl (cI G, 2048, .inl gU)) := (hEq.k k4) _ _ k_dU (ninc n116 nin0)
      have n118 : dO ≠ mo := hne k_dO k_mo (Nat.ne_of_beq_eq_false rfl)
      have h117 : f1 dO = some (.inl (cI G, 2048, .inl gO)) := (hEq.k k4) _ _ k_dO (ninc n118 nin0)
      have n120 : dW ≠ mo := hne k_dW k_mo (Nat.ne_of_beq_eq_false rfl)
      have h119 : f1 dW = some (.inl (cI G, 12, .inl (jn gw0 gw1))) := (hEq.k k4) _ _ k_dW (ninc n120 nin0)
      have n122 : dA ≠ mo := hne k_dA k_mo (Nat.ne_of_beq_eq_false rfl)
      have h121 : f1 dA = some (.inl (cI G, 12, .inl (jn ga0 ga1))) := (hEq.k k4) _ _ k_dA (ninc n122 nin0)
      have n124 : dM ≠ mo := hne k_dM k_mo (Nat.ne_of_beq_eq_false rfl)
      have h123 : f1 dM = some (.inl (cI G, 2, .inl (mA2 mg0 mg1))) := (hEq.k k4) _ _ k_dM (ninc n124 nin0)
      have n126 : dF ≠ mo := hne k_dF k_mo (Nat.ne_of_beq_eq_false rfl)
      have h125 : f1 dF = some (.inl (cI G, 61, .inl (nf sa))) := (hEq.k k4) _ _ k_dF (ninc n126 nin0)
      have n128 : dP ≠ mo := hne k_dP k_mo (Nat.ne_of_beq_eq_false rfl)
      have h127 : f1 dP = some (.inl (cI G, 240, .inl (nf pk))) := (hEq.k k4) _ _ k_dP (ninc n128 nin0)
      have n130 : dE ≠ mo := hne k_dE k_mo (Nat.ne_of_beq_eq_false rfl)
      have h129 : f1 dE = some (.inl (cZ G, 240, .inl gh)) := (hEq.k k4) _ _ k_dE (ninc n130 nin0)
      have n132 : dX ≠ mo := hne k_dX k_mo (Nat.ne_of_beq_eq_false rfl)
      have h131 : f1 dX = some (.inl (cI G, 3, .inl (nf fl))) := (hEq.k k4) _ _ k_dX (ninc n132 nin0)
      have n134 : dY ≠ mo := hne k_dY k_mo (Nat.ne_of_beq_eq_false rfl)
      have h133 : f1 dY = some (.inl (cI G, 3, .inl gl)) := (hEq.k k4) _ _ k_dY (ninc n134 nin0)
      have n136 : dG ≠ mo := hne k_dG k_mo (Nat.ne_of_beq_eq_false rfl)
      have h135 : f1 dG = some (.inl (cI G, 60, .inl (nf gv))) := (hEq.k k4) _ _ k_dG (ninc n136 nin0)
      exact hp_iret (v := 0) B0 hw hS hr ⟨Nat.le_of_ble_eq_true rfl, Nat.le_of_ble_eq_true rfl⟩ dX5_underWay_18 (⟨⟨_, rfl⟩, ⟨_, ⟨h3, hND, ⟨_, _, _, _, _, _, _, _, _, _, _, _, _, h93, h95, h97, h99, h101, h103, h105, h107, h109, h111, h113, h115, h117, hHd9, (hMn.mono hMn9 (by omega))⟩, h119, h121, h123, h125, h127, h129, h131, h133, h135, hSA, hB9, hfl9⟩⟩, (show hEq [mo, dW, dA, dQ, dM, dS, dL, dR, dT, dZ, dI, dH, dN, dK, dJ, dU, dO, dF, dP, dE, dX, dY, dG] f f1 from (hEq.mono k4 (sub_cons List.mem_cons_self sub_nil)))⟩)

set_option maxHeartbeats 4000000 in
set_option maxRecDepth 100000 in
theorem c_W5_missed {l : Launch} (hl : l.stackTraces = false) (G : hG) (f : hM) (mo dW dA dQ dM dS dL dR dT dZ dI dH dN dK dJ dU dO dF dP dE dX dY dG : Nat) (th : Int32) (B : Nat) (gw0 : Nat → Int32) (ga0 : Nat → Int32) (gw1 : Nat → Int32) (ga1 : Nat → Int32) (mg0 : Int32) (mg1 : Int32) (n : Nat) (a : Nat) (cg : Nat) (x : Nat) (sa : Nat → Nat) (pk : Nat → Nat) (fl : Nat → Nat) (gv : Nat → Nat) (gh : Nat → Int32) (gl : Nat → Int32) (hC : MW G f mo dW dA dQ dM dS dL dR dT dZ dI dH dN dK dJ dU dO dF dP dE dX dY dG th B gw0 ga0 gw1 ga1 mg0 mg1 n a cg x sa pk fl gv gh gl) (hBB : B + 100 < 100000) (i : Int32) : CT l yX5_missed (.code yX5_missed cX5_missed 2 (some .int)) 3 63 0 0 G [.ref mo, .int i] f (fun v f1 => (∃ r9 : Int32, v = some (.int r9)) ∧ (∃ t9 : Int32, MW G f1 mo dW dA dQ dM dS dL dR dT dZ dI dH dN dK dJ dU dO dF dP dE dX dY dG t9 (B + 100) gw0 ga0 gw1 ga1 mg0 mg1 n a cg x sa pk fl gv gh gl) ∧ hEq [mo, dW, dA, dQ, dM, dS, dL, dR, dT, dZ, dI, dH, dN, dK, dJ, dU, dO, dF, dP, dE, dX, dY, dG] f f1) (fun E f1 => False) := by
  refine hp_start hl (own := RX5) (by decide) rfl (Nat.le_of_ble_eq_true rfl) ?_
  intro p e s m args below meth c B0 hr hnm hout hw hS ls hl9
  have hx := B0.1
  have hb := B0.2.1
  have hl9 : lv_has ls 2 [(0, .ref mo), (1, .int i)] := hl9
  obtain ⟨k_mo, hND, hLM, k_dW, k_dA, k_dM, k_dF, k_dP, k_dE, k_dX, k_dY, k_dG, hSA, hB9, hfl9⟩ := id hC
  obtain ⟨nd_dW_dA, nd_dW_dQ, nd_dA_dQ, nd_dM_dS, nd_dM_dL, nd_dM_dR, nd_dM_dT, nd_dM_dZ, nd_dM_dI, nd_dM_dH, nd_dM_dN, nd_dS_dL, nd_dS_dR, nd_dS_dT, nd_dS_dZ, nd_dS_dI, nd_dS_dH, nd_dS_dN, nd_dL_dR, nd_dL_dT, nd_dL_dZ, nd_dL_dI, nd_dL_dH, nd_dL_dN, nd_dR_dT, nd_dR_dZ, nd_dR_dI, nd_dR_dH, nd_dR_dN, nd_dT_dZ, nd_dT_dI, nd_dT_dH, nd_dT_dN, nd_dZ_dI, nd_dZ_dH, nd_dZ_dN, nd_dI_dH, nd_dI_dN, nd_dH_dN, nd_dK_dJ, nd_dK_dU, nd_dK_dO, nd_dJ_dU, nd_dJ_dO, nd_dU_dO, nd_dP_dE, nd_dX_dY⟩ := id hND
  obtain ⟨gQ, gS, gL, gR, gT, gZ, gI, gH, gN, gK, gJ, gU, gO, k_dQ, k_dS, k_dL, k_dR, k_dT, k_dZ, k_dI, k_dH, k_dN, k_dK, k_dJ, k_dU, k_dO, hHd9, hMn9⟩ := id hLM
  refine lv_aload_n hx hb dX5_missed_0 rfl (lv_at hl9 0 rfl) ?_
  refine lv_iload_n hx hb dX5_missed_1 rfl (lv_at hl9 1 rfl) ?_
  refine hp_V (ci := 5) (As := [.int i]) (rest := []) B0 hw hS (c_W5_asksEnd hl G f mo dW dA dQ dM dS dL dR dT dZ dI dH dN dK dJ dU dO dF dP dE dX dY dG th (nI n) (nI a) (nI x) (nI cg) k_mo i) mV_X5_asksEnd qM_X5_133 rfl k_mo rfl rfl hl9.1 (Nat.le_of_ble_eq_true rfl) ⟨⟨Nat.le_of_ble_eq_true rfl, Nat.le_of_ble_eq_true rfl⟩, Nat.le_of_ble_eq_true rfl, Nat.le_of_ble_eq_true rfl⟩ dX5_missed_2 (fun E ce q9 f1 H locs hPX hw hS hce hcv hcl => ?_) (fun v f1 H locs hP hw hS => ?_)
  · exact hPX.elim
  · obtain ⟨t2, h3, hv9, k4⟩ := hP
    rcases hv9 with ⟨ev9, b9 | b9⟩ | ev9
    · subst ev9
      subst b9
      refine W.eq (g2 := F0 m 5 ls [.int 1]) rfl ?_
      refine lv_if_eq (tgt := 17) hx hb dX5_missed_5 (by decide) (fun c9 => absurd c9 (by decide)) (fun _ => ?_)
      refine lv_aload_n hx hb dX5_missed_8 rfl (lv_at hl9 0 rfl) ?_
      refine hp_get B0 hw 5 rfl in_X5 h3 10 (by decide) qF_X5_38 rfl dX5_missed_9 ?_
      refine lv_iload_n hx hb dX5_missed_12 rfl (lv_at hl9 1 rfl) ?_
      have n6 : dI ≠ mo := hne k_dI k_mo (Nat.ne_of_beq_eq_false rfl)
      have h5 : f1 dI = some (.inl (cI G, 2, .inl gI)) := (hEq.k k4) _ _ k_dI (ninc n6 nin0)
      refine hp_iald B0 hw h5 (by unfold vp_in; decide) dX5_missed_13 ?_
      refine lv_goto (tgt := 18) hx hb dX5_missed_14 (by decide) ?_
      have n8 : dQ ≠ mo := hne k_dQ k_mo (Nat.ne_of_beq_eq_false rfl)
      have h7 : f1 dQ = some (.inl (cI G, 12, .inl gQ)) := (hEq.k k4) _ _ k_dQ (ninc n8 nin0)
      have n10 : dS ≠ mo := hne k_dS k_mo (Nat.ne_of_beq_eq_false rfl)
      have h9 : f1 dS = some (.inl (cI G, 2, .inl gS)) := (hEq.k k4) _ _ k_dS (ninc n10 nin0)
      have n12 : dL ≠ mo := hne k_dL k_mo (Nat.ne_of_beq_eq_false rfl)
      have h11 : f1 dL = some (.inl (cI G, 2, .inl gL)) := (hEq.k k4) _ _ k_dL (ninc n12 nin0)
      have n14 : dR ≠ mo := hne k_dR k_mo (Nat.ne_of_beq_eq_false rfl)
      have h13 : f1 dR = some (.inl (cI G, 2, .inl gR)) := (hEq.k k4) _ _ k_dR (ninc n14 nin0)
      have n16 : dT ≠ mo := hne k_dT k_mo (Nat.ne_of_beq_eq_false rfl)
      have h15 : f1 dT = some (.inl (cI G, 2, .inl gT)) := (hEq.k k4) _ _ k_dT (ninc n16 nin0)
      have n18 : dZ ≠ mo := hne k_dZ k_mo (Nat.ne_of_beq_eq_false rfl)
      have h17 : f1 dZ = some (.inl (cZ G, 2, .inl gZ)) := (hEq.k k4) _ _ k_dZ (ninc n18 nin0)
      have n20 : dH ≠ mo := hne k_dH k_mo (Nat.ne_of_beq_eq_false rfl)
      have h19 : f1 dH = some (.inl (cI G, 2, .inl gH)) := (hEq.k k4) _ _ k_dH (ninc n20 nin0)
      have n22 : dN ≠ mo := hne k_dN k_mo (Nat.ne_of_beq_eq_false rfl)
      have h21 : f1 dN = some (.inl (cI G, 2, .inl gN)) := (hEq.k k4) _ _ k_dN (ninc n22 nin0)
      have n24 : dK ≠ mo := hne k_dK k_mo (Nat.ne_of_beq_eq_false rfl)
      have h23 : f1 dK = some (.inl (cI G, 2048, .inl gK)) := (hEq.k k4) _ _ k_dK (ninc n24 nin0)
      have n26 : dJ ≠ mo := hne k_dJ k_mo (Nat.ne_of_beq_eq_false rfl)
      have h25 : f1 dJ = some (.inl (cI G, 2048, .inl gJ)) := (hEq.k k4) _ _ k_dJ (ninc n26 nin0)
      have n28 : dU ≠ mo := hne k_dU k_mo (Nat.ne_of_beq_eq_false rfl)
      have h27 : f1 dU = some (.inl (cI G, 2048, .inl gU)) := (hEq.k k4) _ _ k_dU (ninc n28 nin0)
      have n30 : dO ≠ mo := hne k_dO k_mo (Nat.ne_of_beq_eq_false rfl)
      have h29 : f1 dO = some (.inl (cI G, 2048, .inl gO)) := (hEq.k k4) _ _ k_dO (ninc n30 nin0)
      have n32 : dW ≠ mo := hne k_dW k_mo (Nat.ne_of_beq_eq_false rfl)
      have h31 : f1 dW = some (.inl (cI G, 12, .inl (jn gw0 gw1))) := (hEq.k k4) _ _ k_dW (ninc n32 nin0)
      have n34 : dA ≠ mo := hne k_dA k_mo (Nat.ne_of_beq_eq_false rfl)
      have h33 : f1 dA = some (.inl (cI G, 12, .inl (jn ga0 ga1))) := (hEq.k k4) _ _ k_dA (ninc n34 nin0)
      have n36 : dM ≠ mo := hne k_dM k_mo (Nat.ne_of_beq_eq_false rfl)
      have h35 : f1 dM = some (.inl (cI G, 2, .inl (mA2 mg0 mg1))) := (hEq.k k4) _ _ k_dM (ninc n36 nin0)
      have n38 : dF ≠ mo := hne k_dF k_mo (Nat.ne_of_beq_eq_false rfl)
      have h37 : f1 dF = some (.inl (cI G, 61, .inl (nf sa))) := (hEq.k k4) _ _ k_dF (ninc n38 nin0)
      have n40 : dP ≠ mo := hne k_dP k_mo (Nat.ne_of_beq_eq_false rfl)
      have h39 : f1 dP = some (.inl (cI G, 240, .inl (nf pk))) := (hEq.k k4) _ _ k_dP (ninc n40 nin0)
      have n42 : dE ≠ mo := hne k_dE k_mo (Nat.ne_of_beq_eq_false rfl)
      have h41 : f1 dE = some (.inl (cZ G, 240, .inl gh)) := (hEq.k k4) _ _ k_dE (ninc n42 nin0)
      have n44 : dX ≠ mo := hne k_dX k_mo (Nat.ne_of_beq_eq_false rfl)
      have h43 : f1 dX = some (.inl (cI G, 3, .inl (nf fl))) := (hEq.k k4) _ _ k_dX (ninc n44 nin0)
      have n46 : dY ≠ mo := hne k_dY k_mo (Nat.ne_of_beq_eq_false rfl)
      have h45 : f1 dY = some (.inl (cI G, 3, .inl gl)) := (hEq.k k4) _ _ k_dY (ninc n46 nin0)
      have n48 : dG ≠ mo := hne k_dG k_mo (Nat.ne_of_beq_eq_false rfl)
      have h47 : f1 dG = some (.inl (cI G, 60, .inl (nf gv))) := (hEq.k k4) _ _ k_dG (ninc n48 nin0)
      exact hp_iret (v := (gI (0 : Int32).toNatClampNeg)) B0 hw hS hr ⟨Nat.le_of_ble_eq_true rfl, Nat.le_of_ble_eq_true rfl⟩ dX5_missed_18 (⟨⟨_, rfl⟩, ⟨_, ⟨h3, hND, ⟨_, _, _, _, _, _, _, _, _, _, _, _, _, h7, h9, h11, h13, h15, h17, h5, h19, h21, h23, h25, h27, h29, hHd9, (hMn.mono hMn9 (by omega))⟩, h31, h33, h35, h37, h39, h41, h43, h45, h47, hSA, hB9, hfl9⟩⟩, (show hEq [mo, dW, dA, dQ, dM, dS, dL, dR, dT, dZ, dI, dH, dN, dK, dJ, dU, dO, dF, dP, dE, dX, dY, dG] f f1 from (hEq.mono k4 (sub_cons List.mem_cons_self sub_nil)))⟩)
    · subst ev9
      subst b9
      refine W.eq (g2 := F0 m 5 ls [.int 1]) rfl ?_
      refine lv_if_eq (tgt := 17) hx hb dX5_missed_5 (by decide) (fun c9 => absurd c9 (by decide)) (fun _ => ?_)
      refine lv_aload_n hx hb dX5_missed_8 rfl (lv_at hl9 0 rfl) ?_
      refine hp_get B0 hw 5 rfl in_X5 h3 10 (by decide) qF_X5_38 rfl dX5_missed_9 ?_
      refine lv_iload_n hx hb dX5_missed_12 rfl (lv_at hl9 1 rfl) ?_
      have n50 : dI ≠ mo := hne k_dI k_mo (Nat.ne_of_beq_eq_false rfl)
      have h49 : f1 dI = some (.inl (cI G, 2, .inl gI)) := (hEq.k k4) _ _ k_dI (ninc n50 nin0)
      refine hp_iald B0 hw h49 (by unfold vp_in; decide) dX5_missed_13 ?_
      refine lv_goto (tgt := 18) hx hb dX5_missed_14 (by decide) ?_
      have n52 : dQ ≠ mo := hne k_dQ k_mo (Nat.ne_of_beq_eq_false rfl)
      have h51 : f1 dQ = some (.inl (cI G, 12, .inl gQ)) := (hEq.k k4) _ _ k_dQ (ninc n52 nin0)
      have n54 : dS ≠ mo := hne k_dS k_mo (Nat.ne_of_beq_eq_false rfl)
      have h53 : f1 dS = some (.inl (cI G, 2, .inl gS)) := (hEq.k k4) _ _ k_dS (ninc n54 nin0)
      have n56 : dL ≠ mo := hne k_dL k_mo (Nat.ne_of_beq_eq_false rfl)
      have h55 : f1 dL = some (.inl (cI G, 2, .inl gL)) := (hEq.k k4) _ _ k_dL (ninc n56 nin0)
      have n58 : dR ≠ mo := hne k_dR k_mo (Nat.ne_of_beq_eq_false rfl)
      have h57 : f1 dR = some (.inl (cI G, 2, .inl gR)) := (hEq.k k4) _ _ k_dR (ninc n58 nin0)
      have n60 : dT ≠ mo := hne k_dT k_mo (Nat.ne_of_beq_eq_false rfl)
      have h59 : f1 dT = some (.inl (cI G, 2, .inl gT)) := (hEq.k k4) _ _ k_dT (ninc n60 nin0)
      have n62 : dZ ≠ mo := hne k_dZ k_mo (Nat.ne_of_beq_eq_false rfl)
      have h61 : f1 dZ = some (.inl (cZ G, 2, .inl gZ)) := (hEq.k k4) _ _ k_dZ (ninc n62 nin0)
      have n64 : dH ≠ mo := hne k_dH k_mo (Nat.ne_of_beq_eq_false rfl)
      have h63 : f1 dH = some (.inl (cI G, 2, .inl gH)) := (hEq.k k4) _ _ k_dH (ninc n64 nin0)
      have n66 : dN ≠ mo := hne k_dN k_mo (Nat.ne_of_beq_eq_false rfl)
      have h65 : f1 dN = some (.inl (cI G, 2, .inl gN)) := (hEq.k k4) _ _ k_dN (ninc n66 nin0)
      have n68 : dK ≠ mo := hne k_dK k_mo (Nat.ne_of_beq_eq_false rfl)
      have h67 : f1 dK = some (.inl (cI G, 2048, .inl gK)) := (hEq.k k4) _ _ k_dK (ninc n68 nin0)
      have n70 : dJ ≠ mo := hne k_dJ k_mo (Nat.ne_of_beq_eq_false rfl)
      have h69 : f1 dJ = some (.inl (cI G, 2048, .inl gJ)) := (hEq.k k4) _ _ k_dJ (ninc n70 nin0)
      have n72 : dU ≠ mo := hne k_dU k_mo (Nat.ne_of_beq_eq_false rfl)
      have h71 : f1 dU = some (.inl (cI G, 2048, .inl gU)) := (hEq.k k4) _ _ k_dU (ninc n72 nin0)
      have n74 : dO ≠ mo := hne k_dO k_mo (Nat.ne_of_beq_eq_false rfl)
      have h73 : f1 dO = some (.inl (cI G, 2048, .inl gO)) := (hEq.k k4) _ _ k_dO (ninc n74 nin0)
      have n76 : dW ≠ mo := hne k_dW k_mo (Nat.ne_of_beq_eq_false rfl)
      have h75 : f1 dW = some (.inl (cI G, 12, .inl (jn gw0 gw1))) := (hEq.k k4) _ _ k_dW (ninc n76 nin0)
      have n78 : dA ≠ mo := hne k_dA k_mo (Nat.ne_of_beq_eq_false rfl)
      have h77 : f1 dA = some (.inl (cI G, 12, .inl (jn ga0 ga1))) := (hEq.k k4) _ _ k_dA (ninc n78 nin0)
      have n80 : dM ≠ mo := hne k_dM k_mo (Nat.ne_of_beq_eq_false rfl)
      have h79 : f1 dM = some (.inl (cI G, 2, .inl (mA2 mg0 mg1))) := (hEq.k k4) _ _ k_dM (ninc n80 nin0)
      have n82 : dF ≠ mo := hne k_dF k_mo (Nat.ne_of_beq_eq_false rfl)
      have h81 : f1 dF = some (.inl (cI G, 61, .inl (nf sa))) := (hEq.k k4) _ _ k_dF (ninc n82 nin0)
      have n84 : dP ≠ mo := hne k_dP k_mo (Nat.ne_of_beq_eq_false rfl)
      have h83 : f1 dP = some (.inl (cI G, 240, .inl (nf pk))) := (hEq.k k4) _ _ k_dP (ninc n84 nin0)
      have n86 : dE ≠ mo := hne k_dE k_mo (Nat.ne_of_beq_eq_false rfl)
      have h85 : f1 dE = some (.inl (cZ G, 240, .inl gh)) := (hEq.k k4) _ _ k_dE (ninc n86 nin0)
      have n88 : dX ≠ mo := hne k_dX k_mo (Nat.ne_of_beq_eq_false rfl)
      have h87 : f1 dX = some (.inl (cI G, 3, .inl (nf fl))) := (hEq.k k4) _ _ k_dX (ninc n88 nin0)
      have n90 : dY ≠ mo := hne k_dY k_mo (Nat.ne_of_beq_eq_false rfl)
      have h89 : f1 dY = some (.inl (cI G, 3, .inl gl)) := (hEq.k k4) _ _ k_dY (ninc n90 nin0)
      have n92 : dG ≠ mo := hne k_dG k_mo (Nat.ne_of_beq_eq_false rfl)
      have h91 : f1 dG = some (.inl (cI G, 60, .inl (nf gv))) := (hEq.k k4) _ _ k_dG (ninc n92 nin0)
      exact hp_iret (v := (gI (1 : Int32).toNatClampNeg)) B0 hw hS hr ⟨Nat.le_of_ble_eq_true rfl, Nat.le_of_ble_eq_true rfl⟩ dX5_missed_18 (⟨⟨_, rfl⟩, ⟨_, ⟨h3, hND, ⟨_, _, _, _, _, _, _, _, _, _, _, _, _, h51, h53, h55, h57, h59, h61, h49, h63, h65, h67, h69, h71, h73, hHd9, (hMn.mono hMn9 (by omega))⟩, h75, h77, h79, h81, h83, h85, h87, h89, h91, hSA, hB9, hfl9⟩⟩, (show hEq [mo, dW, dA, dQ, dM, dS, dL, dR, dT, dZ, dI, dH, dN, dK, dJ, dU, dO, dF, dP, dE, dX, dY, dG] f f1 from (hEq.mono k4 (sub_cons List.mem_cons_self sub_nil)))⟩)
    · subst ev9
      refine W.eq (g2 := F0 m 5 ls [.int 0]) rfl ?_
      refine lv_if_eq (tgt := 17) hx hb dX5_missed_5 (by decide) (fun _ => ?_) (fun c9 => absurd (by decide) c9)
      refine lv_iconst (v := 0) hx hb dX5_missed_17 (by decide) ?_
      have n94 : dQ ≠ mo := hne k_dQ k_mo (Nat.ne_of_beq_eq_false rfl)
      have h93 : f1 dQ = some (.inl (cI G, 12, .inl gQ)) := (hEq.k k4) _ _ k_dQ (ninc n94 nin0)
      have n96 : dS ≠ mo := hne k_dS k_mo (Nat.ne_of_beq_eq_false rfl)
      have h95 : f1 dS = some (.inl (cI G, 2, .inl gS)) := (hEq.k k4) _ _ k_dS (ninc n96 nin0)
      have n98 : dL ≠ mo := hne k_dL k_mo (Nat.ne_of_beq_eq_false rfl)
      have h97 : f1 dL = some (.inl (cI G, 2, .inl gL)) := (hEq.k k4) _ _ k_dL (ninc n98 nin0)
      have n100 : dR ≠ mo := hne k_dR k_mo (Nat.ne_of_beq_eq_false rfl)
      have h99 : f1 dR = some (.inl (cI G, 2, .inl gR)) := (hEq.k k4) _ _ k_dR (ninc n100 nin0)
      have n102 : dT ≠ mo := hne k_dT k_mo (Nat.ne_of_beq_eq_false rfl)
      have h101 : f1 dT = some (.inl (cI G, 2, .inl gT)) := (hEq.k k4) _ _ k_dT (ninc n102 nin0)
      have n104 : dZ ≠ mo := hne k_dZ k_mo (Nat.ne_of_beq_eq_false rfl)
      have h103 : f1 dZ = some (.inl (cZ G, 2, .inl gZ)) := (hEq.k k4) _ _ k_dZ (ninc n104 nin0)
      have n106 : dI ≠ mo := hne k_dI k_mo (Nat.ne_of_beq_eq_false rfl)
      have h105 : f1 dI = some (.inl (cI G, 2, .inl gI)) := (hEq.k k4) _ _ k_dI (ninc n106 nin0)
      have n108 : dH ≠ mo := hne k_dH k_mo (Nat.ne_of_beq_eq_false rfl)
      have h107 : f1 dH = some (.inl (cI G, 2, .inl gH)) := (hEq.k k4) _ _ k_dH (ninc n108 nin0)
      have n110 : dN ≠ mo := hne k_dN k_mo (Nat.ne_of_beq_eq_false rfl)
      have h109 : f1 dN = some (.inl (cI G, 2, .inl gN)) := (hEq.k k4) _ _ k_dN (ninc n110 nin0)
      have n112 : dK ≠ mo := hne k_dK k_mo (Nat.ne_of_beq_eq_false rfl)
      have h111 : f1 dK = some (.inl (cI G, 2048, .inl gK)) := (hEq.k k4) _ _ k_dK (ninc n112 nin0)
      have n114 : dJ ≠ mo := hne k_dJ k_mo (Nat.ne_of_beq_eq_false rfl)
      have h113 : f1 dJ = some (.inl (cI G, 2048, .inl gJ)) := (hEq.k k4) _ _ k_dJ (ninc n114 nin0)
      have n116 : dU ≠ mo := hne k_dU k_mo (Nat.ne_of_beq_eq_false rfl)
      have h115 : f1 dU = some (.inl (cI G, 2048, .inl gU)) := (hEq.k k4) _ _ k_dU (ninc n116 nin0)
      have n118 : dO ≠ mo := hne k_dO k_mo (Nat.ne_of_beq_eq_false rfl)
      have h117 : f1 dO = some (.inl (cI G, 2048, .inl gO)) := (hEq.k k4) _ _ k_dO (ninc n118 nin0)
      have n120 : dW ≠ mo := hne k_dW k_mo (Nat.ne_of_beq_eq_false rfl)
      have h119 : f1 dW = some (.inl (cI G, 12, .inl (jn gw0 gw1))) := (hEq.k k4) _ _ k_dW (ninc n120 nin0)
      have n122 : dA ≠ mo := hne k_dA k_mo (Nat.ne_of_beq_eq_false rfl)
      have h121 : f1 dA = some (.inl (cI G, 12, .inl (jn ga0 ga1))) := (hEq.k k4) _ _ k_dA (ninc n122 nin0)
      have n124 : dM ≠ mo := hne k_dM k_mo (Nat.ne_of_beq_eq_false rfl)
      have h123 : f1 dM = some (.inl (cI G, 2, .inl (mA2 mg0 mg1))) := (hEq.k k4) _ _ k_dM (ninc n124 nin0)
      have n126 : dF ≠ mo := hne k_dF k_mo (Nat.ne_of_beq_eq_false rfl)
      have h125 : f1 dF = some (.inl (cI G, 61, .inl (nf sa))) := (hEq.k k4) _ _ k_dF (ninc n126 nin0)
      have n128 : dP ≠ mo := hne k_dP k_mo (Nat.ne_of_beq_eq_false rfl)
      have h127 : f1 dP = some (.inl (cI G, 240, .inl (nf pk))) := (hEq.k k4) _ _ k_dP (ninc n128 nin0)
      have n130 : dE ≠ mo := hne k_dE k_mo (Nat.ne_of_beq_eq_false rfl)
      have h129 : f1 dE = some (.inl (cZ G, 240, .inl gh)) := (hEq.k k4) _ _ k_dE (ninc n130 nin0)
      have n132 : dX ≠ mo := hne k_dX k_mo (Nat.ne_of_beq_eq_false rfl)
      have h131 : f1 dX = some (.inl (cI G, 3, .inl (nf fl))) := (hEq.k k4) _ _ k_dX (ninc n132 nin0)
      have n134 : dY ≠ mo := hne k_dY k_mo (Nat.ne_of_beq_eq_false rfl)
      have h133 : f1 dY = some (.inl (cI G, 3, .inl gl)) := (hEq.k k4) _ _ k_dY (ninc n134 nin0)
      have n136 : dG ≠ mo := hne k_dG k_mo (Nat.ne_of_beq_eq_false rfl)
      have h135 : f1 dG = some (.inl (cI G, 60, .inl (nf gv))) := (hEq.k k4) _ _ k_dG (ninc n136 nin0)
      exact hp_iret (v := 0) B0 hw hS hr ⟨Nat.le_of_ble_eq_true rfl, Nat.le_of_ble_eq_true rfl⟩ dX5_missed_18 (⟨⟨_, rfl⟩, ⟨_, ⟨h3, hND, ⟨_, _, _, _, _, _, _, _, _, _, _, _, _, h93, h95, h97, h99, h101, h103, h105, h107, h109, h111, h113, h115, h117, hHd9, (hMn.mono hMn9 (by omega))⟩, h119, h121, h123, h125, h127, h129, h131, h133, h135, hSA, hB9, hfl9⟩⟩, (show hEq [mo, dW, dA, dQ, dM, dS, dL, dR, dT, dZ, dI, dH, dN, dK, dJ, dU, dO, dF, dP, dE, dX, dY, dG] f f1 from (hEq.mono k4 (sub_cons List.mem_cons_self sub_nil)))⟩)

set_option maxHeartbeats 4000000 in
set_option maxRecDepth 100000 in
theorem c_W5_asked {l : Launch} (hl : l.stackTraces = false) (G : hG) (f : hM) (mo dW dA dQ dM dS dL dR dT dZ dI dH dN dK dJ dU dO dF dP dE dX dY dG : Nat) (th : Int32) (B : Nat) (gw0 : Nat → Int32) (ga0 : Nat → Int32) (gw1 : Nat → Int32) (ga1 : Nat → Int32) (mg0 : Int32) (mg1 : Int32) (n : Nat) (a : Nat) (cg : Nat) (x : Nat) (sa : Nat → Nat) (pk : Nat → Nat) (fl : Nat → Nat) (gv : Nat → Nat) (gh : Nat → Int32) (gl : Nat → Int32) (hC : MW G f mo dW dA dQ dM dS dL dR dT dZ dI dH dN dK dJ dU dO dF dP dE dX dY dG th B gw0 ga0 gw1 ga1 mg0 mg1 n a cg x sa pk fl gv gh gl) (hBB : B + 100 < 100000) (i o : Int32) : CT l yX5_asked (.code yX5_asked cX5_asked 3 (some .int)) 2 42 0 0 G [.ref mo, .int i, .int o] f (fun v f1 => (∃ r9 : Int32, v = some (.int r9)) ∧ (∃ t9 : Int32, MW G f1 mo dW dA dQ dM dS dL dR dT dZ dI dH dN dK dJ dU dO dF dP dE dX dY dG t9 (B + 100) gw0 ga0 gw1 ga1 mg0 mg1 n a cg x sa pk fl gv gh gl) ∧ hEq [mo, dW, dA, dQ, dM, dS, dL, dR, dT, dZ, dI, dH, dN, dK, dJ, dU, dO, dF, dP, dE, dX, dY, dG] f f1) (fun E f1 => False) := by
  refine hp_start hl (own := RX5) (by decide) rfl (Nat.le_of_ble_eq_true rfl) ?_
  intro p e s m args below meth c B0 hr hnm hout hw hS ls hl9
  have hx := B0.1
  have hb := B0.2.1
  have hl9 : lv_has ls 3 [(0, .ref mo), (1, .int i), (2, .int o)] := hl9
  obtain ⟨k_mo, hND, hLM, k_dW, k_dA, k_dM, k_dF, k_dP, k_dE, k_dX, k_dY, k_dG, hSA, hB9, hfl9⟩ := id hC
  obtain ⟨nd_dW_dA, nd_dW_dQ, nd_dA_dQ, nd_dM_dS, nd_dM_dL, nd_dM_dR, nd_dM_dT, nd_dM_dZ, nd_dM_dI, nd_dM_dH, nd_dM_dN, nd_dS_dL, nd_dS_dR, nd_dS_dT, nd_dS_dZ, nd_dS_dI, nd_dS_dH, nd_dS_dN, nd_dL_dR, nd_dL_dT, nd_dL_dZ, nd_dL_dI, nd_dL_dH, nd_dL_dN, nd_dR_dT, nd_dR_dZ, nd_dR_dI, nd_dR_dH, nd_dR_dN, nd_dT_dZ, nd_dT_dI, nd_dT_dH, nd_dT_dN, nd_dZ_dI, nd_dZ_dH, nd_dZ_dN, nd_dI_dH, nd_dI_dN, nd_dH_dN, nd_dK_dJ, nd_dK_dU, nd_dK_dO, nd_dJ_dU, nd_dJ_dO, nd_dU_dO, nd_dP_dE, nd_dX_dY⟩ := id hND
  obtain ⟨gQ, gS, gL, gR, gT, gZ, gI, gH, gN, gK, gJ, gU, gO, k_dQ, k_dS, k_dL, k_dR, k_dT, k_dZ, k_dI, k_dH, k_dN, k_dK, k_dJ, k_dU, k_dO, hHd9, hMn9⟩ := id hLM
  refine lv_aload_n hx hb dX5_asked_0 rfl (lv_at hl9 0 rfl) ?_
  refine lv_iload_n hx hb dX5_asked_1 rfl (lv_at hl9 1 rfl) ?_
  refine hp_S (As := [.int i]) (rest := [.ref mo]) B0 hw hS (c_X5_isEnd hl G f i) mS_X5_isEnd qM_X5_85 rfl rfl hl9.1 (Nat.le_of_ble_eq_true rfl) ⟨⟨Nat.le_of_ble_eq_true rfl, Nat.le_of_ble_eq_true rfl⟩, Nat.le_of_ble_eq_true rfl, Nat.le_of_ble_eq_true rfl⟩ dX5_asked_2 (fun E ce q9 f1 H locs hPX hw hS hce hcv hcl => ?_) (fun v f1 H locs hP hw hS => ?_)
  · exact hPX.elim
  · obtain ⟨ef9, hv9⟩ := hP
    rw [ef9] at hw
    rcases hv9 with ⟨b9 | b9, ev9⟩ | ⟨hnE, ev9⟩
    · subst ev9
      subst b9
      refine W.eq (g2 := F0 m 5 ls [.int 1, .ref mo]) rfl ?_
      refine lv_if_eq (tgt := 19) hx hb dX5_asked_5 (by decide) (fun c9 => absurd c9 (by decide)) (fun _ => ?_)
      refine lv_iload_n hx hb dX5_asked_8 rfl (lv_at hl9 2 rfl) ?_
      refine hp_S (As := [.int o]) (rest := [.ref mo]) B0 hw hS (c_X5_isOption hl G f o) mS_X5_isOption qM_X5_89 rfl rfl hl9.1 (Nat.le_of_ble_eq_true rfl) ⟨⟨Nat.le_of_ble_eq_true rfl, Nat.le_of_ble_eq_true rfl⟩, Nat.le_of_ble_eq_true rfl, Nat.le_of_ble_eq_true rfl⟩ dX5_asked_9 (fun E ce q9 f2 H locs hPX hw hS hce hcv hcl => ?_) (fun v f2 H locs hP hw hS => ?_)
      · exact hPX.elim
      · obtain ⟨ef9, hv9⟩ := hP
        rw [ef9] at hw
        rcases hv9 with ⟨b3, ev9⟩ | ⟨b3, ev9⟩
        · subst ev9
          refine W.eq (g2 := F0 m 12 ls [.int 1, .ref mo]) rfl ?_
          refine lv_if_eq (tgt := 19) hx hb dX5_asked_12 (by decide) (fun c9 => absurd c9 (by decide)) (fun _ => ?_)
          refine lv_iconst (v := 0) hx hb dX5_asked_15 (by decide) ?_
          refine lv_goto (tgt := 20) hx hb dX5_asked_16 (by decide) ?_
          refine hp_put (fs1 := [.int 0, .ref dW, .ref dA, .ref dQ, .ref dM, .ref dS, .ref dL, .ref dR, .ref dT, .ref dZ, .ref dI, .ref dH, .ref dN, .ref dK, .ref dJ, .ref dU, .ref dO, .int (nI n), .int (nI a), .ref dF, .ref dP, .ref dE, .ref dX, .ref dY, .int (nI x), .int (nI cg), .ref dG]) (ty := .int) B0 hw hS 5 rfl in_X5 tyX5 tyX5_ok nmX5 k_mo 0 (by decide) qF_X5_77 rfl (by decide +kernel) rfl rfl (Nat.le_of_ble_eq_true rfl) rfl dX5_asked_20 (fun H locs f4 ef4 hw hS => ?_)
          have h5 : f4 mo = some (.inr (5, [.int 0, .ref dW, .ref dA, .ref dQ, .ref dM, .ref dS, .ref dL, .ref dR, .ref dT, .ref dZ, .ref dI, .ref dH, .ref dN, .ref dK, .ref dJ, .ref dU, .ref dO, .int (nI n), .int (nI a), .ref dF, .ref dP, .ref dE, .ref dX, .ref dY, .int (nI x), .int (nI cg), .ref dG])) := by rw [ef4, va_up_self]
          refine lv_aload_n hx hb dX5_asked_23 rfl (lv_at hl9 0 rfl) ?_
          refine hp_get B0 hw 5 rfl in_X5 h5 0 (by decide) qF_X5_77 rfl dX5_asked_24 ?_
          refine lv_if_le (tgt := 34) hx hb dX5_asked_27 (by decide) (fun _ => ?_) (fun c9 => absurd (by decide) c9)
          obtain ⟨ko, hko, eo9⟩ := vp_in_of (vin6 b3) (by decide)
          subst eo9
          refine lv_aload_n hx hb dX5_asked_34 rfl (lv_at hl9 0 rfl) ?_
          refine hp_get B0 hw 5 rfl in_X5 h5 3 (by decide) qF_X5_16 rfl dX5_asked_35 ?_
          refine lv_bipush (v := 6) hx hb dX5_asked_38 (by decide) ?_
          refine lv_iload_n hx hb dX5_asked_40 rfl (lv_at hl9 1 rfl) ?_
          refine lv_imul hx hb dX5_asked_41 ?_
          refine hp_c (v := 0) (by decide) ?_
          refine lv_iload_n hx hb dX5_asked_42 rfl (lv_at hl9 2 rfl) ?_
          refine lv_iadd hx hb dX5_asked_43 ?_
          refine hp_c (v := (nI ko)) (Int32.zero_add _) ?_
          have n7 : dQ ≠ mo := hne k_dQ k_mo (Nat.ne_of_beq_eq_false rfl)
          have h6 : f4 dQ = some (.inl (cI G, 12, .inl gQ)) := by rw [ef4, va_up_ne _ _ n7]; exact k_dQ
          refine hp_iald B0 hw h6 (vp_in_nI (show ko < 12 by omega) (by decide)) dX5_asked_44 ?_
          have n9 : dS ≠ mo := hne k_dS k_mo (Nat.ne_of_beq_eq_false rfl)
          have h8 : f4 dS = some (.inl (cI G, 2, .inl gS)) := by rw [ef4, va_up_ne _ _ n9]; exact k_dS
          have n11 : dL ≠ mo := hne k_dL k_mo (Nat.ne_of_beq_eq_false rfl)
          have h10 : f4 dL = some (.inl (cI G, 2, .inl gL)) := by rw [ef4, va_up_ne _ _ n11]; exact k_dL
          have n13 : dR ≠ mo := hne k_dR k_mo (Nat.ne_of_beq_eq_false rfl)
          have h12 : f4 dR = some (.inl (cI G, 2, .inl gR)) := by rw [ef4, va_up_ne _ _ n13]; exact k_dR
          have n15 : dT ≠ mo := hne k_dT k_mo (Nat.ne_of_beq_eq_false rfl)
          have h14 : f4 dT = some (.inl (cI G, 2, .inl gT)) := by rw [ef4, va_up_ne _ _ n15]; exact k_dT
          have n17 : dZ ≠ mo := hne k_dZ k_mo (Nat.ne_of_beq_eq_false rfl)
          have h16 : f4 dZ = some (.inl (cZ G, 2, .inl gZ)) := by rw [ef4, va_up_ne _ _ n17]; exact k_dZ
          have n19 : dI ≠ mo := hne k_dI k_mo (Nat.ne_of_beq_eq_false rfl)
          have h18 : f4 dI = some (.inl (cI G, 2, .inl gI)) := by rw [ef4, va_up_ne _ _ n19]; exact k_dI
          have n21 : dH ≠ mo := hne k_dH k_mo (Nat.ne_of_beq_eq_false rfl)
          have h20 : f4 dH = some (.inl (cI G, 2, .inl gH)) := by rw [ef4, va_up_ne _ _ n21]; exact k_dH
          have n23 : dN ≠ mo := hne k_dN k_mo (Nat.ne_of_beq_eq_false rfl)
          have h22 : f4 dN = some (.inl (cI G, 2, .inl gN)) := by rw [ef4, va_up_ne _ _ n23]; exact k_dN
          have n25 : dK ≠ mo := hne k_dK k_mo (Nat.ne_of_beq_eq_false rfl)
          have h24 : f4 dK = some (.inl (cI G, 2048, .inl gK)) := by rw [ef4, va_up_ne _ _ n25]; exact k_dK
          have n27 : dJ ≠ mo := hne k_dJ k_mo (Nat.ne_of_beq_eq_false rfl)
          have h26 : f4 dJ = some (.inl (cI G, 2048, .inl gJ)) := by rw [ef4, va_up_ne _ _ n27]; exact k_dJ
          have n29 : dU ≠ mo := hne k_dU k_mo (Nat.ne_of_beq_eq_false rfl)
          have h28 : f4 dU = some (.inl (cI G, 2048, .inl gU)) := by rw [ef4, va_up_ne _ _ n29]; exact k_dU
          have n31 : dO ≠ mo := hne k_dO k_mo (Nat.ne_of_beq_eq_false rfl)
          have h30 : f4 dO = some (.inl (cI G, 2048, .inl gO)) := by rw [ef4, va_up_ne _ _ n31]; exact k_dO
          have n33 : dW ≠ mo := hne k_dW k_mo (Nat.ne_of_beq_eq_false rfl)
          have h32 : f4 dW = some (.inl (cI G, 12, .inl (jn gw0 gw1))) := by rw [ef4, va_up_ne _ _ n33]; exact k_dW
          have n35 : dA ≠ mo := hne k_dA k_mo (Nat.ne_of_beq_eq_false rfl)
          have h34 : f4 dA = some (.inl (cI G, 12, .inl (jn ga0 ga1))) := by rw [ef4, va_up_ne _ _ n35]; exact k_dA
          have n37 : dM ≠ mo := hne k_dM k_mo (Nat.ne_of_beq_eq_false rfl)
          have h36 : f4 dM = some (.inl (cI G, 2, .inl (mA2 mg0 mg1))) := by rw [ef4, va_up_ne _ _ n37]; exact k_dM
          have n39 : dF ≠ mo := hne k_dF k_mo (Nat.ne_of_beq_eq_false rfl)
          have h38 : f4 dF = some (.inl (cI G, 61, .inl (nf sa))) := by rw [ef4, va_up_ne _ _ n39]; exact k_dF
          have n41 : dP ≠ mo := hne k_dP k_mo (Nat.ne_of_beq_eq_false rfl)
          have h40 : f4 dP = some (.inl (cI G, 240, .inl (nf pk))) := by rw [ef4, va_up_ne _ _ n41]; exact k_dP
          have n43 : dE ≠ mo := hne k_dE k_mo (Nat.ne_of_beq_eq_false rfl)
          have h42 : f4 dE = some (.inl (cZ G, 240, .inl gh)) := by rw [ef4, va_up_ne _ _ n43]; exact k_dE
          have n45 : dX ≠ mo := hne k_dX k_mo (Nat.ne_of_beq_eq_false rfl)
          have h44 : f4 dX = some (.inl (cI G, 3, .inl (nf fl))) := by rw [ef4, va_up_ne _ _ n45]; exact k_dX
          have n47 : dY ≠ mo := hne k_dY k_mo (Nat.ne_of_beq_eq_false rfl)
          have h46 : f4 dY = some (.inl (cI G, 3, .inl gl)) := by rw [ef4, va_up_ne _ _ n47]; exact k_dY
          have n49 : dG ≠ mo := hne k_dG k_mo (Nat.ne_of_beq_eq_false rfl)
          have h48 : f4 dG = some (.inl (cI G, 60, .inl (nf gv))) := by rw [ef4, va_up_ne _ _ n49]; exact k_dG
          exact hp_iret (v := (gQ ((nI ko) : Int32).toNatClampNeg)) B0 hw hS hr ⟨Nat.le_of_ble_eq_true rfl, Nat.le_of_ble_eq_true rfl⟩ dX5_asked_45 (⟨⟨_, rfl⟩, ⟨_, ⟨h5, hND, ⟨_, _, _, _, _, _, _, _, _, _, _, _, _, h6, h8, h10, h12, h14, h16, h18, h20, h22, h24, h26, h28, h30, hHd9, (hMn.mono hMn9 (by omega))⟩, h32, h34, h36, h38, h40, h42, h44, h46, h48, hSA, hB9, hfl9⟩⟩, (show hEq [mo, dW, dA, dQ, dM, dS, dL, dR, dT, dZ, dI, dH, dN, dK, dJ, dU, dO, dF, dP, dE, dX, dY, dG] f f4 from (by rw [ef4]; exact hEq.up List.mem_cons_self))⟩)
        · subst ev9
          refine W.eq (g2 := F0 m 12 ls [.int 0, .ref mo]) rfl ?_
          refine lv_if_eq (tgt := 19) hx hb dX5_asked_12 (by decide) (fun _ => ?_) (fun c9 => absurd (by decide) c9)
          refine lv_iconst (v := 1) hx hb dX5_asked_19 (by decide) ?_
          refine hp_put (fs1 := [.int 1, .ref dW, .ref dA, .ref dQ, .ref dM, .ref dS, .ref dL, .ref dR, .ref dT, .ref dZ, .ref dI, .ref dH, .ref dN, .ref dK, .ref dJ, .ref dU, .ref dO, .int (nI n), .int (nI a), .ref dF, .ref dP, .ref dE, .ref dX, .ref dY, .int (nI x), .int (nI cg), .ref dG]) (ty := .int) B0 hw hS 5 rfl in_X5 tyX5 tyX5_ok nmX5 k_mo 0 (by decide) qF_X5_77 rfl (by decide +kernel) rfl rfl (Nat.le_of_ble_eq_true rfl) rfl dX5_asked_20 (fun H locs f50 ef50 hw hS => ?_)
          have h51 : f50 mo = some (.inr (5, [.int 1, .ref dW, .ref dA, .ref dQ, .ref dM, .ref dS, .ref dL, .ref dR, .ref dT, .ref dZ, .ref dI, .ref dH, .ref dN, .ref dK, .ref dJ, .ref dU, .ref dO, .int (nI n), .int (nI a), .ref dF, .ref dP, .ref dE, .ref dX, .ref dY, .int (nI x), .int (nI cg), .ref dG])) := by rw [ef50, va_up_self]
          refine lv_aload_n hx hb dX5_asked_23 rfl (lv_at hl9 0 rfl) ?_
          refine hp_get B0 hw 5 rfl in_X5 h51 0 (by decide) qF_X5_77 rfl dX5_asked_24 ?_
          refine lv_if_le (tgt := 34) hx hb dX5_asked_27 (by decide) (fun c9 => absurd c9 (by decide)) (fun _ => ?_)
          refine lv_iconst (v := 0) hx hb dX5_asked_30 (by decide) ?_
          refine lv_goto (tgt := 45) hx hb dX5_asked_31 (by decide) ?_
          have n53 : dQ ≠ mo := hne k_dQ k_mo (Nat.ne_of_beq_eq_false rfl)
          have h52 : f50 dQ = some (.inl (cI G, 12, .inl gQ)) := by rw [ef50, va_up_ne _ _ n53]; exact k_dQ
          have n55 : dS ≠ mo := hne k_dS k_mo (Nat.ne_of_beq_eq_false rfl)
          have h54 : f50 dS = some (.inl (cI G, 2, .inl gS)) := by rw [ef50, va_up_ne _ _ n55]; exact k_dS
          have n57 : dL ≠ mo := hne k_dL k_mo (Nat.ne_of_beq_eq_false rfl)
          have h56 : f50 dL = some (.inl (cI G, 2, .inl gL)) := by rw [ef50, va_up_ne _ _ n57]; exact k_dL
          have n59 : dR ≠ mo := hne k_dR k_mo (Nat.ne_of_beq_eq_false rfl)
          have h58 : f50 dR = some (.inl (cI G, 2, .inl gR)) := by rw [ef50, va_up_ne _ _ n59]; exact k_dR
          have n61 : dT ≠ mo := hne k_dT k_mo (Nat.ne_of_beq_eq_false rfl)
          have h60 : f50 dT = some (.inl (cI G, 2, .inl gT)) := by rw [ef50, va_up_ne _ _ n61]; exact k_dT
          have n63 : dZ ≠ mo := hne k_dZ k_mo (Nat.ne_of_beq_eq_false rfl)
          have h62 : f50 dZ = some (.inl (cZ G, 2, .inl gZ)) := by rw [ef50, va_up_ne _ _ n63]; exact k_dZ
          have n65 : dI ≠ mo := hne k_dI k_mo (Nat.ne_of_beq_eq_false rfl)
          have h64 : f50 dI = some (.inl (cI G, 2, .inl gI)) := by rw [ef50, va_up_ne _ _ n65]; exact k_dI
          have n67 : dH ≠ mo := hne k_dH k_mo (Nat.ne_of_beq_eq_false rfl)
          have h66 : f50 dH = some (.inl (cI G, 2, .inl gH)) := by rw [ef50, va_up_ne _ _ n67]; exact k_dH
          have n69 : dN ≠ mo := hne k_dN k_mo (Nat.ne_of_beq_eq_false rfl)
          have h68 : f50 dN = some (.inl (cI G, 2, .inl gN)) := by rw [ef50, va_up_ne _ _ n69]; exact k_dN
          have n71 : dK ≠ mo := hne k_dK k_mo (Nat.ne_of_beq_eq_false rfl)
          have h70 : f50 dK = some (.inl (cI G, 2048, .inl gK)) := by rw [ef50, va_up_ne _ _ n71]; exact k_dK
          have n73 : dJ ≠ mo := hne k_dJ k_mo (Nat.ne_of_beq_eq_false rfl)
          have h72 : f50 dJ = some (.inl (cI G, 2048, .inl gJ)) := by rw [ef50, va_up_ne _ _ n73]; exact k_dJ
          have n75 : dU ≠ mo := hne k_dU k_mo (Nat.ne_of_beq_eq_false rfl)
          have h74 : f50 dU = some (.inl (cI G, 2048, .inl gU)) := by rw [ef50, va_up_ne _ _ n75]; exact k_dU
          have n77 : dO ≠ mo := hne k_dO k_mo (Nat.ne_of_beq_eq_false rfl)
          have h76 : f50 dO = some (.inl (cI G, 2048, .inl gO)) := by rw [ef50, va_up_ne _ _ n77]; exact k_dO
          have n79 : dW ≠ mo := hne k_dW k_mo (Nat.ne_of_beq_eq_false rfl)
          have h78 : f50 dW = some (.inl (cI G, 12, .inl (jn gw0 gw1))) := by rw [ef50, va_up_ne _ _ n79]; exact k_dW
          have n81 : dA ≠ mo := hne k_dA k_mo (Nat.ne_of_beq_eq_false rfl)
          have h80 : f50 dA = some (.inl (cI G, 12, .inl (jn ga0 ga1))) := by rw [ef50, va_up_ne _ _ n81]; exact k_dA
          have n83 : dM ≠ mo := hne k_dM k_mo (Nat.ne_of_beq_eq_false rfl)
          have h82 : f50 dM = some (.inl (cI G, 2, .inl (mA2 mg0 mg1))) := by rw [ef50, va_up_ne _ _ n83]; exact k_dM
          have n85 : dF ≠ mo := hne k_dF k_mo (Nat.ne_of_beq_eq_false rfl)
          have h84 : f50 dF = some (.inl (cI G, 61, .inl (nf sa))) := by rw [ef50, va_up_ne _ _ n85]; exact k_dF
          have n87 : dP ≠ mo := hne k_dP k_mo (Nat.ne_of_beq_eq_false rfl)
          have h86 : f50 dP = some (.inl (cI G, 240, .inl (nf pk))) := by rw [ef50, va_up_ne _ _ n87]; exact k_dP
          have n89 : dE ≠ mo := hne k_dE k_mo (Nat.ne_of_beq_eq_false rfl)
          have h88 : f50 dE = some (.inl (cZ G, 240, .inl gh)) := by rw [ef50, va_up_ne _ _ n89]; exact k_dE
          have n91 : dX ≠ mo := hne k_dX k_mo (Nat.ne_of_beq_eq_false rfl)
          have h90 : f50 dX = some (.inl (cI G, 3, .inl (nf fl))) := by rw [ef50, va_up_ne _ _ n91]; exact k_dX
          have n93 : dY ≠ mo := hne k_dY k_mo (Nat.ne_of_beq_eq_false rfl)
          have h92 : f50 dY = some (.inl (cI G, 3, .inl gl)) := by rw [ef50, va_up_ne _ _ n93]; exact k_dY
          have n95 : dG ≠ mo := hne k_dG k_mo (Nat.ne_of_beq_eq_false rfl)
          have h94 : f50 dG = some (.inl (cI G, 60, .inl (nf gv))) := by rw [ef50, va_up_ne _ _ n95]; exact k_dG
          exact hp_iret (v := 0) B0 hw hS hr ⟨Nat.le_of_ble_eq_true rfl, Nat.le_of_ble_eq_true rfl⟩ dX5_asked_45 (⟨⟨_, rfl⟩, ⟨_, ⟨h51, hND, ⟨_, _, _, _, _, _, _, _, _, _, _, _, _, h52, h54, h56, h58, h60, h62, h64, h66, h68, h70, h72, h74, h76, hHd9, (hMn.mono hMn9 (by omega))⟩, h78, h80, h82, h84, h86, h88, h90, h92, h94, hSA, hB9, hfl9⟩⟩, (show hEq [mo, dW, dA, dQ, dM, dS, dL, dR, dT, dZ, dI, dH, dN, dK, dJ, dU, dO, dF, dP, dE, dX, dY, dG] f f50 from (by rw [ef50]; exact hEq.up List.mem_cons_self))⟩)
    · subst ev9
      subst b9
      refine W.eq (g2 := F0 m 5 ls [.int 1, .ref mo]) rfl ?_
      refine lv_if_eq (tgt := 19) hx hb dX5_asked_5 (by decide) (fun c9 => absurd c9 (by decide)) (fun _ => ?_)
      refine lv_iload_n hx hb dX5_asked_8 rfl (lv_at hl9 2 rfl) ?_
      refine hp_S (As := [.int o]) (rest := [.ref mo]) B0 hw hS (c_X5_isOption hl G f o) mS_X5_isOption qM_X5_89 rfl rfl hl9.1 (Nat.le_of_ble_eq_true rfl) ⟨⟨Nat.le_of_ble_eq_true rfl, Nat.le_of_ble_eq_true rfl⟩, Nat.le_of_ble_eq_true rfl, Nat.le_of_ble_eq_true rfl⟩ dX5_asked_9 (fun E ce q9 f96 H locs hPX hw hS hce hcv hcl => ?_) (fun v f96 H locs hP hw hS => ?_)
      · exact hPX.elim
      · obtain ⟨ef9, hv9⟩ := hP
        rw [ef9] at hw
        rcases hv9 with ⟨b97, ev9⟩ | ⟨b97, ev9⟩
        · subst ev9
          refine W.eq (g2 := F0 m 12 ls [.int 1, .ref mo]) rfl ?_
          refine lv_if_eq (tgt := 19) hx hb dX5_asked_12 (by decide) (fun c9 => absurd c9 (by decide)) (fun _ => ?_)
          refine lv_iconst (v := 0) hx hb dX5_asked_15 (by decide) ?_
          refine lv_goto (tgt := 20) hx hb dX5_asked_16 (by decide) ?_
          refine hp_put (fs1 := [.int 0, .ref dW, .ref dA, .ref dQ, .ref dM, .ref dS, .ref dL, .ref dR, .ref dT, .ref dZ, .ref dI, .ref dH, .ref dN, .ref dK, .ref dJ, .ref dU, .ref dO, .int (nI n), .int (nI a), .ref dF, .ref dP, .ref dE, .ref dX, .ref dY, .int (nI x), .int (nI cg), .ref dG]) (ty := .int) B0 hw hS 5 rfl in_X5 tyX5 tyX5_ok nmX5 k_mo 0 (by decide) qF_X5_77 rfl (by decide +kernel) rfl rfl (Nat.le_of_ble_eq_true rfl) rfl dX5_asked_20 (fun H locs f98 ef98 hw hS => ?_)
          have h99 : f98 mo = some (.inr (5, [.int 0, .ref dW, .ref dA, .ref dQ, .ref dM, .ref dS, .ref dL, .ref dR, .ref dT, .ref dZ, .ref dI, .ref dH, .ref dN, .ref dK, .ref dJ, .ref dU, .ref dO, .int (nI n), .int (nI a), .ref dF, .ref dP, .ref dE, .ref dX, .ref dY, .int (nI x), .int (nI cg), .ref dG])) := by rw [ef98, va_up_self]
          refine lv_aload_n hx hb dX5_asked_23 rfl (lv_at hl9 0 rfl) ?_
          refine hp_get B0 hw 5 rfl in_X5 h99 0 (by decide) qF_X5_77 rfl dX5_asked_24 ?_
          refine lv_if_le (tgt := 34) hx hb dX5_asked_27 (by decide) (fun _ => ?_) (fun c9 => absurd (by decide) c9)
          obtain ⟨ko, hko, eo9⟩ := vp_in_of (vin6 b97) (by decide)
          subst eo9
          refine lv_aload_n hx hb dX5_asked_34 rfl (lv_at hl9 0 rfl) ?_
          refine hp_get B0 hw 5 rfl in_X5 h99 3 (by decide) qF_X5_16 rfl dX5_asked_35 ?_
          refine lv_bipush (v := 6) hx hb dX5_asked_38 (by decide) ?_
          refine lv_iload_n hx hb dX5_asked_40 rfl (lv_at hl9 1 rfl) ?_
          refine lv_imul hx hb dX5_asked_41 ?_
          refine hp_c (v := 6) (by decide) ?_
          refine lv_iload_n hx hb dX5_asked_42 rfl (lv_at hl9 2 rfl) ?_
          refine lv_iadd hx hb dX5_asked_43 ?_
          refine hp_c (v := (nI (6 + ko))) (nI_add 6 ko) ?_
          have n101 : dQ ≠ mo := hne k_dQ k_mo (Nat.ne_of_beq_eq_false rfl)
          have h100 : f98 dQ = some (.inl (cI G, 12, .inl gQ)) := by rw [ef98, va_up_ne _ _ n101]; exact k_dQ
          refine hp_iald B0 hw h100 (vp_in_nI (show 6 + ko < 12 by omega) (by decide)) dX5_asked_44 ?_
          have n103 : dS ≠ mo := hne k_dS k_mo (Nat.ne_of_beq_eq_false rfl)
          have h102 : f98 dS = some (.inl (cI G, 2, .inl gS)) := by rw [ef98, va_up_ne _ _ n103]; exact k_dS
          have n105 : dL ≠ mo := hne k_dL k_mo (Nat.ne_of_beq_eq_false rfl)
          have h104 : f98 dL = some (.inl (cI G, 2, .inl gL)) := by rw [ef98, va_up_ne _ _ n105]; exact k_dL
          have n107 : dR ≠ mo := hne k_dR k_mo (Nat.ne_of_beq_eq_false rfl)
          have h106 : f98 dR = some (.inl (cI G, 2, .inl gR)) := by rw [ef98, va_up_ne _ _ n107]; exact k_dR
          have n109 : dT ≠ mo := hne k_dT k_mo (Nat.ne_of_beq_eq_false rfl)
          have h108 : f98 dT = some (.inl (cI G, 2, .inl gT)) := by rw [ef98, va_up_ne _ _ n109]; exact k_dT
          have n111 : dZ ≠ mo := hne k_dZ k_mo (Nat.ne_of_beq_eq_false rfl)
          have h110 : f98 dZ = some (.inl (cZ G, 2, .inl gZ)) := by rw [ef98, va_up_ne _ _ n111]; exact k_dZ
          have n113 : dI ≠ mo := hne k_dI k_mo (Nat.ne_of_beq_eq_false rfl)
          have h112 : f98 dI = some (.inl (cI G, 2, .inl gI)) := by rw [ef98, va_up_ne _ _ n113]; exact k_dI
          have n115 : dH ≠ mo := hne k_dH k_mo (Nat.ne_of_beq_eq_false rfl)
          have h114 : f98 dH = some (.inl (cI G, 2, .inl gH)) := by rw [ef98, va_up_ne _ _ n115]; exact k_dH
          have n117 : dN ≠ mo := hne k_dN k_mo (Nat.ne_of_beq_eq_false rfl)
          have h116 : f98 dN = some (.inl (cI G, 2, .inl gN)) := by rw [ef98, va_up_ne _ _ n117]; exact k_dN
          have n119 : dK ≠ mo := hne k_dK k_mo (Nat.ne_of_beq_eq_false rfl)
          have h118 : f98 dK = some (.inl (cI G, 2048, .inl gK)) := by rw [ef98, va_up_ne _ _ n119]; exact k_dK
          have n121 : dJ ≠ mo := hne k_dJ k_mo (Nat.ne_of_beq_eq_false rfl)
          have h120 : f98 dJ = some (.inl (cI G, 2048, .inl gJ)) := by rw [ef98, va_up_ne _ _ n121]; exact k_dJ
          have n123 : dU ≠ mo := hne k_dU k_mo (Nat.ne_of_beq_eq_false rfl)
          have h122 : f98 dU = some (.inl (cI G, 2048, .inl gU)) := by rw [ef98, va_up_ne _ _ n123]; exact k_dU
          have n125 : dO ≠ mo := hne k_dO k_mo (Nat.ne_of_beq_eq_false rfl)
          have h124 : f98 dO = some (.inl (cI G, 2048, .inl gO)) := by rw [ef98, va_up_ne _ _ n125]; exact k_dO
          have n127 : dW ≠ mo := hne k_dW k_mo (Nat.ne_of_beq_eq_false rfl)
          have h126 : f98 dW = some (.inl (cI G, 12, .inl (jn gw0 gw1))) := by rw [ef98, va_up_ne _ _ n127]; exact k_dW
          have n129 : dA ≠ mo := hne k_dA k_mo (Nat.ne_of_beq_eq_false rfl)
          have h128 : f98 dA = some (.inl (cI G, 12, .inl (jn ga0 ga1))) := by rw [ef98, va_up_ne _ _ n129]; exact k_dA
          have n131 : dM ≠ mo := hne k_dM k_mo (Nat.ne_of_beq_eq_false rfl)
          have h130 : f98 dM = some (.inl (cI G, 2, .inl (mA2 mg0 mg1))) := by rw [ef98, va_up_ne _ _ n131]; exact k_dM
          have n133 : dF ≠ mo := hne k_dF k_mo (Nat.ne_of_beq_eq_false rfl)
          have h132 : f98 dF = some (.inl (cI G, 61, .inl (nf sa))) := by rw [ef98, va_up_ne _ _ n133]; exact k_dF
          have n135 : dP ≠ mo := hne k_dP k_mo (Nat.ne_of_beq_eq_false rfl)
          have h134 : f98 dP = some (.inl (cI G, 240, .inl (nf pk))) := by rw [ef98, va_up_ne _ _ n135]; exact k_dP
          have n137 : dE ≠ mo := hne k_dE k_mo (Nat.ne_of_beq_eq_false rfl)
          have h136 : f98 dE = some (.inl (cZ G, 240, .inl gh)) := by rw [ef98, va_up_ne _ _ n137]; exact k_dE
          have n139 : dX ≠ mo := hne k_dX k_mo (Nat.ne_of_beq_eq_false rfl)
          have h138 : f98 dX = some (.inl (cI G, 3, .inl (nf fl))) := by rw [ef98, va_up_ne _ _ n139]; exact k_dX
          have n141 : dY ≠ mo := hne k_dY k_mo (Nat.ne_of_beq_eq_false rfl)
          have h140 : f98 dY = some (.inl (cI G, 3, .inl gl)) := by rw [ef98, va_up_ne _ _ n141]; exact k_dY
          have n143 : dG ≠ mo := hne k_dG k_mo (Nat.ne_of_beq_eq_false rfl)
          have h142 : f98 dG = some (.inl (cI G, 60, .inl (nf gv))) := by rw [ef98, va_up_ne _ _ n143]; exact k_dG
          exact hp_iret (v := (gQ ((nI (6 + ko)) : Int32).toNatClampNeg)) B0 hw hS hr ⟨Nat.le_of_ble_eq_true rfl, Nat.le_of_ble_eq_true rfl⟩ dX5_asked_45 (⟨⟨_, rfl⟩, ⟨_, ⟨h99, hND, ⟨_, _, _, _, _, _, _, _, _, _, _, _, _, h100, h102, h104, h106, h108, h110, h112, h114, h116, h118, h120, h122, h124, hHd9, (hMn.mono hMn9 (by omega))⟩, h126, h128, h130, h132, h134, h136, h138, h140, h142, hSA, hB9, hfl9⟩⟩, (show hEq [mo, dW, dA, dQ, dM, dS, dL, dR, dT, dZ, dI, dH, dN, dK, dJ, dU, dO, dF, dP, dE, dX, dY, dG] f f98 from (by rw [ef98]; exact hEq.up List.mem_cons_self))⟩)
        · subst ev9
          refine W.eq (g2 := F0 m 12 ls [.int 0, .ref mo]) rfl ?_
          refine lv_if_eq (tgt := 19) hx hb dX5_asked_12 (by decide) (fun _ => ?_) (fun c9 => absurd (by decide) c9)
          refine lv_iconst (v := 1) hx hb dX5_asked_19 (by decide) ?_
          refine hp_put (fs1 := [.int 1, .ref dW, .ref dA, .ref dQ, .ref dM, .ref dS, .ref dL, .ref dR, .ref dT, .ref dZ, .ref dI, .ref dH, .ref dN, .ref dK, .ref dJ, .ref dU, .ref dO, .int (nI n), .int (nI a), .ref dF, .ref dP, .ref dE, .ref dX, .ref dY, .int (nI x), .int (nI cg), .ref dG]) (ty := .int) B0 hw hS 5 rfl in_X5 tyX5 tyX5_ok nmX5 k_mo 0 (by decide) qF_X5_77 rfl (by decide +kernel) rfl rfl (Nat.le_of_ble_eq_true rfl) rfl dX5_asked_20 (fun H locs f144 ef144 hw hS => ?_)
          have h145 : f144 mo = some (.inr (5, [.int 1, .ref dW, .ref dA, .ref dQ, .ref dM, .ref dS, .ref dL, .ref dR, .ref dT, .ref dZ, .ref dI, .ref dH, .ref dN, .ref dK, .ref dJ, .ref dU, .ref dO, .int (nI n), .int (nI a), .ref dF, .ref dP, .ref dE, .ref dX, .ref dY, .int (nI x), .int (nI cg), .ref dG])) := by rw [ef144, va_up_self]
          refine lv_aload_n hx hb dX5_asked_23 rfl (lv_at hl9 0 rfl) ?_
          refine hp_get B0 hw 5 rfl in_X5 h145 0 (by decide) qF_X5_77 rfl dX5_asked_24 ?_
          refine lv_if_le (tgt := 34) hx hb dX5_asked_27 (by decide) (fun c9 => absurd c9 (by decide)) (fun _ => ?_)
          refine lv_iconst (v := 0) hx hb dX5_asked_30 (by decide) ?_
          refine lv_goto (tgt := 45) hx hb dX5_asked_31 (by decide) ?_
          have n147 : dQ ≠ mo := hne k_dQ k_mo (Nat.ne_of_beq_eq_false rfl)
          have h146 : f144 dQ = some (.inl (cI G, 12, .inl gQ)) := by rw [ef144, va_up_ne _ _ n147]; exact k_dQ
          have n149 : dS ≠ mo := hne k_dS k_mo (Nat.ne_of_beq_eq_false rfl)
          have h148 : f144 dS = some (.inl (cI G, 2, .inl gS)) := by rw [ef144, va_up_ne _ _ n149]; exact k_dS
          have n151 : dL ≠ mo := hne k_dL k_mo (Nat.ne_of_beq_eq_false rfl)
          have h150 : f144 dL = some (.inl (cI G, 2, .inl gL)) := by rw [ef144, va_up_ne _ _ n151]; exact k_dL
          have n153 : dR ≠ mo := hne k_dR k_mo (Nat.ne_of_beq_eq_false rfl)
          have h152 : f144 dR = some (.inl (cI G, 2, .inl gR)) := by rw [ef144, va_up_ne _ _ n153]; exact k_dR
          have n155 : dT ≠ mo := hne k_dT k_mo (Nat.ne_of_beq_eq_false rfl)
          have h154 : f144 dT = some (.inl (cI G, 2, .inl gT)) := by rw [ef144, va_up_ne _ _ n155]; exact k_dT
          have n157 : dZ ≠ mo := hne k_dZ k_mo (Nat.ne_of_beq_eq_false rfl)
          have h156 : f144 dZ = some (.inl (cZ G, 2, .inl gZ)) := by rw [ef144, va_up_ne _ _ n157]; exact k_dZ
          have n159 : dI ≠ mo := hne k_dI k_mo (Nat.ne_of_beq_eq_false rfl)
          have h158 : f144 dI = some (.inl (cI G, 2, .inl gI)) := by rw [ef144, va_up_ne _ _ n159]; exact k_dI
          have n161 : dH ≠ mo := hne k_dH k_mo (Nat.ne_of_beq_eq_false rfl)
          have h160 : f144 dH = some (.inl (cI G, 2, .inl gH)) := by rw [ef144, va_up_ne _ _ n161]; exact k_dH
          have n163 : dN ≠ mo := hne k_dN k_mo (Nat.ne_of_beq_eq_false rfl)
          have h162 : f144 dN = some (.inl (cI G, 2, .inl gN)) := by rw [ef144, va_up_ne _ _ n163]; exact k_dN
          have n165 : dK ≠ mo := hne k_dK k_mo (Nat.ne_of_beq_eq_false rfl)
          have h164 : f144 dK = some (.inl (cI G, 2048, .inl gK)) := by rw [ef144, va_up_ne _ _ n165]; exact k_dK
          have n167 : dJ ≠ mo := hne k_dJ k_mo (Nat.ne_of_beq_eq_false rfl)
          have h166 : f144 dJ = some (.inl (cI G, 2048, .inl gJ)) := by rw [ef144, va_up_ne _ _ n167]; exact k_dJ
          have n169 : dU ≠ mo := hne k_dU k_mo (Nat.ne_of_beq_eq_false rfl)
          have h168 : f144 dU = some (.inl (cI G, 2048, .inl gU)) := by rw [ef144, va_up_ne _ _ n169]; exact k_dU
          have n171 : dO ≠ mo := hne k_dO k_mo (Nat.ne_of_beq_eq_false rfl)
          have h170 : f144 dO = some (.inl (cI G, 2048, .inl gO)) := by rw [ef144, va_up_ne _ _ n171]; exact k_dO
          have n173 : dW ≠ mo := hne k_dW k_mo (Nat.ne_of_beq_eq_false rfl)
          have h172 : f144 dW = some (.inl (cI G, 12, .inl (jn gw0 gw1))) := by rw [ef144, va_up_ne _ _ n173]; exact k_dW
          have n175 : dA ≠ mo := hne k_dA k_mo (Nat.ne_of_beq_eq_false rfl)
          have h174 : f144 dA = some (.inl (cI G, 12, .inl (jn ga0 ga1))) := by rw [ef144, va_up_ne _ _ n175]; exact k_dA
          have n177 : dM ≠ mo := hne k_dM k_mo (Nat.ne_of_beq_eq_false rfl)
          have h176 : f144 dM = some (.inl (cI G, 2, .inl (mA2 mg0 mg1))) := by rw [ef144, va_up_ne _ _ n177]; exact k_dM
          have n179 : dF ≠ mo := hne k_dF k_mo (Nat.ne_of_beq_eq_false rfl)
          have h178 : f144 dF = some (.inl (cI G, 61, .inl (nf sa))) := by rw [ef144, va_up_ne _ _ n179]; exact k_dF
          have n181 : dP ≠ mo := hne k_dP k_mo (Nat.ne_of_beq_eq_false rfl)
          have h180 : f144 dP = some (.inl (cI G, 240, .inl (nf pk))) := by rw [ef144, va_up_ne _ _ n181]; exact k_dP
          have n183 : dE ≠ mo := hne k_dE k_mo (Nat.ne_of_beq_eq_false rfl)
          have h182 : f144 dE = some (.inl (cZ G, 240, .inl gh)) := by rw [ef144, va_up_ne _ _ n183]; exact k_dE
          have n185 : dX ≠ mo := hne k_dX k_mo (Nat.ne_of_beq_eq_false rfl)
          have h184 : f144 dX = some (.inl (cI G, 3, .inl (nf fl))) := by rw [ef144, va_up_ne _ _ n185]; exact k_dX
          have n187 : dY ≠ mo := hne k_dY k_mo (Nat.ne_of_beq_eq_false rfl)
          have h186 : f144 dY = some (.inl (cI G, 3, .inl gl)) := by rw [ef144, va_up_ne _ _ n187]; exact k_dY
          have n189 : dG ≠ mo := hne k_dG k_mo (Nat.ne_of_beq_eq_false rfl)
          have h188 : f144 dG = some (.inl (cI G, 60, .inl (nf gv))) := by rw [ef144, va_up_ne _ _ n189]; exact k_dG
          exact hp_iret (v := 0) B0 hw hS hr ⟨Nat.le_of_ble_eq_true rfl, Nat.le_of_ble_eq_true rfl⟩ dX5_asked_45 (⟨⟨_, rfl⟩, ⟨_, ⟨h145, hND, ⟨_, _, _, _, _, _, _, _, _, _, _, _, _, h146, h148, h150, h152, h154, h156, h158, h160, h162, h164, h166, h168, h170, hHd9, (hMn.mono hMn9 (by omega))⟩, h172, h174, h176, h178, h180, h182, h184, h186, h188, hSA, hB9, hfl9⟩⟩, (show hEq [mo, dW, dA, dQ, dM, dS, dL, dR, dT, dZ, dI, dH, dN, dK, dJ, dU, dO, dF, dP, dE, dX, dY, dG] f f144 from (by rw [ef144]; exact hEq.up List.mem_cons_self))⟩)
    · subst ev9
      refine W.eq (g2 := F0 m 5 ls [.int 0, .ref mo]) rfl ?_
      refine lv_if_eq (tgt := 19) hx hb dX5_asked_5 (by decide) (fun _ => ?_) (fun c9 => absurd (by decide) c9)
      refine lv_iconst (v := 1) hx hb dX5_asked_19 (by decide) ?_
      refine hp_put (fs1 := [.int 1, .ref dW, .ref dA, .ref dQ, .ref dM, .ref dS, .ref dL, .ref dR, .ref dT, .ref dZ, .ref dI, .ref dH, .ref dN, .ref dK, .ref dJ, .ref dU, .ref dO, .int (nI n), .int (nI a), .ref dF, .ref dP, .ref dE, .ref dX, .ref dY, .int (nI x), .int (nI cg), .ref dG]) (ty := .int) B0 hw hS 5 rfl in_X5 tyX5 tyX5_ok nmX5 k_mo 0 (by decide) qF_X5_77 rfl (by decide +kernel) rfl rfl (Nat.le_of_ble_eq_true rfl) rfl dX5_asked_20 (fun H locs f190 ef190 hw hS => ?_)
      have h191 : f190 mo = some (.inr (5, [.int 1, .ref dW, .ref dA, .ref dQ, .ref dM, .ref dS, .ref dL, .ref dR, .ref dT, .ref dZ, .ref dI, .ref dH, .ref dN, .ref dK, .ref dJ, .ref dU, .ref dO, .int (nI n), .int (nI a), .ref dF, .ref dP, .ref dE, .ref dX, .ref dY, .int (nI x), .int (nI cg), .ref dG])) := by rw [ef190, va_up_self]
      refine lv_aload_n hx hb dX5_asked_23 rfl (lv_at hl9 0 rfl) ?_
      refine hp_get B0 hw 5 rfl in_X5 h191 0 (by decide) qF_X5_77 rfl dX5_asked_24 ?_
      refine lv_if_le (tgt := 34) hx hb dX5_asked_27 (by decide) (fun c9 => absurd c9 (by decide)) (fun _ => ?_)
      refine lv_iconst (v := 0) hx hb dX5_asked_30 (by decide) ?_
      refine lv_goto (tgt := 45) hx hb dX5_asked_31 (by decide) ?_
      have n193 : dQ ≠ mo := hne k_dQ k_mo (Nat.ne_of_beq_eq_false rfl)
      have h192 : f190 dQ = some (.inl (cI G, 12, .inl gQ)) := by rw [ef190, va_up_ne _ _ n193]; exact k_dQ
      have n195 : dS ≠ mo := hne k_dS k_mo (Nat.ne_of_beq_eq_false rfl)
      have h194 : f190 dS = some (.inl (cI G, 2, .inl gS)) := by rw [ef190, va_up_ne _ _ n195]; exact k_dS
      have n197 : dL ≠ mo := hne k_dL k_mo (Nat.ne_of_beq_eq_false rfl)
      have h196 : f190 dL = some (.inl (cI G, 2, .inl gL)) := by rw [ef190, va_up_ne _ _ n197]; exact k_dL
      have n199 : dR ≠ mo := hne k_dR k_mo (Nat.ne_of_beq_eq_false rfl)
      have h198 : f190 dR = some (.inl (cI G, 2, .inl gR)) := by rw [ef190, va_up_ne _ _ n199]; exact k_dR
      have n201 : dT ≠ mo := hne k_dT k_mo (Nat.ne_of_beq_eq_false rfl)
      have h200 : f190 dT = some (.inl (cI G, 2, .inl gT)) := by rw [ef190, va_up_ne _ _ n201]; exact k_dT
      have n203 : dZ ≠ mo := hne k_dZ k_mo (Nat.ne_of_beq_eq_false rfl)
      have h202 : f190 dZ = some (.inl (cZ G, 2, .inl gZ)) := by rw [ef190, va_up_ne _ _ n203]; exact k_dZ
      have n205 : dI ≠ mo := hne k_dI k_mo (Nat.ne_of_beq_eq_false rfl)
      have h204 : f190 dI = some (.inl (cI G, 2, .inl gI)) := by rw [ef190, va_up_ne _ _ n205]; exact k_dI
      have n207 : dH ≠ mo := hne k_dH k_mo (Nat.ne_of_beq_eq_false rfl)
      have h206 : f190 dH = some (.inl (cI G, 2, .inl gH)) := by rw [ef190, va_up_ne _ _ n207]; exact k_dH
      have n209 : dN ≠ mo := hne k_dN k_mo (Nat.ne_of_beq_eq_false rfl)
      have h208 : f190 dN = some (.inl (cI G, 2, .inl gN)) := by rw [ef190, va_up_ne _ _ n209]; exact k_dN
      have n211 : dK ≠ mo := hne k_dK k_mo (Nat.ne_of_beq_eq_false rfl)
      have h210 : f190 dK = some (.inl (cI G, 2048, .inl gK)) := by rw [ef190, va_up_ne _ _ n211]; exact k_dK
      have n213 : dJ ≠ mo := hne k_dJ k_mo (Nat.ne_of_beq_eq_false rfl)
      have h212 : f190 dJ = some (.inl (cI G, 2048, .inl gJ)) := by rw [ef190, va_up_ne _ _ n213]; exact k_dJ
      have n215 : dU ≠ mo := hne k_dU k_mo (Nat.ne_of_beq_eq_false rfl)
      have h214 : f190 dU = some (.inl (cI G, 2048, .inl gU)) := by rw [ef190, va_up_ne _ _ n215]; exact k_dU
      have n217 : dO ≠ mo := hne k_dO k_mo (Nat.ne_of_beq_eq_false rfl)
      have h216 : f190 dO = some (.inl (cI G, 2048, .inl gO)) := by rw [ef190, va_up_ne _ _ n217]; exact k_dO
      have n219 : dW ≠ mo := hne k_dW k_mo (Nat.ne_of_beq_eq_false rfl)
      have h218 : f190 dW = some (.inl (cI G, 12, .inl (jn gw0 gw1))) := by rw [ef190, va_up_ne _ _ n219]; exact k_dW
      have n221 : dA ≠ mo := hne k_dA k_mo (Nat.ne_of_beq_eq_false rfl)
      have h220 : f190 dA = some (.inl (cI G, 12, .inl (jn ga0 ga1))) := by rw [ef190, va_up_ne _ _ n221]; exact k_dA
      have n223 : dM ≠ mo := hne k_dM k_mo (Nat.ne_of_beq_eq_false rfl)
      have h222 : f190 dM = some (.inl (cI G, 2, .inl (mA2 mg0 mg1))) := by rw [ef190, va_up_ne _ _ n223]; exact k_dM
      have n225 : dF ≠ mo := hne k_dF k_mo (Nat.ne_of_beq_eq_false rfl)
      have h224 : f190 dF = some (.inl (cI G, 61, .inl (nf sa))) := by rw [ef190, va_up_ne _ _ n225]; exact k_dF
      have n227 : dP ≠ mo := hne k_dP k_mo (Nat.ne_of_beq_eq_false rfl)
      have h226 : f190 dP = some (.inl (cI G, 240, .inl (nf pk))) := by rw [ef190, va_up_ne _ _ n227]; exact k_dP
      have n229 : dE ≠ mo := hne k_dE k_mo (Nat.ne_of_beq_eq_false rfl)
      have h228 : f190 dE = some (.inl (cZ G, 240, .inl gh)) := by rw [ef190, va_up_ne _ _ n229]; exact k_dE
      have n231 : dX ≠ mo := hne k_dX k_mo (Nat.ne_of_beq_eq_false rfl)
      have h230 : f190 dX = some (.inl (cI G, 3, .inl (nf fl))) := by rw [ef190, va_up_ne _ _ n231]; exact k_dX
      have n233 : dY ≠ mo := hne k_dY k_mo (Nat.ne_of_beq_eq_false rfl)
      have h232 : f190 dY = some (.inl (cI G, 3, .inl gl)) := by rw [ef190, va_up_ne _ _ n233]; exact k_dY
      have n235 : dG ≠ mo := hne k_dG k_mo (Nat.ne_of_beq_eq_false rfl)
      have h234 : f190 dG = some (.inl (cI G, 60, .inl (nf gv))) := by rw [ef190, va_up_ne _ _ n235]; exact k_dG
      exact hp_iret (v := 0) B0 hw hS hr ⟨Nat.le_of_ble_eq_true rfl, Nat.le_of_ble_eq_true rfl⟩ dX5_asked_45 (⟨⟨_, rfl⟩, ⟨_, ⟨h191, hND, ⟨_, _, _, _, _, _, _, _, _, _, _, _, _, h192, h194, h196, h198, h200, h202, h204, h206, h208, h210, h212, h214, h216, hHd9, (hMn.mono hMn9 (by omega))⟩, h218, h220, h222, h224, h226, h228, h230, h232, h234, hSA, hB9, hfl9⟩⟩, (show hEq [mo, dW, dA, dQ, dM, dS, dL, dR, dT, dZ, dI, dH, dN, dK, dJ, dU, dO, dF, dP, dE, dX, dY, dG] f f190 from (by rw [ef190]; exact hEq.up List.mem_cons_self))⟩)

set_option maxHeartbeats 4000000 in
set_option maxRecDepth 100000 in
theorem c_W5_open {l : Launch} (hl : l.stackTraces = false) (G : hG) (f : hM) (mo dW dA dQ dM dS dL dR dT dZ dI dH dN dK dJ dU dO dF dP dE dX dY dG : Nat) (th : Int32) (B : Nat) (gw0 : Nat → Int32) (ga0 : Nat → Int32) (gw1 : Nat → Int32) (ga1 : Nat → Int32) (mg0 : Int32) (mg1 : Int32) (n : Nat) (a : Nat) (cg : Nat) (x : Nat) (sa : Nat → Nat) (pk : Nat → Nat) (fl : Nat → Nat) (gv : Nat → Nat) (gh : Nat → Int32) (gl : Nat → Int32) (hC : MW G f mo dW dA dQ dM dS dL dR dT dZ dI dH dN dK dJ dU dO dF dP dE dX dY dG th B gw0 ga0 gw1 ga1 mg0 mg1 n a cg x sa pk fl gv gh gl) (hBB : B + 100 < 100000) (i : Int32) : CT l yX5_open (.code yX5_open cX5_open 3 (some .int)) 2 48 0 0 G [.ref mo, .int i] f (fun v f1 => (∃ r9 : Int32, v = some (.int r9)) ∧ (∃ t9 : Int32, MW G f1 mo dW dA dQ dM dS dL dR dT dZ dI dH dN dK dJ dU dO dF dP dE dX dY dG t9 (B + 100) gw0 ga0 gw1 ga1 mg0 mg1 n a cg x sa pk fl gv gh gl) ∧ hEq [mo, dW, dA, dQ, dM, dS, dL, dR, dT, dZ, dI, dH, dN, dK, dJ, dU, dO, dF, dP, dE, dX, dY, dG] f f1) (fun E f1 => False) := by
  refine hp_start hl (own := RX5) (by decide) rfl (Nat.le_of_ble_eq_true rfl) ?_
  intro p e s m args below meth c B0 hr hnm hout hw hS ls hl9
  have hx := B0.1
  have hb := B0.2.1
  have hl9 : lv_has ls 3 [(0, .ref mo), (1, .int i)] := hl9
  obtain ⟨k_mo, hND, hLM, k_dW, k_dA, k_dM, k_dF, k_dP, k_dE, k_dX, k_dY, k_dG, hSA, hB9, hfl9⟩ := id hC
  obtain ⟨nd_dW_dA, nd_dW_dQ, nd_dA_dQ, nd_dM_dS, nd_dM_dL, nd_dM_dR, nd_dM_dT, nd_dM_dZ, nd_dM_dI, nd_dM_dH, nd_dM_dN, nd_dS_dL, nd_dS_dR, nd_dS_dT, nd_dS_dZ, nd_dS_dI, nd_dS_dH, nd_dS_dN, nd_dL_dR, nd_dL_dT, nd_dL_dZ, nd_dL_dI, nd_dL_dH, nd_dL_dN, nd_dR_dT, nd_dR_dZ, nd_dR_dI, nd_dR_dH, nd_dR_dN, nd_dT_dZ, nd_dT_dI, nd_dT_dH, nd_dT_dN, nd_dZ_dI, nd_dZ_dH, nd_dZ_dN, nd_dI_dH, nd_dI_dN, nd_dH_dN, nd_dK_dJ, nd_dK_dU, nd_dK_dO, nd_dJ_dU, nd_dJ_dO, nd_dU_dO, nd_dP_dE, nd_dX_dY⟩ := id hND
  obtain ⟨gQ, gS, gL, gR, gT, gZ, gI, gH, gN, gK, gJ, gU, gO, k_dQ, k_dS, k_dL, k_dR, k_dT, k_dZ, k_dI, k_dH, k_dN, k_dK, k_dJ, k_dU, k_dO, hHd9, hMn9⟩ := id hLM
  refine lv_aload_n hx hb dX5_open_0 rfl (lv_at hl9 0 rfl) ?_
  refine lv_iload_n hx hb dX5_open_1 rfl (lv_at hl9 1 rfl) ?_
  refine hp_S (As := [.int i]) (rest := [.ref mo]) B0 hw hS (c_X5_isEnd hl G f i) mS_X5_isEnd qM_X5_85 rfl rfl hl9.1 (Nat.le_of_ble_eq_true rfl) ⟨⟨Nat.le_of_ble_eq_true rfl, Nat.le_of_ble_eq_true rfl⟩, Nat.le_of_ble_eq_true rfl, Nat.le_of_ble_eq_true rfl⟩ dX5_open_2 (fun E ce q9 f1 H locs hPX hw hS hce hcv hcl => ?_) (fun v f1 H locs hP hw hS => ?_)
  · exact hPX.elim
  · obtain ⟨ef9, hv9⟩ := hP
    rw [ef9] at hw
    rcases hv9 with ⟨b9 | b9, ev9⟩ | ⟨hnE, ev9⟩
    · subst ev9
      subst b9
      refine W.eq (g2 := F0 m 5 ls [.int 1, .ref mo]) rfl ?_
      refine lv_if_ne (tgt := 12) hx hb dX5_open_5 (by decide) (fun _ => ?_) (fun c9 => absurd c9 (by decide))
      refine lv_aload_n hx hb dX5_open_12 rfl (lv_at hl9 0 rfl) ?_
      refine hp_get B0 hw 5 rfl in_X5 k_mo 5 (by decide) qF_X5_22 rfl dX5_open_13 ?_
      refine lv_iload_n hx hb dX5_open_16 rfl (lv_at hl9 1 rfl) ?_
      refine hp_iald B0 hw k_dS (by unfold vp_in; decide) dX5_open_17 ?_
      refine lv_if_eq (tgt := 25) hx hb dX5_open_18 (by decide) (fun c2 => ?_) (fun c2 => ?_)
      · refine lv_iconst (v := 0) hx hb dX5_open_25 (by decide) ?_
        refine hp_put (fs1 := [.int 0, .ref dW, .ref dA, .ref dQ, .ref dM, .ref dS, .ref dL, .ref dR, .ref dT, .ref dZ, .ref dI, .ref dH, .ref dN, .ref dK, .ref dJ, .ref dU, .ref dO, .int (nI n), .int (nI a), .ref dF, .ref dP, .ref dE, .ref dX, .ref dY, .int (nI x), .int (nI cg), .ref dG]) (ty := .int) B0 hw hS 5 rfl in_X5 tyX5 tyX5_ok nmX5 k_mo 0 (by decide) qF_X5_77 rfl (by decide +kernel) rfl rfl (Nat.le_of_ble_eq_true rfl) rfl dX5_open_26 (fun H locs f3 ef3 hw hS => ?_)
        have h4 : f3 mo = some (.inr (5, [.int 0, .ref dW, .ref dA, .ref dQ, .ref dM, .ref dS, .ref dL, .ref dR, .ref dT, .ref dZ, .ref dI, .ref dH, .ref dN, .ref dK, .ref dJ, .ref dU, .ref dO, .int (nI n), .int (nI a), .ref dF, .ref dP, .ref dE, .ref dX, .ref dY, .int (nI x), .int (nI cg), .ref dG])) := by rw [ef3, va_up_self]
        refine lv_aload_n hx hb dX5_open_29 rfl (lv_at hl9 0 rfl) ?_
        refine hp_get B0 hw 5 rfl in_X5 h4 0 (by decide) qF_X5_77 rfl dX5_open_30 ?_
        refine lv_if_le (tgt := 38) hx hb dX5_open_33 (by decide) (fun _ => ?_) (fun c9 => absurd (by decide) c9)
        refine lv_bipush (v := 6) hx hb dX5_open_38 (by decide) ?_
        refine lv_iload_n hx hb dX5_open_40 rfl (lv_at hl9 1 rfl) ?_
        refine lv_imul hx hb dX5_open_41 ?_
        refine hp_c (v := 0) (by decide) ?_
        refine lv_istore_n (lv' := [(2, .int 0), (0, .ref mo), (1, .int 0)]) hx hb dX5_open_42 rfl hl9 (by decide) rfl (fun ls hl9 => ?_)
        refine lv_iload_n hx hb dX5_open_43 rfl (lv_at hl9 0 rfl) ?_
        refine lv_bipush (v := 6) hx hb dX5_open_44 (by decide) ?_
        refine lv_iload_n hx hb dX5_open_46 rfl (lv_at hl9 2 rfl) ?_
        refine lv_imul hx hb dX5_open_47 ?_
        refine hp_c (v := 0) (by decide) ?_
        refine lv_bipush (v := 6) hx hb dX5_open_48 (by decide) ?_
        refine lv_iadd hx hb dX5_open_50 ?_
        refine hp_c (v := 6) (by decide) ?_
        refine lv_icmp_ge (tgt := 72) hx hb dX5_open_51 (by decide) (fun c9 => absurd c9 (by decide)) (fun _ => ?_)
        refine lv_aload_n hx hb dX5_open_54 rfl (lv_at hl9 1 rfl) ?_
        refine hp_get B0 hw 5 rfl in_X5 h4 3 (by decide) qF_X5_16 rfl dX5_open_55 ?_
        refine lv_iload_n hx hb dX5_open_58 rfl (lv_at hl9 0 rfl) ?_
        refine lv_aload_n hx hb dX5_open_59 rfl (lv_at hl9 1 rfl) ?_
        refine hp_get B0 hw 5 rfl in_X5 h4 1 (by decide) qF_X5_9 rfl dX5_open_60 ?_
        refine lv_iload_n hx hb dX5_open_63 rfl (lv_at hl9 0 rfl) ?_
        have n6 : dW ≠ mo := hne k_dW k_mo (Nat.ne_of_beq_eq_false rfl)
        have h5 : f3 dW = some (.inl (cI G, 12, .inl (jn gw0 gw1))) := by rw [ef3, va_up_ne _ _ n6]; exact k_dW
        refine hp_iald B0 hw h5 (by unfold vp_in; decide) dX5_open_64 ?_
        have n8 : dQ ≠ mo := hne k_dQ k_mo (Nat.ne_of_beq_eq_false rfl)
        have h7 : f3 dQ = some (.inl (cI G, 12, .inl gQ)) := by rw [ef3, va_up_ne _ _ n8]; exact k_dQ
        refine hp_iast B0 hw hS h7 (by unfold vp_in; decide) dX5_open_65 (fun H locs f9 ef9 hw hS => ?_)
        have h10 : f9 dQ = some (.inl (cI G, 12, .inl (upd gQ (0 : Int32).toNatClampNeg ((jn gw0 gw1) (0 : Int32).toNatClampNeg)))) := by rw [ef9, va_up_self]
        refine lv_iinc (v := 1) (lv' := [(2, .int 1), (0, .ref mo), (1, .int 0)]) hx hb dX5_open_66 hl9 (k := 0) rfl (by decide) (by decide) rfl (fun ls hl9 => ?_)
        refine lv_goto (tgt := 43) hx hb dX5_open_69 (by decide) ?_
        refine lv_iload_n hx hb dX5_open_43 rfl (lv_at hl9 0 rfl) ?_
        refine lv_bipush (v := 6) hx hb dX5_open_44 (by decide) ?_
        refine lv_iload_n hx hb dX5_open_46 rfl (lv_at hl9 2 rfl) ?_
        refine lv_imul hx hb dX5_open_47 ?_
        refine hp_c (v := 0) (by decide) ?_
        refine lv_bipush (v := 6) hx hb dX5_open_48 (by decide) ?_
        refine lv_iadd hx hb dX5_open_50 ?_
        refine hp_c (v := 6) (by decide) ?_
        refine lv_icmp_ge (tgt := 72) hx hb dX5_open_51 (by decide) (fun c9 => absurd c9 (by decide)) (fun _ => ?_)
        refine lv_aload_n hx hb dX5_open_54 rfl (lv_at hl9 1 rfl) ?_
        have h11 : f9 mo = some (.inr (5, [.int 0, .ref dW, .ref dA, .ref dQ, .ref dM, .ref dS, .ref dL, .ref dR, .ref dT, .ref dZ, .ref dI, .ref dH, .ref dN, .ref dK, .ref dJ, .ref dU, .ref dO, .int (nI n), .int (nI a), .ref dF, .ref dP, .ref dE, .ref dX, .ref dY, .int (nI x), .int (nI cg), .ref dG])) := by rw [ef9, va_up_ne _ _ (Ne.symm n8)]; exact h4
        refine hp_get B0 hw 5 rfl in_X5 h11 3 (by decide) qF_X5_16 rfl dX5_open_55 ?_
        refine lv_iload_n hx hb dX5_open_58 rfl (lv_at hl9 0 rfl) ?_
        refine lv_aload_n hx hb dX5_open_59 rfl (lv_at hl9 1 rfl) ?_
        refine hp_get B0 hw 5 rfl in_X5 h11 1 (by decide) qF_X5_9 rfl dX5_open_60 ?_
        refine lv_iload_n hx hb dX5_open_63 rfl (lv_at hl9 0 rfl) ?_
        have h12 : f9 dW = some (.inl (cI G, 12, .inl (jn gw0 gw1))) := by rw [ef9, va_up_ne _ _ nd_dW_dQ]; exact h5
        refine hp_iald B0 hw h12 (by unfold vp_in; decide) dX5_open_64 ?_
        refine hp_iast B0 hw hS h10 (by unfold vp_in; decide) dX5_open_65 (fun H locs f13 ef13 hw hS => ?_)
        have e14 : f13 = va_up f3 dQ (some (.inl (cI G, 12, .inl (upd (upd gQ (0 : Int32).toNatClampNeg ((jn gw0 gw1) (0 : Int32).toNatClampNeg)) (1 : Int32).toNatClampNeg ((jn gw0 gw1) (1 : Int32).toNatClampNeg))))) := by rw [ef13, ef9, bx_uu]
        have h15 : f13 dQ = some (.inl (cI G, 12, .inl (upd (upd gQ (0 : Int32).toNatClampNeg ((jn gw0 gw1) (0 : Int32).toNatClampNeg)) (1 : Int32).toNatClampNeg ((jn gw0 gw1) (1 : Int32).toNatClampNeg)))) := by rw [ef13, va_up_self]
        refine lv_iinc (v := 2) (lv' := [(2, .int 2), (0, .ref mo), (1, .int 0)]) hx hb dX5_open_66 hl9 (k := 0) rfl (by decide) (by decide) rfl (fun ls hl9 => ?_)
        refine lv_goto (tgt := 43) hx hb dX5_open_69 (by decide) ?_
        refine lv_iload_n hx hb dX5_open_43 rfl (lv_at hl9 0 rfl) ?_
        refine lv_bipush (v := 6) hx hb dX5_open_44 (by decide) ?_
        refine lv_iload_n hx hb dX5_open_46 rfl (lv_at hl9 2 rfl) ?_
        refine lv_imul hx hb dX5_open_47 ?_
        refine hp_c (v := 0) (by decide) ?_
        refine lv_bipush (v := 6) hx hb dX5_open_48 (by decide) ?_
        refine lv_iadd hx hb dX5_open_50 ?_
        refine hp_c (v := 6) (by decide) ?_
        refine lv_icmp_ge (tgt := 72) hx hb dX5_open_51 (by decide) (fun c9 => absurd c9 (by decide)) (fun _ => ?_)
        refine lv_aload_n hx hb dX5_open_54 rfl (lv_at hl9 1 rfl) ?_
        have h16 : f13 mo = some (.inr (5, [.int 0, .ref dW, .ref dA, .ref dQ, .ref dM, .ref dS, .ref dL, .ref dR, .ref dT, .ref dZ, .ref dI, .ref dH, .ref dN, .ref dK, .ref dJ, .ref dU, .ref dO, .int (nI n), .int (nI a), .ref dF, .ref dP, .ref dE, .ref dX, .ref dY, .int (nI x), .int (nI cg), .ref dG])) := by rw [e14, va_up_ne _ _ (Ne.symm n8)]; exact h4
        refine hp_get B0 hw 5 rfl in_X5 h16 3 (by decide) qF_X5_16 rfl dX5_open_55 ?_
        refine lv_iload_n hx hb dX5_open_58 rfl (lv_at hl9 0 rfl) ?_
        refine lv_aload_n hx hb dX5_open_59 rfl (lv_at hl9 1 rfl) ?_
        refine hp_get B0 hw 5 rfl in_X5 h16 1 (by decide) qF_X5_9 rfl dX5_open_60 ?_
        refine lv_iload_n hx hb dX5_open_63 rfl (lv_at hl9 0 rfl) ?_
        have h17 : f13 dW = some (.inl (cI G, 12, .inl (jn gw0 gw1))) := by rw [e14, va_up_ne _ _ nd_dW_dQ]; exact h5
        refine hp_iald B0 hw h17 (by unfold vp_in; decide) dX5_open_64 ?_
        refine hp_iast B0 hw hS h15 (by unfold vp_in; decide) dX5_open_65 (fun H locs f18 ef18 hw hS => ?_)
        have e19 : f18 = va_up f3 dQ (some (.inl (cI G, 12, .inl (upd (upd (upd gQ (0 : Int32).toNatClampNeg ((jn gw0 gw1) (0 : Int32).toNatClampNeg)) (1 : Int32).toNatClampNeg ((jn gw0 gw1) (1 : Int32).toNatClampNeg)) (2 : Int32).toNatClampNeg ((jn gw0 gw1) (2 : Int32).toNatClampNeg))))) := by rw [ef18, e14, bx_uu]
        have h20 : f18 dQ = some (.inl (cI G, 12, .inl (upd (upd (upd gQ (0 : Int32).toNatClampNeg ((jn gw0 gw1) (0 : Int32).toNatClampNeg)) (1 : Int32).toNatClampNeg ((jn gw0 gw1) (1 : Int32).toNatClampNeg)) (2 : Int32).toNatClampNeg ((jn gw0 gw1) (2 : Int32).toNatClampNeg)))) := by rw [ef18, va_up_self]
        refine lv_iinc (v := 3) (lv' := [(2, .int 3), (0, .ref mo), (1, .int 0)]) hx hb dX5_open_66 hl9 (k := 0) rfl (by decide) (by decide) rfl (fun ls hl9 => ?_)
        refine lv_goto (tgt := 43) hx hb dX5_open_69 (by decide) ?_
        refine lv_iload_n hx hb dX5_open_43 rfl (lv_at hl9 0 rfl) ?_
        refine lv_bipush (v := 6) hx hb dX5_open_44 (by decide) ?_
        refine lv_iload_n hx hb dX5_open_46 rfl (lv_at hl9 2 rfl) ?_
        refine lv_imul hx hb dX5_open_47 ?_
        refine hp_c (v := 0) (by decide) ?_
        refine lv_bipush (v := 6) hx hb dX5_open_48 (by decide) ?_
        refine lv_iadd hx hb dX5_open_50 ?_
        refine hp_c (v := 6) (by decide) ?_
        refine lv_icmp_ge (tgt := 72) hx hb dX5_open_51 (by decide) (fun c9 => absurd c9 (by decide)) (fun _ => ?_)
        refine lv_aload_n hx hb dX5_open_54 rfl (lv_at hl9 1 rfl) ?_
        have h21 : f18 mo = some (.inr (5, [.int 0, .ref dW, .ref dA, .ref dQ, .ref dM, .ref dS, .ref dL, .ref dR, .ref dT, .ref dZ, .ref dI, .ref dH, .ref dN, .ref dK, .ref dJ, .ref dU, .ref dO, .int (nI n), .int (nI a), .ref dF, .ref dP, .ref dE, .ref dX, .ref dY, .int (nI x), .int (nI cg), .ref dG])) := by rw [e19, va_up_ne _ _ (Ne.symm n8)]; exact h4
        refine hp_get B0 hw 5 rfl in_X5 h21 3 (by decide) qF_X5_16 rfl dX5_open_55 ?_
        refine lv_iload_n hx hb dX5_open_58 rfl (lv_at hl9 0 rfl) ?_
        refine lv_aload_n hx hb dX5_open_59 rfl (lv_at hl9 1 rfl) ?_
        refine hp_get B0 hw 5 rfl in_X5 h21 1 (by decide) qF_X5_9 rfl dX5_open_60 ?_
        refine lv_iload_n hx hb dX5_open_63 rfl (lv_at hl9 0 rfl) ?_
        have h22 : f18 dW = some (.inl (cI G, 12, .inl (jn gw0 gw1))) := by rw [e19, va_up_ne _ _ nd_dW_dQ]; exact h5
        refine hp_iald B0 hw h22 (by unfold vp_in; decide) dX5_open_64 ?_
        refine hp_iast B0 hw hS h20 (by unfold vp_in; decide) dX5_open_65 (fun H locs f23 ef23 hw hS => ?_)
        have e24 : f23 = va_up f3 dQ (some (.inl (cI G, 12, .inl (upd (upd (upd (upd gQ (0 : Int32).toNatClampNeg ((jn gw0 gw1) (0 : Int32).toNatClampNeg)) (1 : Int32).toNatClampNeg ((jn gw0 gw1) (1 : Int32).toNatClampNeg)) (2 : Int32).toNatClampNeg ((jn gw0 gw1) (2 : Int32).toNatClampNeg)) (3 : Int32).toNatClampNeg ((jn gw0 gw1) (3 : Int32).toNatClampNeg))))) := by rw [ef23, e19, bx_uu]
        have h25 : f23 dQ = some (.inl (cI G, 12, .inl (upd (upd (upd (upd gQ (0 : Int32).toNatClampNeg ((jn gw0 gw1) (0 : Int32).toNatClampNeg)) (1 : Int32).toNatClampNeg ((jn gw0 gw1) (1 : Int32).toNatClampNeg)) (2 : Int32).toNatClampNeg ((jn gw0 gw1) (2 : Int32).toNatClampNeg)) (3 : Int32).toNatClampNeg ((jn gw0 gw1) (3 : Int32).toNatClampNeg)))) := by rw [ef23, va_up_self]
        refine lv_iinc (v := 4) (lv' := [(2, .int 4), (0, .ref mo), (1, .int 0)]) hx hb dX5_open_66 hl9 (k := 0) rfl (by decide) (by decide) rfl (fun ls hl9 => ?_)
        refine lv_goto (tgt := 43) hx hb dX5_open_69 (by decide) ?_
        refine lv_iload_n hx hb dX5_open_43 rfl (lv_at hl9 0 rfl) ?_
        refine lv_bipush (v := 6) hx hb dX5_open_44 (by decide) ?_
        refine lv_iload_n hx hb dX5_open_46 rfl (lv_at hl9 2 rfl) ?_
        refine lv_imul hx hb dX5_open_47 ?_
        refine hp_c (v := 0) (by decide) ?_
        refine lv_bipush (v := 6) hx hb dX5_open_48 (by decide) ?_
        refine lv_iadd hx hb dX5_open_50 ?_
        refine hp_c (v := 6) (by decide) ?_
        refine lv_icmp_ge (tgt := 72) hx hb dX5_open_51 (by decide) (fun c9 => absurd c9 (by decide)) (fun _ => ?_)
        refine lv_aload_n hx hb dX5_open_54 rfl (lv_at hl9 1 rfl) ?_
        have h26 : f23 mo = some (.inr (5, [.int 0, .ref dW, .ref dA, .ref dQ, .ref dM, .ref dS, .ref dL, .ref dR, .ref dT, .ref dZ, .ref dI, .ref dH, .ref dN, .ref dK, .ref dJ, .ref dU, .ref dO, .int (nI n), .int (nI a), .ref dF, .ref dP, .ref dE, .ref dX, .ref dY, .int (nI x), .int (nI cg), .ref dG])) := by rw [e24, va_up_ne _ _ (Ne.symm n8)]; exact h4
        refine hp_get B0 hw 5 rfl in_X5 h26 3 (by decide) qF_X5_16 rfl dX5_open_55 ?_
        refine lv_iload_n hx hb dX5_open_58 rfl (lv_at hl9 0 rfl) ?_
        refine lv_aload_n hx hb dX5_open_59 rfl (lv_at hl9 1 rfl) ?_
        refine hp_get B0 hw 5 rfl in_X5 h26 1 (by decide) qF_X5_9 rfl dX5_open_60 ?_
        refine lv_iload_n hx hb dX5_open_63 rfl (lv_at hl9 0 rfl) ?_
        have h27 : f23 dW = some (.inl (cI G, 12, .inl (jn gw0 gw1))) := by rw [e24, va_up_ne _ _ nd_dW_dQ]; exact h5
        refine hp_iald B0 hw h27 (by unfold vp_in; decide) dX5_open_64 ?_
        refine hp_iast B0 hw hS h25 (by unfold vp_in; decide) dX5_open_65 (fun H locs f28 ef28 hw hS => ?_)
        have e29 : f28 = va_up f3 dQ (some (.inl (cI G, 12, .inl (upd (upd (upd (upd (upd gQ (0 : Int32).toNatClampNeg ((jn gw0 gw1) (0 : Int32).toNatClampNeg)) (1 : Int32).toNatClampNeg ((jn gw0 gw1) (1 : Int32).toNatClampNeg)) (2 : Int32).toNatClampNeg ((jn gw0 gw1) (2 : Int32).toNatClampNeg)) (3 : Int32).toNatClampNeg ((jn gw0 gw1) (3 : Int32).toNatClampNeg)) (4 : Int32).toNatClampNeg ((jn gw0 gw1) (4 : Int32).toNatClampNeg))))) := by rw [ef28, e24, bx_uu]
        have h30 : f28 dQ = some (.inl (cI G, 12, .inl (upd (upd (upd (upd (upd gQ (0 : Int32).toNatClampNeg ((jn gw0 gw1) (0 : Int32).toNatClampNeg)) (1 : Int32).toNatClampNeg ((jn gw0 gw1) (1 : Int32).toNatClampNeg)) (2 : Int32).toNatClampNeg ((jn gw0 gw1) (2 : Int32).toNatClampNeg)) (3 : Int32).toNatClampNeg ((jn gw0 gw1) (3 : Int32).toNatClampNeg)) (4 : Int32).toNatClampNeg ((jn gw0 gw1) (4 : Int32).toNatClampNeg)))) := by rw [ef28, va_up_self]
        refine lv_iinc (v := 5) (lv' := [(2, .int 5), (0, .ref mo), (1, .int 0)]) hx hb dX5_open_66 hl9 (k := 0) rfl (by decide) (by decide) rfl (fun ls hl9 => ?_)
        refine lv_goto (tgt := 43) hx hb dX5_open_69 (by decide) ?_
        refine lv_iload_n hx hb dX5_open_43 rfl (lv_at hl9 0 rfl) ?_
        refine lv_bipush (v := 6) hx hb dX5_open_44 (by decide) ?_
        refine lv_iload_n hx hb dX5_open_46 rfl (lv_at hl9 2 rfl) ?_
        refine lv_imul hx hb dX5_open_47 ?_
        refine hp_c (v := 0) (by decide) ?_
        refine lv_bipush (v := 6) hx hb dX5_open_48 (by decide) ?_
        refine lv_iadd hx hb dX5_open_50 ?_
        refine hp_c (v := 6) (by decide) ?_
        refine lv_icmp_ge (tgt := 72) hx hb dX5_open_51 (by decide) (fun c9 => absurd c9 (by decide)) (fun _ => ?_)
        refine lv_aload_n hx hb dX5_open_54 rfl (lv_at hl9 1 rfl) ?_
        have h31 : f28 mo = some (.inr (5, [.int 0, .ref dW, .ref dA, .ref dQ, .ref dM, .ref dS, .ref dL, .ref dR, .ref dT, .ref dZ, .ref dI, .ref dH, .ref dN, .ref dK, .ref dJ, .ref dU, .ref dO, .int (nI n), .int (nI a), .ref dF, .ref dP, .ref dE, .ref dX, .ref dY, .int (nI x), .int (nI cg), .ref dG])) := by rw [e29, va_up_ne _ _ (Ne.symm n8)]; exact h4
        refine hp_get B0 hw 5 rfl in_X5 h31 3 (by decide) qF_X5_16 rfl dX5_open_55 ?_
        refine lv_iload_n hx hb dX5_open_58 rfl (lv_at hl9 0 rfl) ?_
        refine lv_aload_n hx hb dX5_open_59 rfl (lv_at hl9 1 rfl) ?_
        refine hp_get B0 hw 5 rfl in_X5 h31 1 (by decide) qF_X5_9 rfl dX5_open_60 ?_
        refine lv_iload_n hx hb dX5_open_63 rfl (lv_at hl9 0 rfl) ?_
        have h32 : f28 dW = some (.inl (cI G, 12, .inl (jn gw0 gw1))) := by rw [e29, va_up_ne _ _ nd_dW_dQ]; exact h5
        refine hp_iald B0 hw h32 (by unfold vp_in; decide) dX5_open_64 ?_
        refine hp_iast B0 hw hS h30 (by unfold vp_in; decide) dX5_open_65 (fun H locs f33 ef33 hw hS => ?_)
        have e34 : f33 = va_up f3 dQ (some (.inl (cI G, 12, .inl (upd (upd (upd (upd (upd (upd gQ (0 : Int32).toNatClampNeg ((jn gw0 gw1) (0 : Int32).toNatClampNeg)) (1 : Int32).toNatClampNeg ((jn gw0 gw1) (1 : Int32).toNatClampNeg)) (2 : Int32).toNatClampNeg ((jn gw0 gw1) (2 : Int32).toNatClampNeg)) (3 : Int32).toNatClampNeg ((jn gw0 gw1) (3 : Int32).toNatClampNeg)) (4 : Int32).toNatClampNeg ((jn gw0 gw1) (4 : Int32).toNatClampNeg)) (5 : Int32).toNatClampNeg ((jn gw0 gw1) (5 : Int32).toNatClampNeg))))) := by rw [ef33, e29, bx_uu]
        have h35 : f33 dQ = some (.inl (cI G, 12, .inl (upd (upd (upd (upd (upd (upd gQ (0 : Int32).toNatClampNeg ((jn gw0 gw1) (0 : Int32).toNatClampNeg)) (1 : Int32).toNatClampNeg ((jn gw0 gw1) (1 : Int32).toNatClampNeg)) (2 : Int32).toNatClampNeg ((jn gw0 gw1) (2 : Int32).toNatClampNeg)) (3 : Int32).toNatClampNeg ((jn gw0 gw1) (3 : Int32).toNatClampNeg)) (4 : Int32).toNatClampNeg ((jn gw0 gw1) (4 : Int32).toNatClampNeg)) (5 : Int32).toNatClampNeg ((jn gw0 gw1) (5 : Int32).toNatClampNeg)))) := by rw [ef33, va_up_self]
        refine lv_iinc (v := 6) (lv' := [(2, .int 6), (0, .ref mo), (1, .int 0)]) hx hb dX5_open_66 hl9 (k := 0) rfl (by decide) (by decide) rfl (fun ls hl9 => ?_)
        refine lv_goto (tgt := 43) hx hb dX5_open_69 (by decide) ?_
        refine lv_iload_n hx hb dX5_open_43 rfl (lv_at hl9 0 rfl) ?_
        refine lv_bipush (v := 6) hx hb dX5_open_44 (by decide) ?_
        refine lv_iload_n hx hb dX5_open_46 rfl (lv_at hl9 2 rfl) ?_
        refine lv_imul hx hb dX5_open_47 ?_
        refine hp_c (v := 0) (by decide) ?_
        refine lv_bipush (v := 6) hx hb dX5_open_48 (by decide) ?_
        refine lv_iadd hx hb dX5_open_50 ?_
        refine hp_c (v := 6) (by decide) ?_
        refine lv_icmp_ge (tgt := 72) hx hb dX5_open_51 (by decide) (fun _ => ?_) (fun c9 => absurd (by decide) c9)
        refine lv_aload_n hx hb dX5_open_72 rfl (lv_at hl9 1 rfl) ?_
        have h36 : f33 mo = some (.inr (5, [.int 0, .ref dW, .ref dA, .ref dQ, .ref dM, .ref dS, .ref dL, .ref dR, .ref dT, .ref dZ, .ref dI, .ref dH, .ref dN, .ref dK, .ref dJ, .ref dU, .ref dO, .int (nI n), .int (nI a), .ref dF, .ref dP, .ref dE, .ref dX, .ref dY, .int (nI x), .int (nI cg), .ref dG])) := by rw [e34, va_up_ne _ _ (Ne.symm n8)]; exact h4
        refine hp_get B0 hw 5 rfl in_X5 h36 5 (by decide) qF_X5_22 rfl dX5_open_73 ?_
        refine lv_iload_n hx hb dX5_open_76 rfl (lv_at hl9 2 rfl) ?_
        refine lv_iconst (v := 1) hx hb dX5_open_77 (by decide) ?_
        have n38 : dS ≠ mo := hne k_dS k_mo (Nat.ne_of_beq_eq_false rfl)
        have h37 : f3 dS = some (.inl (cI G, 2, .inl gS)) := by rw [ef3, va_up_ne _ _ n38]; exact k_dS
        have n40 : dS ≠ dQ := hneL k_dS k_dQ (Nat.ne_of_beq_eq_false rfl)
        have h39 : f33 dS = some (.inl (cI G, 2, .inl gS)) := by rw [e34, va_up_ne _ _ n40]; exact h37
        refine hp_iast B0 hw hS h39 (by unfold vp_in; decide) dX5_open_78 (fun H locs f41 ef41 hw hS => ?_)
        have h42 : f41 dS = some (.inl (cI G, 2, .inl (upd gS (0 : Int32).toNatClampNeg 1))) := by rw [ef41, va_up_self]
        refine lv_aload_n hx hb dX5_open_79 rfl (lv_at hl9 1 rfl) ?_
        have h43 : f41 mo = some (.inr (5, [.int 0, .ref dW, .ref dA, .ref dQ, .ref dM, .ref dS, .ref dL, .ref dR, .ref dT, .ref dZ, .ref dI, .ref dH, .ref dN, .ref dK, .ref dJ, .ref dU, .ref dO, .int (nI n), .int (nI a), .ref dF, .ref dP, .ref dE, .ref dX, .ref dY, .int (nI x), .int (nI cg), .ref dG])) := by rw [ef41, va_up_ne _ _ (Ne.symm n38)]; exact h36
        refine hp_get B0 hw 5 rfl in_X5 h43 7 (by decide) qF_X5_28 rfl dX5_open_80 ?_
        refine lv_iload_n hx hb dX5_open_83 rfl (lv_at hl9 2 rfl) ?_
        refine lv_iconst (v := 0) hx hb dX5_open_84 (by decide) ?_
        have n45 : dR ≠ mo := hne k_dR k_mo (Nat.ne_of_beq_eq_false rfl)
        have h44 : f3 dR = some (.inl (cI G, 2, .inl gR)) := by rw [ef3, va_up_ne _ _ n45]; exact k_dR
        have n47 : dR ≠ dQ := hneL k_dR k_dQ (Nat.ne_of_beq_eq_false rfl)
        have h46 : f33 dR = some (.inl (cI G, 2, .inl gR)) := by rw [e34, va_up_ne _ _ n47]; exact h44
        have h48 : f41 dR = some (.inl (cI G, 2, .inl gR)) := by rw [ef41, va_up_ne _ _ (Ne.symm nd_dS_dR)]; exact h46
        refine hp_iast B0 hw hS h48 (by unfold vp_in; decide) dX5_open_85 (fun H locs f49 ef49 hw hS => ?_)
        have h50 : f49 dR = some (.inl (cI G, 2, .inl (upd gR (0 : Int32).toNatClampNeg 0))) := by rw [ef49, va_up_self]
        refine lv_aload_n hx hb dX5_open_86 rfl (lv_at hl9 1 rfl) ?_
        refine lv_iload_n hx hb dX5_open_87 rfl (lv_at hl9 2 rfl) ?_
        have h51 : f49 mo = some (.inr (5, [.int 0, .ref dW, .ref dA, .ref dQ, .ref dM, .ref dS, .ref dL, .ref dR, .ref dT, .ref dZ, .ref dI, .ref dH, .ref dN, .ref dK, .ref dJ, .ref dU, .ref dO, .int (nI n), .int (nI a), .ref dF, .ref dP, .ref dE, .ref dX, .ref dY, .int (nI x), .int (nI cg), .ref dG])) := by rw [ef49, va_up_ne _ _ (Ne.symm n45)]; exact h43
        have n53 : dM ≠ mo := hne k_dM k_mo (Nat.ne_of_beq_eq_false rfl)
        have h52 : f3 dM = some (.inl (cI G, 2, .inl (mA2 mg0 mg1))) := by rw [ef3, va_up_ne _ _ n53]; exact k_dM
        have n55 : dM ≠ dQ := hneL k_dM k_dQ (Nat.ne_of_beq_eq_false rfl)
        have h54 : f33 dM = some (.inl (cI G, 2, .inl (mA2 mg0 mg1))) := by rw [e34, va_up_ne _ _ n55]; exact h52
        have h56 : f41 dM = some (.inl (cI G, 2, .inl (mA2 mg0 mg1))) := by rw [ef41, va_up_ne _ _ nd_dM_dS]; exact h54
        have h57 : f49 dM = some (.inl (cI G, 2, .inl (mA2 mg0 mg1))) := by rw [ef49, va_up_ne _ _ nd_dM_dR]; exact h56
        have n59 : dA ≠ mo := hne k_dA k_mo (Nat.ne_of_beq_eq_false rfl)
        have h58 : f3 dA = some (.inl (cI G, 12, .inl (jn ga0 ga1))) := by rw [ef3, va_up_ne _ _ n59]; exact k_dA
        have h60 : f33 dA = some (.inl (cI G, 12, .inl (jn ga0 ga1))) := by rw [e34, va_up_ne _ _ nd_dA_dQ]; exact h58
        have n62 : dA ≠ dS := hneL k_dA k_dS (Nat.ne_of_beq_eq_false rfl)
        have h61 : f41 dA = some (.inl (cI G, 12, .inl (jn ga0 ga1))) := by rw [ef41, va_up_ne _ _ n62]; exact h60
        have n64 : dA ≠ dR := hneL k_dA k_dR (Nat.ne_of_beq_eq_false rfl)
        have h63 : f49 dA = some (.inl (cI G, 12, .inl (jn ga0 ga1))) := by rw [ef49, va_up_ne _ _ n64]; exact h61
        have h65 : f41 dQ = some (.inl (cI G, 12, .inl (upd (upd (upd (upd (upd (upd gQ (0 : Int32).toNatClampNeg ((jn gw0 gw1) (0 : Int32).toNatClampNeg)) (1 : Int32).toNatClampNeg ((jn gw0 gw1) (1 : Int32).toNatClampNeg)) (2 : Int32).toNatClampNeg ((jn gw0 gw1) (2 : Int32).toNatClampNeg)) (3 : Int32).toNatClampNeg ((jn gw0 gw1) (3 : Int32).toNatClampNeg)) (4 : Int32).toNatClampNeg ((jn gw0 gw1) (4 : Int32).toNatClampNeg)) (5 : Int32).toNatClampNeg ((jn gw0 gw1) (5 : Int32).toNatClampNeg)))) := by rw [ef41, va_up_ne _ _ (Ne.symm n40)]; exact h35
        have h66 : f49 dQ = some (.inl (cI G, 12, .inl (upd (upd (upd (upd (upd (upd gQ (0 : Int32).toNatClampNeg ((jn gw0 gw1) (0 : Int32).toNatClampNeg)) (1 : Int32).toNatClampNeg ((jn gw0 gw1) (1 : Int32).toNatClampNeg)) (2 : Int32).toNatClampNeg ((jn gw0 gw1) (2 : Int32).toNatClampNeg)) (3 : Int32).toNatClampNeg ((jn gw0 gw1) (3 : Int32).toNatClampNeg)) (4 : Int32).toNatClampNeg ((jn gw0 gw1) (4 : Int32).toNatClampNeg)) (5 : Int32).toNatClampNeg ((jn gw0 gw1) (5 : Int32).toNatClampNeg)))) := by rw [ef49, va_up_ne _ _ (Ne.symm n47)]; exact h65
        have h67 : f49 dS = some (.inl (cI G, 2, .inl (upd gS (0 : Int32).toNatClampNeg 1))) := by rw [ef49, va_up_ne _ _ nd_dS_dR]; exact h42
        have n69 : dL ≠ mo := hne k_dL k_mo (Nat.ne_of_beq_eq_false rfl)
        have h68 : f3 dL = some (.inl (cI G, 2, .inl gL)) := by rw [ef3, va_up_ne _ _ n69]; exact k_dL
        have n71 : dL ≠ dQ := hneL k_dL k_dQ (Nat.ne_of_beq_eq_false rfl)
        have h70 : f33 dL = some (.inl (cI G, 2, .inl gL)) := by rw [e34, va_up_ne _ _ n71]; exact h68
        have h72 : f41 dL = some (.inl (cI G, 2, .inl gL)) := by rw [ef41, va_up_ne _ _ (Ne.symm nd_dS_dL)]; exact h70
        have h73 : f49 dL = some (.inl (cI G, 2, .inl gL)) := by rw [ef49, va_up_ne _ _ nd_dL_dR]; exact h72
        have n75 : dT ≠ mo := hne k_dT k_mo (Nat.ne_of_beq_eq_false rfl)
        have h74 : f3 dT = some (.inl (cI G, 2, .inl gT)) := by rw [ef3, va_up_ne _ _ n75]; exact k_dT
        have n77 : dT ≠ dQ := hneL k_dT k_dQ (Nat.ne_of_beq_eq_false rfl)
        have h76 : f33 dT = some (.inl (cI G, 2, .inl gT)) := by rw [e34, va_up_ne _ _ n77]; exact h74
        have h78 : f41 dT = some (.inl (cI G, 2, .inl gT)) := by rw [ef41, va_up_ne _ _ (Ne.symm nd_dS_dT)]; exact h76
        have h79 : f49 dT = some (.inl (cI G, 2, .inl gT)) := by rw [ef49, va_up_ne _ _ (Ne.symm nd_dR_dT)]; exact h78
        have n81 : dZ ≠ mo := hne k_dZ k_mo (Nat.ne_of_beq_eq_false rfl)
        have h80 : f3 dZ = some (.inl (cZ G, 2, .inl gZ)) := by rw [ef3, va_up_ne _ _ n81]; exact k_dZ
        have n83 : dZ ≠ dQ := hneL k_dZ k_dQ (Nat.ne_of_beq_eq_false rfl)
        have h82 : f33 dZ = some (.inl (cZ G, 2, .inl gZ)) := by rw [e34, va_up_ne _ _ n83]; exact h80
        have h84 : f41 dZ = some (.inl (cZ G, 2, .inl gZ)) := by rw [ef41, va_up_ne _ _ (Ne.symm nd_dS_dZ)]; exact h82
        have h85 : f49 dZ = some (.inl (cZ G, 2, .inl gZ)) := by rw [ef49, va_up_ne _ _ (Ne.symm nd_dR_dZ)]; exact h84
        have n87 : dI ≠ mo := hne k_dI k_mo (Nat.ne_of_beq_eq_false rfl)
        have h86 : f3 dI = some (.inl (cI G, 2, .inl gI)) := by rw [ef3, va_up_ne _ _ n87]; exact k_dI
        have n89 : dI ≠ dQ := hneL k_dI k_dQ (Nat.ne_of_beq_eq_false rfl)
        have h88 : f33 dI = some (.inl (cI G, 2, .inl gI)) := by rw [e34, va_up_ne _ _ n89]; exact h86
        have h90 : f41 dI = some (.inl (cI G, 2, .inl gI)) := by rw [ef41, va_up_ne _ _ (Ne.symm nd_dS_dI)]; exact h88
        have h91 : f49 dI = some (.inl (cI G, 2, .inl gI)) := by rw [ef49, va_up_ne _ _ (Ne.symm nd_dR_dI)]; exact h90
        have n93 : dH ≠ mo := hne k_dH k_mo (Nat.ne_of_beq_eq_false rfl)
        have h92 : f3 dH = some (.inl (cI G, 2, .inl gH)) := by rw [ef3, va_up_ne _ _ n93]; exact k_dH
        have n95 : dH ≠ dQ := hneL k_dH k_dQ (Nat.ne_of_beq_eq_false rfl)
        have h94 : f33 dH = some (.inl (cI G, 2, .inl gH)) := by rw [e34, va_up_ne _ _ n95]; exact h92
        have h96 : f41 dH = some (.inl (cI G, 2, .inl gH)) := by rw [ef41, va_up_ne _ _ (Ne.symm nd_dS_dH)]; exact h94
        have h97 : f49 dH = some (.inl (cI G, 2, .inl gH)) := by rw [ef49, va_up_ne _ _ (Ne.symm nd_dR_dH)]; exact h96
        have n99 : dN ≠ mo := hne k_dN k_mo (Nat.ne_of_beq_eq_false rfl)
        have h98 : f3 dN = some (.inl (cI G, 2, .inl gN)) := by rw [ef3, va_up_ne _ _ n99]; exact k_dN
        have n101 : dN ≠ dQ := hneL k_dN k_dQ (Nat.ne_of_beq_eq_false rfl)
        have h100 : f33 dN = some (.inl (cI G, 2, .inl gN)) := by rw [e34, va_up_ne _ _ n101]; exact h98
        have h102 : f41 dN = some (.inl (cI G, 2, .inl gN)) := by rw [ef41, va_up_ne _ _ (Ne.symm nd_dS_dN)]; exact h100
        have h103 : f49 dN = some (.inl (cI G, 2, .inl gN)) := by rw [ef49, va_up_ne _ _ (Ne.symm nd_dR_dN)]; exact h102
        have n105 : dK ≠ mo := hne k_dK k_mo (Nat.ne_of_beq_eq_false rfl)
        have h104 : f3 dK = some (.inl (cI G, 2048, .inl gK)) := by rw [ef3, va_up_ne _ _ n105]; exact k_dK
        have n107 : dK ≠ dQ := hneL k_dK k_dQ (Nat.ne_of_beq_eq_false rfl)
        have h106 : f33 dK = some (.inl (cI G, 2048, .inl gK)) := by rw [e34, va_up_ne _ _ n107]; exact h104
        have n109 : dK ≠ dS := hneL k_dK k_dS (Nat.ne_of_beq_eq_false rfl)
        have h108 : f41 dK = some (.inl (cI G, 2048, .inl gK)) := by rw [ef41, va_up_ne _ _ n109]; exact h106
        have n111 : dK ≠ dR := hneL k_dK k_dR (Nat.ne_of_beq_eq_false rfl)
        have h110 : f49 dK = some (.inl (cI G, 2048, .inl gK)) := by rw [ef49, va_up_ne _ _ n111]; exact h108
        have n113 : dJ ≠ mo := hne k_dJ k_mo (Nat.ne_of_beq_eq_false rfl)
        have h112 : f3 dJ = some (.inl (cI G, 2048, .inl gJ)) := by rw [ef3, va_up_ne _ _ n113]; exact k_dJ
        have n115 : dJ ≠ dQ := hneL k_dJ k_dQ (Nat.ne_of_beq_eq_false rfl)
        have h114 : f33 dJ = some (.inl (cI G, 2048, .inl gJ)) := by rw [e34, va_up_ne _ _ n115]; exact h112
        have n117 : dJ ≠ dS := hneL k_dJ k_dS (Nat.ne_of_beq_eq_false rfl)
        have h116 : f41 dJ = some (.inl (cI G, 2048, .inl gJ)) := by rw [ef41, va_up_ne _ _ n117]; exact h114
        have n119 : dJ ≠ dR := hneL k_dJ k_dR (Nat.ne_of_beq_eq_false rfl)
        have h118 : f49 dJ = some (.inl (cI G, 2048, .inl gJ)) := by rw [ef49, va_up_ne _ _ n119]; exact h116
        have n121 : dU ≠ mo := hne k_dU k_mo (Nat.ne_of_beq_eq_false rfl)
        have h120 : f3 dU = some (.inl (cI G, 2048, .inl gU)) := by rw [ef3, va_up_ne _ _ n121]; exact k_dU
        have n123 : dU ≠ dQ := hneL k_dU k_dQ (Nat.ne_of_beq_eq_false rfl)
        have h122 : f33 dU = some (.inl (cI G, 2048, .inl gU)) := by rw [e34, va_up_ne _ _ n123]; exact h120
        have n125 : dU ≠ dS := hneL k_dU k_dS (Nat.ne_of_beq_eq_false rfl)
        have h124 : f41 dU = some (.inl (cI G, 2048, .inl gU)) := by rw [ef41, va_up_ne _ _ n125]; exact h122
        have n127 : dU ≠ dR := hneL k_dU k_dR (Nat.ne_of_beq_eq_false rfl)
        have h126 : f49 dU = some (.inl (cI G, 2048, .inl gU)) := by rw [ef49, va_up_ne _ _ n127]; exact h124
        have n129 : dO ≠ mo := hne k_dO k_mo (Nat.ne_of_beq_eq_false rfl)
        have h128 : f3 dO = some (.inl (cI G, 2048, .inl gO)) := by rw [ef3, va_up_ne _ _ n129]; exact k_dO
        have n131 : dO ≠ dQ := hneL k_dO k_dQ (Nat.ne_of_beq_eq_false rfl)
        have h130 : f33 dO = some (.inl (cI G, 2048, .inl gO)) := by rw [e34, va_up_ne _ _ n131]; exact h128
        have n133 : dO ≠ dS := hneL k_dO k_dS (Nat.ne_of_beq_eq_false rfl)
        have h132 : f41 dO = some (.inl (cI G, 2048, .inl gO)) := by rw [ef41, va_up_ne _ _ n133]; exact h130
        have n135 : dO ≠ dR := hneL k_dO k_dR (Nat.ne_of_beq_eq_false rfl)
        have h134 : f49 dO = some (.inl (cI G, 2048, .inl gO)) := by rw [ef49, va_up_ne _ _ n135]; exact h132
        refine hp_V (ci := 5) (As := [.int 0]) (rest := []) B0 hw hS (c_W5_begs hl G f49 mo dW dA dQ dM dS dL dR dT dZ dI dH dN dK dJ dU dO dF dP dE dX dY dG 0 (nI n) (nI a) (nI x) (nI cg) h51 hND (mA2 mg0 mg1) (jn ga0 ga1) h57 h63 hSA B ⟨_, _, _, _, _, _, _, _, _, _, _, _, _, h66, h67, h73, h50, h79, h85, h91, h97, h103, h110, h118, h126, h134, hHd9, (hMn.mono hMn9 (by omega))⟩ (by omega) 0 (Or.inl rfl)) mV_X5_begs qM_X5_107 rfl h51 rfl rfl hl9.1 (Nat.le_of_ble_eq_true rfl) ⟨⟨Nat.le_of_ble_eq_true rfl, Nat.le_of_ble_eq_true rfl⟩, Nat.le_of_ble_eq_true rfl, Nat.le_of_ble_eq_true rfl⟩ dX5_open_88 (fun E ce q9 f136 H locs hPX hw hS hce hcv hcl => ?_) (fun v f136 H locs hP hw hS => ?_)
        · exact hPX.elim
        · obtain ⟨hv9, hr9⟩ := hP
          rcases hv9 with ev9 | ev9
          · have hP := And.intro ev9 hr9
            obtain ⟨ev8, h138, k139⟩ := hP
            have h138L := h138
            obtain ⟨gQ_n137, gS_n137, gL_n137, gR_n137, gT_n137, gZ_n137, gI_n137, gH_n137, gN_n137, gK_n137, gJ_n137, gU_n137, gO_n137, k_dQ_n137, k_dS_n137, k_dL_n137, k_dR_n137, k_dT_n137, k_dZ_n137, k_dI_n137, k_dH_n137, k_dN_n137, k_dK_n137, k_dJ_n137, k_dU_n137, k_dO_n137, hHd9_n137, hMn9_n137⟩ := id h138
            subst ev8
            refine W.eq (g2 := F0 m 91 ls [.int 0]) rfl ?_
            refine lv_pop hx hb dX5_open_91 rfl ?_
            refine lv_aload_n hx hb dX5_open_92 rfl (lv_at hl9 1 rfl) ?_
            have h140 : f136 mo = some (.inr (5, [.int 0, .ref dW, .ref dA, .ref dQ, .ref dM, .ref dS, .ref dL, .ref dR, .ref dT, .ref dZ, .ref dI, .ref dH, .ref dN, .ref dK, .ref dJ, .ref dU, .ref dO, .int (nI n), .int (nI a), .ref dF, .ref dP, .ref dE, .ref dX, .ref dY, .int (nI x), .int (nI cg), .ref dG])) := (hEq.k k139) _ _ h51 (ninc (Ne.symm n8) (ninc (Ne.symm n38) (ninc (Ne.symm n69) (ninc (Ne.symm n45) (ninc (Ne.symm n75) (ninc (Ne.symm n81) (ninc (Ne.symm n87) (ninc (Ne.symm n93) (ninc (Ne.symm n99) (ninc (Ne.symm n105) (ninc (Ne.symm n113) (ninc (Ne.symm n121) (ninc (Ne.symm n129) nin0)))))))))))))
            refine hp_get B0 hw 5 rfl in_X5 h140 6 (by decide) qF_X5_25 rfl dX5_open_93 ?_
            refine lv_iload_n hx hb dX5_open_96 rfl (lv_at hl9 2 rfl) ?_
            refine hp_iald B0 hw k_dL_n137 (by unfold vp_in; decide) dX5_open_97 ?_
            have h141 : f33 dW = some (.inl (cI G, 12, .inl (jn gw0 gw1))) := by rw [e34, va_up_ne _ _ nd_dW_dQ]; exact h5
            have n143 : dW ≠ dS := hneL k_dW k_dS (Nat.ne_of_beq_eq_false rfl)
            have h142 : f41 dW = some (.inl (cI G, 12, .inl (jn gw0 gw1))) := by rw [ef41, va_up_ne _ _ n143]; exact h141
            have n145 : dW ≠ dR := hneL k_dW k_dR (Nat.ne_of_beq_eq_false rfl)
            have h144 : f49 dW = some (.inl (cI G, 12, .inl (jn gw0 gw1))) := by rw [ef49, va_up_ne _ _ n145]; exact h142
            have n147 : dW ≠ dO := hneL k_dW k_dO (Nat.ne_of_beq_eq_false rfl)
            have n148 : dW ≠ dU := hneL k_dW k_dU (Nat.ne_of_beq_eq_false rfl)
            have n149 : dW ≠ dJ := hneL k_dW k_dJ (Nat.ne_of_beq_eq_false rfl)
            have n150 : dW ≠ dK := hneL k_dW k_dK (Nat.ne_of_beq_eq_false rfl)
            have n151 : dW ≠ dN := hneL k_dW k_dN (Nat.ne_of_beq_eq_false rfl)
            have n152 : dW ≠ dH := hneL k_dW k_dH (Nat.ne_of_beq_eq_false rfl)
            have n153 : dW ≠ dI := hneL k_dW k_dI (Nat.ne_of_beq_eq_false rfl)
            have n154 : dW ≠ dZ := hneL k_dW k_dZ (Nat.ne_of_beq_eq_false rfl)
            have n155 : dW ≠ dT := hneL k_dW k_dT (Nat.ne_of_beq_eq_false rfl)
            have n156 : dW ≠ dL := hneL k_dW k_dL (Nat.ne_of_beq_eq_false rfl)
            have h146 : f136 dW = some (.inl (cI G, 12, .inl (jn gw0 gw1))) := (hEq.k k139) _ _ h144 (ninc nd_dW_dQ (ninc n143 (ninc n156 (ninc n145 (ninc n155 (ninc n154 (ninc n153 (ninc n152 (ninc n151 (ninc n150 (ninc n149 (ninc n148 (ninc n147 nin0)))))))))))))
            have n158 : dA ≠ dO := hneL k_dA k_dO (Nat.ne_of_beq_eq_false rfl)
            have n159 : dA ≠ dU := hneL k_dA k_dU (Nat.ne_of_beq_eq_false rfl)
            have n160 : dA ≠ dJ := hneL k_dA k_dJ (Nat.ne_of_beq_eq_false rfl)
            have n161 : dA ≠ dK := hneL k_dA k_dK (Nat.ne_of_beq_eq_false rfl)
            have n162 : dA ≠ dN := hneL k_dA k_dN (Nat.ne_of_beq_eq_false rfl)
            have n163 : dA ≠ dH := hneL k_dA k_dH (Nat.ne_of_beq_eq_false rfl)
            have n164 : dA ≠ dI := hneL k_dA k_dI (Nat.ne_of_beq_eq_false rfl)
            have n165 : dA ≠ dZ := hneL k_dA k_dZ (Nat.ne_of_beq_eq_false rfl)
            have n166 : dA ≠ dT := hneL k_dA k_dT (Nat.ne_of_beq_eq_false rfl)
            have n167 : dA ≠ dL := hneL k_dA k_dL (Nat.ne_of_beq_eq_false rfl)
            have h157 : f136 dA = some (.inl (cI G, 12, .inl (jn ga0 ga1))) := (hEq.k k139) _ _ h63 (ninc nd_dA_dQ (ninc n62 (ninc n167 (ninc n64 (ninc n166 (ninc n165 (ninc n164 (ninc n163 (ninc n162 (ninc n161 (ninc n160 (ninc n159 (ninc n158 nin0)))))))))))))
            have n169 : dM ≠ dO := hneL k_dM k_dO (Nat.ne_of_beq_eq_false rfl)
            have n170 : dM ≠ dU := hneL k_dM k_dU (Nat.ne_of_beq_eq_false rfl)
            have n171 : dM ≠ dJ := hneL k_dM k_dJ (Nat.ne_of_beq_eq_false rfl)
            have n172 : dM ≠ dK := hneL k_dM k_dK (Nat.ne_of_beq_eq_false rfl)
            have h168 : f136 dM = some (.inl (cI G, 2, .inl (mA2 mg0 mg1))) := (hEq.k k139) _ _ h57 (ninc n55 (ninc nd_dM_dS (ninc nd_dM_dL (ninc nd_dM_dR (ninc nd_dM_dT (ninc nd_dM_dZ (ninc nd_dM_dI (ninc nd_dM_dH (ninc nd_dM_dN (ninc n172 (ninc n171 (ninc n170 (ninc n169 nin0)))))))))))))
            have n174 : dF ≠ mo := hne k_dF k_mo (Nat.ne_of_beq_eq_false rfl)
            have h173 : f3 dF = some (.inl (cI G, 61, .inl (nf sa))) := by rw [ef3, va_up_ne _ _ n174]; exact k_dF
            have n176 : dF ≠ dQ := hneL k_dF k_dQ (Nat.ne_of_beq_eq_false rfl)
            have h175 : f33 dF = some (.inl (cI G, 61, .inl (nf sa))) := by rw [e34, va_up_ne _ _ n176]; exact h173
            have n178 : dF ≠ dS := hneL k_dF k_dS (Nat.ne_of_beq_eq_false rfl)
            have h177 : f41 dF = some (.inl (cI G, 61, .inl (nf sa))) := by rw [ef41, va_up_ne _ _ n178]; exact h175
            have n180 : dF ≠ dR := hneL k_dF k_dR (Nat.ne_of_beq_eq_false rfl)
            have h179 : f49 dF = some (.inl (cI G, 61, .inl (nf sa))) := by rw [ef49, va_up_ne _ _ n180]; exact h177
            have n182 : dF ≠ dO := hneL k_dF k_dO (Nat.ne_of_beq_eq_false rfl)
            have n183 : dF ≠ dU := hneL k_dF k_dU (Nat.ne_of_beq_eq_false rfl)
            have n184 : dF ≠ dJ := hneL k_dF k_dJ (Nat.ne_of_beq_eq_false rfl)
            have n185 : dF ≠ dK := hneL k_dF k_dK (Nat.ne_of_beq_eq_false rfl)
            have n186 : dF ≠ dN := hneL k_dF k_dN (Nat.ne_of_beq_eq_false rfl)
            have n187 : dF ≠ dH := hneL k_dF k_dH (Nat.ne_of_beq_eq_false rfl)
            have n188 : dF ≠ dI := hneL k_dF k_dI (Nat.ne_of_beq_eq_false rfl)
            have n189 : dF ≠ dZ := hneL k_dF k_dZ (Nat.ne_of_beq_eq_false rfl)
            have n190 : dF ≠ dT := hneL k_dF k_dT (Nat.ne_of_beq_eq_false rfl)
            have n191 : dF ≠ dL := hneL k_dF k_dL (Nat.ne_of_beq_eq_false rfl)
            have h181 : f136 dF = some (.inl (cI G, 61, .inl (nf sa))) := (hEq.k k139) _ _ h179 (ninc n176 (ninc n178 (ninc n191 (ninc n180 (ninc n190 (ninc n189 (ninc n188 (ninc n187 (ninc n186 (ninc n185 (ninc n184 (ninc n183 (ninc n182 nin0)))))))))))))
            have n193 : dP ≠ mo := hne k_dP k_mo (Nat.ne_of_beq_eq_false rfl)
            have h192 : f3 dP = some (.inl (cI G, 240, .inl (nf pk))) := by rw [ef3, va_up_ne _ _ n193]; exact k_dP
            have n195 : dP ≠ dQ := hneL k_dP k_dQ (Nat.ne_of_beq_eq_false rfl)
            have h194 : f33 dP = some (.inl (cI G, 240, .inl (nf pk))) := by rw [e34, va_up_ne _ _ n195]; exact h192
            have n197 : dP ≠ dS := hneL k_dP k_dS (Nat.ne_of_beq_eq_false rfl)
            have h196 : f41 dP = some (.inl (cI G, 240, .inl (nf pk))) := by rw [ef41, va_up_ne _ _ n197]; exact h194
            have n199 : dP ≠ dR := hneL k_dP k_dR (Nat.ne_of_beq_eq_false rfl)
            have h198 : f49 dP = some (.inl (cI G, 240, .inl (nf pk))) := by rw [ef49, va_up_ne _ _ n199]; exact h196
            have n201 : dP ≠ dO := hneL k_dP k_dO (Nat.ne_of_beq_eq_false rfl)
            have n202 : dP ≠ dU := hneL k_dP k_dU (Nat.ne_of_beq_eq_false rfl)
            have n203 : dP ≠ dJ := hneL k_dP k_dJ (Nat.ne_of_beq_eq_false rfl)
            have n204 : dP ≠ dK := hneL k_dP k_dK (Nat.ne_of_beq_eq_false rfl)
            have n205 : dP ≠ dN := hneL k_dP k_dN (Nat.ne_of_beq_eq_false rfl)
            have n206 : dP ≠ dH := hneL k_dP k_dH (Nat.ne_of_beq_eq_false rfl)
            have n207 : dP ≠ dI := hneL k_dP k_dI (Nat.ne_of_beq_eq_false rfl)
            have n208 : dP ≠ dZ := hneL k_dP k_dZ (Nat.ne_of_beq_eq_false rfl)
            have n209 : dP ≠ dT := hneL k_dP k_dT (Nat.ne_of_beq_eq_false rfl)
            have n210 : dP ≠ dL := hneL k_dP k_dL (Nat.ne_of_beq_eq_false rfl)
            have h200 : f136 dP = some (.inl (cI G, 240, .inl (nf pk))) := (hEq.k k139) _ _ h198 (ninc n195 (ninc n197 (ninc n210 (ninc n199 (ninc n209 (ninc n208 (ninc n207 (ninc n206 (ninc n205 (ninc n204 (ninc n203 (ninc n202 (ninc n201 nin0)))))))))))))
            have n212 : dE ≠ mo := hne k_dE k_mo (Nat.ne_of_beq_eq_false rfl)
            have h211 : f3 dE = some (.inl (cZ G, 240, .inl gh)) := by rw [ef3, va_up_ne _ _ n212]; exact k_dE
            have n214 : dE ≠ dQ := hneL k_dE k_dQ (Nat.ne_of_beq_eq_false rfl)
            have h213 : f33 dE = some (.inl (cZ G, 240, .inl gh)) := by rw [e34, va_up_ne _ _ n214]; exact h211
            have n216 : dE ≠ dS := hneL k_dE k_dS (Nat.ne_of_beq_eq_false rfl)
            have h215 : f41 dE = some (.inl (cZ G, 240, .inl gh)) := by rw [ef41, va_up_ne _ _ n216]; exact h213
            have n218 : dE ≠ dR := hneL k_dE k_dR (Nat.ne_of_beq_eq_false rfl)
            have h217 : f49 dE = some (.inl (cZ G, 240, .inl gh)) := by rw [ef49, va_up_ne _ _ n218]; exact h215
            have n220 : dE ≠ dO := hneL k_dE k_dO (Nat.ne_of_beq_eq_false rfl)
            have n221 : dE ≠ dU := hneL k_dE k_dU (Nat.ne_of_beq_eq_false rfl)
            have n222 : dE ≠ dJ := hneL k_dE k_dJ (Nat.ne_of_beq_eq_false rfl)
            have n223 : dE ≠ dK := hneL k_dE k_dK (Nat.ne_of_beq_eq_false rfl)
            have n224 : dE ≠ dN := hneL k_dE k_dN (Nat.ne_of_beq_eq_false rfl)
            have n225 : dE ≠ dH := hneL k_dE k_dH (Nat.ne_of_beq_eq_false rfl)
            have n226 : dE ≠ dI := hneL k_dE k_dI (Nat.ne_of_beq_eq_false rfl)
            have n227 : dE ≠ dZ := hneL k_dE k_dZ (Nat.ne_of_beq_eq_false rfl)
            have n228 : dE ≠ dT := hneL k_dE k_dT (Nat.ne_of_beq_eq_false rfl)
            have n229 : dE ≠ dL := hneL k_dE k_dL (Nat.ne_of_beq_eq_false rfl)
            have h219 : f136 dE = some (.inl (cZ G, 240, .inl gh)) := (hEq.k k139) _ _ h217 (ninc n214 (ninc n216 (ninc n229 (ninc n218 (ninc n228 (ninc n227 (ninc n226 (ninc n225 (ninc n224 (ninc n223 (ninc n222 (ninc n221 (ninc n220 nin0)))))))))))))
            have n231 : dX ≠ mo := hne k_dX k_mo (Nat.ne_of_beq_eq_false rfl)
            have h230 : f3 dX = some (.inl (cI G, 3, .inl (nf fl))) := by rw [ef3, va_up_ne _ _ n231]; exact k_dX
            have n233 : dX ≠ dQ := hneL k_dX k_dQ (Nat.ne_of_beq_eq_false rfl)
            have h232 : f33 dX = some (.inl (cI G, 3, .inl (nf fl))) := by rw [e34, va_up_ne _ _ n233]; exact h230
            have n235 : dX ≠ dS := hneL k_dX k_dS (Nat.ne_of_beq_eq_false rfl)
            have h234 : f41 dX = some (.inl (cI G, 3, .inl (nf fl))) := by rw [ef41, va_up_ne _ _ n235]; exact h232
            have n237 : dX ≠ dR := hneL k_dX k_dR (Nat.ne_of_beq_eq_false rfl)
            have h236 : f49 dX = some (.inl (cI G, 3, .inl (nf fl))) := by rw [ef49, va_up_ne _ _ n237]; exact h234
            have n239 : dX ≠ dO := hneL k_dX k_dO (Nat.ne_of_beq_eq_false rfl)
            have n240 : dX ≠ dU := hneL k_dX k_dU (Nat.ne_of_beq_eq_false rfl)
            have n241 : dX ≠ dJ := hneL k_dX k_dJ (Nat.ne_of_beq_eq_false rfl)
            have n242 : dX ≠ dK := hneL k_dX k_dK (Nat.ne_of_beq_eq_false rfl)
            have n243 : dX ≠ dN := hneL k_dX k_dN (Nat.ne_of_beq_eq_false rfl)
            have n244 : dX ≠ dH := hneL k_dX k_dH (Nat.ne_of_beq_eq_false rfl)
            have n245 : dX ≠ dI := hneL k_dX k_dI (Nat.ne_of_beq_eq_false rfl)
            have n246 : dX ≠ dZ := hneL k_dX k_dZ (Nat.ne_of_beq_eq_false rfl)
            have n247 : dX ≠ dT := hneL k_dX k_dT (Nat.ne_of_beq_eq_false rfl)
            have n248 : dX ≠ dL := hneL k_dX k_dL (Nat.ne_of_beq_eq_false rfl)
            have h238 : f136 dX = some (.inl (cI G, 3, .inl (nf fl))) := (hEq.k k139) _ _ h236 (ninc n233 (ninc n235 (ninc n248 (ninc n237 (ninc n247 (ninc n246 (ninc n245 (ninc n244 (ninc n243 (ninc n242 (ninc n241 (ninc n240 (ninc n239 nin0)))))))))))))
            have n250 : dY ≠ mo := hne k_dY k_mo (Nat.ne_of_beq_eq_false rfl)
            have h249 : f3 dY = some (.inl (cI G, 3, .inl gl)) := by rw [ef3, va_up_ne _ _ n250]; exact k_dY
            have n252 : dY ≠ dQ := hneL k_dY k_dQ (Nat.ne_of_beq_eq_false rfl)
            have h251 : f33 dY = some (.inl (cI G, 3, .inl gl)) := by rw [e34, va_up_ne _ _ n252]; exact h249
            have n254 : dY ≠ dS := hneL k_dY k_dS (Nat.ne_of_beq_eq_false rfl)
            have h253 : f41 dY = some (.inl (cI G, 3, .inl gl)) := by rw [ef41, va_up_ne _ _ n254]; exact h251
            have n256 : dY ≠ dR := hneL k_dY k_dR (Nat.ne_of_beq_eq_false rfl)
            have h255 : f49 dY = some (.inl (cI G, 3, .inl gl)) := by rw [ef49, va_up_ne _ _ n256]; exact h253
            have n258 : dY ≠ dO := hneL k_dY k_dO (Nat.ne_of_beq_eq_false rfl)
            have n259 : dY ≠ dU := hneL k_dY k_dU (Nat.ne_of_beq_eq_false rfl)
            have n260 : dY ≠ dJ := hneL k_dY k_dJ (Nat.ne_of_beq_eq_false rfl)
            have n261 : dY ≠ dK := hneL k_dY k_dK (Nat.ne_of_beq_eq_false rfl)
            have n262 : dY ≠ dN := hneL k_dY k_dN (Nat.ne_of_beq_eq_false rfl)
            have n263 : dY ≠ dH := hneL k_dY k_dH (Nat.ne_of_beq_eq_false rfl)
            have n264 : dY ≠ dI := hneL k_dY k_dI (Nat.ne_of_beq_eq_false rfl)
            have n265 : dY ≠ dZ := hneL k_dY k_dZ (Nat.ne_of_beq_eq_false rfl)
            have n266 : dY ≠ dT := hneL k_dY k_dT (Nat.ne_of_beq_eq_false rfl)
            have n267 : dY ≠ dL := hneL k_dY k_dL (Nat.ne_of_beq_eq_false rfl)
            have h257 : f136 dY = some (.inl (cI G, 3, .inl gl)) := (hEq.k k139) _ _ h255 (ninc n252 (ninc n254 (ninc n267 (ninc n256 (ninc n266 (ninc n265 (ninc n264 (ninc n263 (ninc n262 (ninc n261 (ninc n260 (ninc n259 (ninc n258 nin0)))))))))))))
            have n269 : dG ≠ mo := hne k_dG k_mo (Nat.ne_of_beq_eq_false rfl)
            have h268 : f3 dG = some (.inl (cI G, 60, .inl (nf gv))) := by rw [ef3, va_up_ne _ _ n269]; exact k_dG
            have n271 : dG ≠ dQ := hneL k_dG k_dQ (Nat.ne_of_beq_eq_false rfl)
            have h270 : f33 dG = some (.inl (cI G, 60, .inl (nf gv))) := by rw [e34, va_up_ne _ _ n271]; exact h268
            have n273 : dG ≠ dS := hneL k_dG k_dS (Nat.ne_of_beq_eq_false rfl)
            have h272 : f41 dG = some (.inl (cI G, 60, .inl (nf gv))) := by rw [ef41, va_up_ne _ _ n273]; exact h270
            have n275 : dG ≠ dR := hneL k_dG k_dR (Nat.ne_of_beq_eq_false rfl)
            have h274 : f49 dG = some (.inl (cI G, 60, .inl (nf gv))) := by rw [ef49, va_up_ne _ _ n275]; exact h272
            have n277 : dG ≠ dO := hneL k_dG k_dO (Nat.ne_of_beq_eq_false rfl)
            have n278 : dG ≠ dU := hneL k_dG k_dU (Nat.ne_of_beq_eq_false rfl)
            have n279 : dG ≠ dJ := hneL k_dG k_dJ (Nat.ne_of_beq_eq_false rfl)
            have n280 : dG ≠ dK := hneL k_dG k_dK (Nat.ne_of_beq_eq_false rfl)
            have n281 : dG ≠ dN := hneL k_dG k_dN (Nat.ne_of_beq_eq_false rfl)
            have n282 : dG ≠ dH := hneL k_dG k_dH (Nat.ne_of_beq_eq_false rfl)
            have n283 : dG ≠ dI := hneL k_dG k_dI (Nat.ne_of_beq_eq_false rfl)
            have n284 : dG ≠ dZ := hneL k_dG k_dZ (Nat.ne_of_beq_eq_false rfl)
            have n285 : dG ≠ dT := hneL k_dG k_dT (Nat.ne_of_beq_eq_false rfl)
            have n286 : dG ≠ dL := hneL k_dG k_dL (Nat.ne_of_beq_eq_false rfl)
            have h276 : f136 dG = some (.inl (cI G, 60, .inl (nf gv))) := (hEq.k k139) _ _ h274 (ninc n271 (ninc n273 (ninc n286 (ninc n275 (ninc n285 (ninc n284 (ninc n283 (ninc n282 (ninc n281 (ninc n280 (ninc n279 (ninc n278 (ninc n277 nin0)))))))))))))
            exact hp_iret (v := (gL_n137 (0 : Int32).toNatClampNeg)) B0 hw hS hr ⟨Nat.le_of_ble_eq_true rfl, Nat.le_of_ble_eq_true rfl⟩ dX5_open_98 (⟨⟨_, rfl⟩, ⟨_, ⟨h140, hND, ⟨_, _, _, _, _, _, _, _, _, _, _, _, _, k_dQ_n137, k_dS_n137, k_dL_n137, k_dR_n137, k_dT_n137, k_dZ_n137, k_dI_n137, k_dH_n137, k_dN_n137, k_dK_n137, k_dJ_n137, k_dU_n137, k_dO_n137, hHd9_n137, (hMn.mono hMn9_n137 (by omega))⟩, h146, h157, h168, h181, h200, h219, h238, h257, h276, hSA, hB9, hfl9⟩⟩, ((show hEq [mo, dW, dA, dQ, dM, dS, dL, dR, dT, dZ, dI, dH, dN, dK, dJ, dU, dO, dF, dP, dE, dX, dY, dG] f f3 from (by rw [ef3]; exact hEq.up List.mem_cons_self)).tr ((show hEq [mo, dW, dA, dQ, dM, dS, dL, dR, dT, dZ, dI, dH, dN, dK, dJ, dU, dO, dF, dP, dE, dX, dY, dG] f3 f33 from (by rw [e34]; exact hEq.up (List.mem_cons_of_mem _ (List.mem_cons_of_mem _ (List.mem_cons_of_mem _ List.mem_cons_self))))).tr ((show hEq [mo, dW, dA, dQ, dM, dS, dL, dR, dT, dZ, dI, dH, dN, dK, dJ, dU, dO, dF, dP, dE, dX, dY, dG] f33 f41 from (by rw [ef41]; exact hEq.up (List.mem_cons_of_mem _ (List.mem_cons_of_mem _ (List.mem_cons_of_mem _ (List.mem_cons_of_mem _ (List.mem_cons_of_mem _ List.mem_cons_self))))))).tr ((show hEq [mo, dW, dA, dQ, dM, dS, dL, dR, dT, dZ, dI, dH, dN, dK, dJ, dU, dO, dF, dP, dE, dX, dY, dG] f41 f49 from (by rw [ef49]; exact hEq.up (List.mem_cons_of_mem _ (List.mem_cons_of_mem _ (List.mem_cons_of_mem _ (List.mem_cons_of_mem _ (List.mem_cons_of_mem _ (List.mem_cons_of_mem _ (List.mem_cons_of_mem _ List.mem_cons_self))))))))).tr (show hEq [mo, dW, dA, dQ, dM, dS, dL, dR, dT, dZ, dI, dH, dN, dK, dJ, dU, dO, dF, dP, dE, dX, dY, dG] f49 f136 from (hEq.mono k139 sub13))))))⟩)
          · have hP := And.intro ev9 hr9
            obtain ⟨ev8, h288, k289⟩ := hP
            have h288L := h288
            obtain ⟨gQ_n287, gS_n287, gL_n287, gR_n287, gT_n287, gZ_n287, gI_n287, gH_n287, gN_n287, gK_n287, gJ_n287, gU_n287, gO_n287, k_dQ_n287, k_dS_n287, k_dL_n287, k_dR_n287, k_dT_n287, k_dZ_n287, k_dI_n287, k_dH_n287, k_dN_n287, k_dK_n287, k_dJ_n287, k_dU_n287, k_dO_n287, hHd9_n287, hMn9_n287⟩ := id h288
            subst ev8
            refine W.eq (g2 := F0 m 91 ls [.int 1]) rfl ?_
            refine lv_pop hx hb dX5_open_91 rfl ?_
            refine lv_aload_n hx hb dX5_open_92 rfl (lv_at hl9 1 rfl) ?_
            have h290 : f136 mo = some (.inr (5, [.int 0, .ref dW, .ref dA, .ref dQ, .ref dM, .ref dS, .ref dL, .ref dR, .ref dT, .ref dZ, .ref dI, .ref dH, .ref dN, .ref dK, .ref dJ, .ref dU, .ref dO, .int (nI n), .int (nI a), .ref dF, .ref dP, .ref dE, .ref dX, .ref dY, .int (nI x), .int (nI cg), .ref dG])) := (hEq.k k289) _ _ h51 (ninc (Ne.symm n8) (ninc (Ne.symm n38) (ninc (Ne.symm n69) (ninc (Ne.symm n45) (ninc (Ne.symm n75) (ninc (Ne.symm n81) (ninc (Ne.symm n87) (ninc (Ne.symm n93) (ninc (Ne.symm n99) (ninc (Ne.symm n105) (ninc (Ne.symm n113) (ninc (Ne.symm n121) (ninc (Ne.symm n129) nin0)))))))))))))
            refine hp_get B0 hw 5 rfl in_X5 h290 6 (by decide) qF_X5_25 rfl dX5_open_93 ?_
            refine lv_iload_n hx hb dX5_open_96 rfl (lv_at hl9 2 rfl) ?_
            refine hp_iald B0 hw k_dL_n287 (by unfold vp_in; decide) dX5_open_97 ?_
            have h291 : f33 dW = some (.inl (cI G, 12, .inl (jn gw0 gw1))) := by rw [e34, va_up_ne _ _ nd_dW_dQ]; exact h5
            have n293 : dW ≠ dS := hneL k_dW k_dS (Nat.ne_of_beq_eq_false rfl)
            have h292 : f41 dW = some (.inl (cI G, 12, .inl (jn gw0 gw1))) := by rw [ef41, va_up_ne _ _ n293]; exact h291
            have n295 : dW ≠ dR := hneL k_dW k_dR (Nat.ne_of_beq_eq_false rfl)
            have h294 : f49 dW = some (.inl (cI G, 12, .inl (jn gw0 gw1))) := by rw [ef49, va_up_ne _ _ n295]; exact h292
            have n297 : dW ≠ dO := hneL k_dW k_dO (Nat.ne_of_beq_eq_false rfl)
            have n298 : dW ≠ dU := hneL k_dW k_dU (Nat.ne_of_beq_eq_false rfl)
            have n299 : dW ≠ dJ := hneL k_dW k_dJ (Nat.ne_of_beq_eq_false rfl)
            have n300 : dW ≠ dK := hneL k_dW k_dK (Nat.ne_of_beq_eq_false rfl)
            have n301 : dW ≠ dN := hneL k_dW k_dN (Nat.ne_of_beq_eq_false rfl)
            have n302 : dW ≠ dH := hneL k_dW k_dH (Nat.ne_of_beq_eq_false rfl)
            have n303 : dW ≠ dI := hneL k_dW k_dI (Nat.ne_of_beq_eq_false rfl)
            have n304 : dW ≠ dZ := hneL k_dW k_dZ (Nat.ne_of_beq_eq_false rfl)
            have n305 : dW ≠ dT := hneL k_dW k_dT (Nat.ne_of_beq_eq_false rfl)
            have n306 : dW ≠ dL := hneL k_dW k_dL (Nat.ne_of_beq_eq_false rfl)
            have h296 : f136 dW = some (.inl (cI G, 12, .inl (jn gw0 gw1))) := (hEq.k k289) _ _ h294 (ninc nd_dW_dQ (ninc n293 (ninc n306 (ninc n295 (ninc n305 (ninc n304 (ninc n303 (ninc n302 (ninc n301 (ninc n300 (ninc n299 (ninc n298 (ninc n297 nin0)))))))))))))
            have n308 : dA ≠ dO := hneL k_dA k_dO (Nat.ne_of_beq_eq_false rfl)
            have n309 : dA ≠ dU := hneL k_dA k_dU (Nat.ne_of_beq_eq_false rfl)
            have n310 : dA ≠ dJ := hneL k_dA k_dJ (Nat.ne_of_beq_eq_false rfl)
            have n311 : dA ≠ dK := hneL k_dA k_dK (Nat.ne_of_beq_eq_false rfl)
            have n312 : dA ≠ dN := hneL k_dA k_dN (Nat.ne_of_beq_eq_false rfl)
            have n313 : dA ≠ dH := hneL k_dA k_dH (Nat.ne_of_beq_eq_false rfl)
            have n314 : dA ≠ dI := hneL k_dA k_dI (Nat.ne_of_beq_eq_false rfl)
            have n315 : dA ≠ dZ := hneL k_dA k_dZ (Nat.ne_of_beq_eq_false rfl)
            have n316 : dA ≠ dT := hneL k_dA k_dT (Nat.ne_of_beq_eq_false rfl)
            have n317 : dA ≠ dL := hneL k_dA k_dL (Nat.ne_of_beq_eq_false rfl)
            have h307 : f136 dA = some (.inl (cI G, 12, .inl (jn ga0 ga1))) := (hEq.k k289) _ _ h63 (ninc nd_dA_dQ (ninc n62 (ninc n317 (ninc n64 (ninc n316 (ninc n315 (ninc n314 (ninc n313 (ninc n312 (ninc n311 (ninc n310 (ninc n309 (ninc n308 nin0)))))))))))))
            have n319 : dM ≠ dO := hneL k_dM k_dO (Nat.ne_of_beq_eq_false rfl)
            have n320 : dM ≠ dU := hneL k_dM k_dU (Nat.ne_of_beq_eq_false rfl)
            have n321 : dM ≠ dJ := hneL k_dM k_dJ (Nat.ne_of_beq_eq_false rfl)
            have n322 : dM ≠ dK := hneL k_dM k_dK (Nat.ne_of_beq_eq_false rfl)
            have h318 : f136 dM = some (.inl (cI G, 2, .inl (mA2 mg0 mg1))) := (hEq.k k289) _ _ h57 (ninc n55 (ninc nd_dM_dS (ninc nd_dM_dL (ninc nd_dM_dR (ninc nd_dM_dT (ninc nd_dM_dZ (ninc nd_dM_dI (ninc nd_dM_dH (ninc nd_dM_dN (ninc n322 (ninc n321 (ninc n320 (ninc n319 nin0)))))))))))))
            have n324 : dF ≠ mo := hne k_dF k_mo (Nat.ne_of_beq_eq_false rfl)
            have h323 : f3 dF = some (.inl (cI G, 61, .inl (nf sa))) := by rw [ef3, va_up_ne _ _ n324]; exact k_dF
            have n326 : dF ≠ dQ := hneL k_dF k_dQ (Nat.ne_of_beq_eq_false rfl)
            have h325 : f33 dF = some (.inl (cI G, 61, .inl (nf sa))) := by rw [e34, va_up_ne _ _ n326]; exact h323
            have n328 : dF ≠ dS := hneL k_dF k_dS (Nat.ne_of_beq_eq_false rfl)
            have h327 : f41 dF = some (.inl (cI G, 61, .inl (nf sa))) := by rw [ef41, va_up_ne _ _ n328]; exact h325
            have n330 : dF ≠ dR := hneL k_dF k_dR (Nat.ne_of_beq_eq_false rfl)
            have h329 : f49 dF = some (.inl (cI G, 61, .inl (nf sa))) := by rw [ef49, va_up_ne _ _ n330]; exact h327
            have n332 : dF ≠ dO := hneL k_dF k_dO (Nat.ne_of_beq_eq_false rfl)
            have n333 : dF ≠ dU := hneL k_dF k_dU (Nat.ne_of_beq_eq_false rfl)
            have n334 : dF ≠ dJ := hneL k_dF k_dJ (Nat.ne_of_beq_eq_false rfl)
            have n335 : dF ≠ dK := hneL k_dF k_dK (Nat.ne_of_beq_eq_false rfl)
            have n336 : dF ≠ dN := hneL k_dF k_dN (Nat.ne_of_beq_eq_false rfl)
            have n337 : dF ≠ dH := hneL k_dF k_dH (Nat.ne_of_beq_eq_false rfl)
            have n338 : dF ≠ dI := hneL k_dF k_dI (Nat.ne_of_beq_eq_false rfl)
            have n339 : dF ≠ dZ := hneL k_dF k_dZ (Nat.ne_of_beq_eq_false rfl)
            have n340 : dF ≠ dT := hneL k_dF k_dT (Nat.ne_of_beq_eq_false rfl)
            have n341 : dF ≠ dL := hneL k_dF k_dL (Nat.ne_of_beq_eq_false rfl)
            have h331 : f136 dF = some (.inl (cI G, 61, .inl (nf sa))) := (hEq.k k289) _ _ h329 (ninc n326 (ninc n328 (ninc n341 (ninc n330 (ninc n340 (ninc n339 (ninc n338 (ninc n337 (ninc n336 (ninc n335 (ninc n334 (ninc n333 (ninc n332 nin0)))))))))))))
            have n343 : dP ≠ mo := hne k_dP k_mo (Nat.ne_of_beq_eq_false rfl)
            have h342 : f3 dP = some (.inl (cI G, 240, .inl (nf pk))) := by rw [ef3, va_up_ne _ _ n343]; exact k_dP
            have n345 : dP ≠ dQ := hneL k_dP k_dQ (Nat.ne_of_beq_eq_false rfl)
            have h344 : f33 dP = some (.inl (cI G, 240, .inl (nf pk))) := by rw [e34, va_up_ne _ _ n345]; exact h342
            have n347 : dP ≠ dS := hneL k_dP k_dS (Nat.ne_of_beq_eq_false rfl)
            have h346 : f41 dP = some (.inl (cI G, 240, .inl (nf pk))) := by rw [ef41, va_up_ne _ _ n347]; exact h344
            have n349 : dP ≠ dR := hneL k_dP k_dR (Nat.ne_of_beq_eq_false rfl)
            have h348 : f49 dP = some (.inl (cI G, 240, .inl (nf pk))) := by rw [ef49, va_up_ne _ _ n349]; exact h346
            have n351 : dP ≠ dO := hneL k_dP k_dO (Nat.ne_of_beq_eq_false rfl)
            have n352 : dP ≠ dU := hneL k_dP k_dU (Nat.ne_of_beq_eq_false rfl)
            have n353 : dP ≠ dJ := hneL k_dP k_dJ (Nat.ne_of_beq_eq_false rfl)
            have n354 : dP ≠ dK := hneL k_dP k_dK (Nat.ne_of_beq_eq_false rfl)
            have n355 : dP ≠ dN := hneL k_dP k_dN (Nat.ne_of_beq_eq_false rfl)
            have n356 : dP ≠ dH := hneL k_dP k_dH (Nat.ne_of_beq_eq_false rfl)
            have n357 : dP ≠ dI := hneL k_dP k_dI (Nat.ne_of_beq_eq_false rfl)
            have n358 : dP ≠ dZ := hneL k_dP k_dZ (Nat.ne_of_beq_eq_false rfl)
            have n359 : dP ≠ dT := hneL k_dP k_dT (Nat.ne_of_beq_eq_false rfl)
            have n360 : dP ≠ dL := hneL k_dP k_dL (Nat.ne_of_beq_eq_false rfl)
            have h350 : f136 dP = some (.inl (cI G, 240, .inl (nf pk))) := (hEq.k k289) _ _ h348 (ninc n345 (ninc n347 (ninc n360 (ninc n349 (ninc n359 (ninc n358 (ninc n357 (ninc n356 (ninc n355 (ninc n354 (ninc n353 (ninc n352 (ninc n351 nin0)))))))))))))
            have n362 : dE ≠ mo := hne k_dE k_mo (Nat.ne_of_beq_eq_false rfl)
            have h361 : f3 dE = some (.inl (cZ G, 240, .inl gh)) := by rw [ef3, va_up_ne _ _ n362]; exact k_dE
            have n364 : dE ≠ dQ := hneL k_dE k_dQ (Nat.ne_of_beq_eq_false rfl)
            have h363 : f33 dE = some (.inl (cZ G, 240, .inl gh)) := by rw [e34, va_up_ne _ _ n364]; exact h361
            have n366 : dE ≠ dS := hneL k_dE k_dS (Nat.ne_of_beq_eq_false rfl)
            have h365 : f41 dE = some (.inl (cZ G, 240, .inl gh)) := by rw [ef41, va_up_ne _ _ n366]; exact h363
            have n368 : dE ≠ dR := hneL k_dE k_dR (Nat.ne_of_beq_eq_false rfl)
            have h367 : f49 dE = some (.inl (cZ G, 240, .inl gh)) := by rw [ef49, va_up_ne _ _ n368]; exact h365
            have n370 : dE ≠ dO := hneL k_dE k_dO (Nat.ne_of_beq_eq_false rfl)
            have n371 : dE ≠ dU := hneL k_dE k_dU (Nat.ne_of_beq_eq_false rfl)
            have n372 : dE ≠ dJ := hneL k_dE k_dJ (Nat.ne_of_beq_eq_false rfl)
            have n373 : dE ≠ dK := hneL k_dE k_dK (Nat.ne_of_beq_eq_false rfl)
            have n374 : dE ≠ dN := hneL k_dE k_dN (Nat.ne_of_beq_eq_false rfl)
            have n375 : dE ≠ dH := hneL k_dE k_dH (Nat.ne_of_beq_eq_false rfl)
            have n376 : dE ≠ dI := hneL k_dE k_dI (Nat.ne_of_beq_eq_false rfl)
            have n377 : dE ≠ dZ := hneL k_dE k_dZ (Nat.ne_of_beq_eq_false rfl)
            have n378 : dE ≠ dT := hneL k_dE k_dT (Nat.ne_of_beq_eq_false rfl)
            have n379 : dE ≠ dL := hneL k_dE k_dL (Nat.ne_of_beq_eq_false rfl)
            have h369 : f136 dE = some (.inl (cZ G, 240, .inl gh)) := (hEq.k k289) _ _ h367 (ninc n364 (ninc n366 (ninc n379 (ninc n368 (ninc n378 (ninc n377 (ninc n376 (ninc n375 (ninc n374 (ninc n373 (ninc n372 (ninc n371 (ninc n370 nin0)))))))))))))
            have n381 : dX ≠ mo := hne k_dX k_mo (Nat.ne_of_beq_eq_false rfl)
            have h380 : f3 dX = some (.inl (cI G, 3, .inl (nf fl))) := by rw [ef3, va_up_ne _ _ n381]; exact k_dX
            have n383 : dX ≠ dQ := hneL k_dX k_dQ (Nat.ne_of_beq_eq_false rfl)
            have h382 : f33 dX = some (.inl (cI G, 3, .inl (nf fl))) := by rw [e34, va_up_ne _ _ n383]; exact h380
            have n385 : dX ≠ dS := hneL k_dX k_dS (Nat.ne_of_beq_eq_false rfl)
            have h384 : f41 dX = some (.inl (cI G, 3, .inl (nf fl))) := by rw [ef41, va_up_ne _ _ n385]; exact h382
            have n387 : dX ≠ dR := hneL k_dX k_dR (Nat.ne_of_beq_eq_false rfl)
            have h386 : f49 dX = some (.inl (cI G, 3, .inl (nf fl))) := by rw [ef49, va_up_ne _ _ n387]; exact h384
            have n389 : dX ≠ dO := hneL k_dX k_dO (Nat.ne_of_beq_eq_false rfl)
            have n390 : dX ≠ dU := hneL k_dX k_dU (Nat.ne_of_beq_eq_false rfl)
            have n391 : dX ≠ dJ := hneL k_dX k_dJ (Nat.ne_of_beq_eq_false rfl)
            have n392 : dX ≠ dK := hneL k_dX k_dK (Nat.ne_of_beq_eq_false rfl)
            have n393 : dX ≠ dN := hneL k_dX k_dN (Nat.ne_of_beq_eq_false rfl)
            have n394 : dX ≠ dH := hneL k_dX k_dH (Nat.ne_of_beq_eq_false rfl)
            have n395 : dX ≠ dI := hneL k_dX k_dI (Nat.ne_of_beq_eq_false rfl)
            have n396 : dX ≠ dZ := hneL k_dX k_dZ (Nat.ne_of_beq_eq_false rfl)
            have n397 : dX ≠ dT := hneL k_dX k_dT (Nat.ne_of_beq_eq_false rfl)
            have n398 : dX ≠ dL := hneL k_dX k_dL (Nat.ne_of_beq_eq_false rfl)
            have h388 : f136 dX = some (.inl (cI G, 3, .inl (nf fl))) := (hEq.k k289) _ _ h386 (ninc n383 (ninc n385 (ninc n398 (ninc n387 (ninc n397 (ninc n396 (ninc n395 (ninc n394 (ninc n393 (ninc n392 (ninc n391 (ninc n390 (ninc n389 nin0)))))))))))))
            have n400 : dY ≠ mo := hne k_dY k_mo (Nat.ne_of_beq_eq_false rfl)
            have h399 : f3 dY = some (.inl (cI G, 3, .inl gl)) := by rw [ef3, va_up_ne _ _ n400]; exact k_dY
            have n402 : dY ≠ dQ := hneL k_dY k_dQ (Nat.ne_of_beq_eq_false rfl)
            have h401 : f33 dY = some (.inl (cI G, 3, .inl gl)) := by rw [e34, va_up_ne _ _ n402]; exact h399
            have n404 : dY ≠ dS := hneL k_dY k_dS (Nat.ne_of_beq_eq_false rfl)
            have h403 : f41 dY = some (.inl (cI G, 3, .inl gl)) := by rw [ef41, va_up_ne _ _ n404]; exact h401
            have n406 : dY ≠ dR := hneL k_dY k_dR (Nat.ne_of_beq_eq_false rfl)
            have h405 : f49 dY = some (.inl (cI G, 3, .inl gl)) := by rw [ef49, va_up_ne _ _ n406]; exact h403
            have n408 : dY ≠ dO := hneL k_dY k_dO (Nat.ne_of_beq_eq_false rfl)
            have n409 : dY ≠ dU := hneL k_dY k_dU (Nat.ne_of_beq_eq_false rfl)
            have n410 : dY ≠ dJ := hneL k_dY k_dJ (Nat.ne_of_beq_eq_false rfl)
            have n411 : dY ≠ dK := hneL k_dY k_dK (Nat.ne_of_beq_eq_false rfl)
            have n412 : dY ≠ dN := hneL k_dY k_dN (Nat.ne_of_beq_eq_false rfl)
            have n413 : dY ≠ dH := hneL k_dY k_dH (Nat.ne_of_beq_eq_false rfl)
            have n414 : dY ≠ dI := hneL k_dY k_dI (Nat.ne_of_beq_eq_false rfl)
            have n415 : dY ≠ dZ := hneL k_dY k_dZ (Nat.ne_of_beq_eq_false rfl)
            have n416 : dY ≠ dT := hneL k_dY k_dT (Nat.ne_of_beq_eq_false rfl)
            have n417 : dY ≠ dL := hneL k_dY k_dL (Nat.ne_of_beq_eq_false rfl)
            have h407 : f136 dY = some (.inl (cI G, 3, .inl gl)) := (hEq.k k289) _ _ h405 (ninc n402 (ninc n404 (ninc n417 (ninc n406 (ninc n416 (ninc n415 (ninc n414 (ninc n413 (ninc n412 (ninc n411 (ninc n410 (ninc n409 (ninc n408 nin0)))))))))))))
            have n419 : dG ≠ mo := hne k_dG k_mo (Nat.ne_of_beq_eq_false rfl)
            have h418 : f3 dG = some (.inl (cI G, 60, .inl (nf gv))) := by rw [ef3, va_up_ne _ _ n419]; exact k_dG
            have n421 : dG ≠ dQ := hneL k_dG k_dQ (Nat.ne_of_beq_eq_false rfl)
            have h420 : f33 dG = some (.inl (cI G, 60, .inl (nf gv))) := by rw [e34, va_up_ne _ _ n421]; exact h418
            have n423 : dG ≠ dS := hneL k_dG k_dS (Nat.ne_of_beq_eq_false rfl)
            have h422 : f41 dG = some (.inl (cI G, 60, .inl (nf gv))) := by rw [ef41, va_up_ne _ _ n423]; exact h420
            have n425 : dG ≠ dR := hneL k_dG k_dR (Nat.ne_of_beq_eq_false rfl)
            have h424 : f49 dG = some (.inl (cI G, 60, .inl (nf gv))) := by rw [ef49, va_up_ne _ _ n425]; exact h422
            have n427 : dG ≠ dO := hneL k_dG k_dO (Nat.ne_of_beq_eq_false rfl)
            have n428 : dG ≠ dU := hneL k_dG k_dU (Nat.ne_of_beq_eq_false rfl)
            have n429 : dG ≠ dJ := hneL k_dG k_dJ (Nat.ne_of_beq_eq_false rfl)
            have n430 : dG ≠ dK := hneL k_dG k_dK (Nat.ne_of_beq_eq_false rfl)
            have n431 : dG ≠ dN := hneL k_dG k_dN (Nat.ne_of_beq_eq_false rfl)
            have n432 : dG ≠ dH := hneL k_dG k_dH (Nat.ne_of_beq_eq_false rfl)
            have n433 : dG ≠ dI := hneL k_dG k_dI (Nat.ne_of_beq_eq_false rfl)
            have n434 : dG ≠ dZ := hneL k_dG k_dZ (Nat.ne_of_beq_eq_false rfl)
            have n435 : dG ≠ dT := hneL k_dG k_dT (Nat.ne_of_beq_eq_false rfl)
            have n436 : dG ≠ dL := hneL k_dG k_dL (Nat.ne_of_beq_eq_false rfl)
            have h426 : f136 dG = some (.inl (cI G, 60, .inl (nf gv))) := (hEq.k k289) _ _ h424 (ninc n421 (ninc n423 (ninc n436 (ninc n425 (ninc n435 (ninc n434 (ninc n433 (ninc n432 (ninc n431 (ninc n430 (ninc n429 (ninc n428 (ninc n427 nin0)))))))))))))
            exact hp_iret (v := (gL_n287 (0 : Int32).toNatClampNeg)) B0 hw hS hr ⟨Nat.le_of_ble_eq_true rfl, Nat.le_of_ble_eq_true rfl⟩ dX5_open_98 (⟨⟨_, rfl⟩, ⟨_, ⟨h290, hND, ⟨_, _, _, _, _, _, _, _, _, _, _, _, _, k_dQ_n287, k_dS_n287, k_dL_n287, k_dR_n287, k_dT_n287, k_dZ_n287, k_dI_n287, k_dH_n287, k_dN_n287, k_dK_n287, k_dJ_n287, k_dU_n287, k_dO_n287, hHd9_n287, (hMn.mono hMn9_n287 (by omega))⟩, h296, h307, h318, h331, h350, h369, h388, h407, h426, hSA, hB9, hfl9⟩⟩, ((show hEq [mo, dW, dA, dQ, dM, dS, dL, dR, dT, dZ, dI, dH, dN, dK, dJ, dU, dO, dF, dP, dE, dX, dY, dG] f f3 from (by rw [ef3]; exact hEq.up List.mem_cons_self)).tr ((show hEq [mo, dW, dA, dQ, dM, dS, dL, dR, dT, dZ, dI, dH, dN, dK, dJ, dU, dO, dF, dP, dE, dX, dY, dG] f3 f33 from (by rw [e34]; exact hEq.up (List.mem_cons_of_mem _ (List.mem_cons_of_mem _ (List.mem_cons_of_mem _ List.mem_cons_self))))).tr ((show hEq [mo, dW, dA, dQ, dM, dS, dL, dR, dT, dZ, dI, dH, dN, dK, dJ, dU, dO, dF, dP, dE, dX, dY, dG] f33 f41 from (by rw [ef41]; exact hEq.up (List.mem_cons_of_mem _ (List.mem_cons_of_mem _ (List.mem_cons_of_mem _ (List.mem_cons_of_mem _ (List.mem_cons_of_mem _ List.mem_cons_self))))))).tr ((show hEq [mo, dW, dA, dQ, dM, dS, dL, dR, dT, dZ, dI, dH, dN, dK, dJ, dU, dO, dF, dP, dE, dX, dY, dG] f41 f49 from (by rw [ef49]; exact hEq.up (List.mem_cons_of_mem _ (List.mem_cons_of_mem _ (List.mem_cons_of_mem _ (List.mem_cons_of_mem _ (List.mem_cons_of_mem _ (List.mem_cons_of_mem _ (List.mem_cons_of_mem _ List.mem_cons_self))))))))).tr (show hEq [mo, dW, dA, dQ, dM, dS, dL, dR, dT, dZ, dI, dH, dN, dK, dJ, dU, dO, dF, dP, dE, dX, dY, dG] f49 f136 from (hEq.mono k289 sub13))))))⟩)
      · refine lv_iconst (v := 2) hx hb dX5_open_21 (by decide) ?_
        refine lv_goto (tgt := 26) hx hb dX5_open_22 (by decide) ?_
        refine hp_put (fs1 := [.int 2, .ref dW, .ref dA, .ref dQ, .ref dM, .ref dS, .ref dL, .ref dR, .ref dT, .ref dZ, .ref dI, .ref dH, .ref dN, .ref dK, .ref dJ, .ref dU, .ref dO, .int (nI n), .int (nI a), .ref dF, .ref dP, .ref dE, .ref dX, .ref dY, .int (nI x), .int (nI cg), .ref dG]) (ty := .int) B0 hw hS 5 rfl in_X5 tyX5 tyX5_ok nmX5 k_mo 0 (by decide) qF_X5_77 rfl (by decide +kernel) rfl rfl (Nat.le_of_ble_eq_true rfl) rfl dX5_open_26 (fun H locs f437 ef437 hw hS => ?_)
        have h438 : f437 mo = some (.inr (5, [.int 2, .ref dW, .ref dA, .ref dQ, .ref dM, .ref dS, .ref dL, .ref dR, .ref dT, .ref dZ, .ref dI, .ref dH, .ref dN, .ref dK, .ref dJ, .ref dU, .ref dO, .int (nI n), .int (nI a), .ref dF, .ref dP, .ref dE, .ref dX, .ref dY, .int (nI x), .int (nI cg), .ref dG])) := by rw [ef437, va_up_self]
        refine lv_aload_n hx hb dX5_open_29 rfl (lv_at hl9 0 rfl) ?_
        refine hp_get B0 hw 5 rfl in_X5 h438 0 (by decide) qF_X5_77 rfl dX5_open_30 ?_
        refine lv_if_le (tgt := 38) hx hb dX5_open_33 (by decide) (fun c9 => absurd c9 (by decide)) (fun _ => ?_)
        refine lv_iconst (v := 0) hx hb dX5_open_36 (by decide) ?_
        have n440 : dQ ≠ mo := hne k_dQ k_mo (Nat.ne_of_beq_eq_false rfl)
        have h439 : f437 dQ = some (.inl (cI G, 12, .inl gQ)) := by rw [ef437, va_up_ne _ _ n440]; exact k_dQ
        have n442 : dS ≠ mo := hne k_dS k_mo (Nat.ne_of_beq_eq_false rfl)
        have h441 : f437 dS = some (.inl (cI G, 2, .inl gS)) := by rw [ef437, va_up_ne _ _ n442]; exact k_dS
        have n444 : dL ≠ mo := hne k_dL k_mo (Nat.ne_of_beq_eq_false rfl)
        have h443 : f437 dL = some (.inl (cI G, 2, .inl gL)) := by rw [ef437, va_up_ne _ _ n444]; exact k_dL
        have n446 : dR ≠ mo := hne k_dR k_mo (Nat.ne_of_beq_eq_false rfl)
        have h445 : f437 dR = some (.inl (cI G, 2, .inl gR)) := by rw [ef437, va_up_ne _ _ n446]; exact k_dR
        have n448 : dT ≠ mo := hne k_dT k_mo (Nat.ne_of_beq_eq_false rfl)
        have h447 : f437 dT = some (.inl (cI G, 2, .inl gT)) := by rw [ef437, va_up_ne _ _ n448]; exact k_dT
        have n450 : dZ ≠ mo := hne k_dZ k_mo (Nat.ne_of_beq_eq_false rfl)
        have h449 : f437 dZ = some (.inl (cZ G, 2, .inl gZ)) := by rw [ef437, va_up_ne _ _ n450]; exact k_dZ
        have n452 : dI ≠ mo := hne k_dI k_mo (Nat.ne_of_beq_eq_false rfl)
        have h451 : f437 dI = some (.inl (cI G, 2, .inl gI)) := by rw [ef437, va_up_ne _ _ n452]; exact k_dI
        have n454 : dH ≠ mo := hne k_dH k_mo (Nat.ne_of_beq_eq_false rfl)
        have h453 : f437 dH = some (.inl (cI G, 2, .inl gH)) := by rw [ef437, va_up_ne _ _ n454]; exact k_dH
        have n456 : dN ≠ mo := hne k_dN k_mo (Nat.ne_of_beq_eq_false rfl)
        have h455 : f437 dN = some (.inl (cI G, 2, .inl gN)) := by rw [ef437, va_up_ne _ _ n456]; exact k_dN
        have n458 : dK ≠ mo := hne k_dK k_mo (Nat.ne_of_beq_eq_false rfl)
        have h457 : f437 dK = some (.inl (cI G, 2048, .inl gK)) := by rw [ef437, va_up_ne _ _ n458]; exact k_dK
        have n460 : dJ ≠ mo := hne k_dJ k_mo (Nat.ne_of_beq_eq_false rfl)
        have h459 : f437 dJ = some (.inl (cI G, 2048, .inl gJ)) := by rw [ef437, va_up_ne _ _ n460]; exact k_dJ
        have n462 : dU ≠ mo := hne k_dU k_mo (Nat.ne_of_beq_eq_false rfl)
        have h461 : f437 dU = some (.inl (cI G, 2048, .inl gU)) := by rw [ef437, va_up_ne _ _ n462]; exact k_dU
        have n464 : dO ≠ mo := hne k_dO k_mo (Nat.ne_of_beq_eq_false rfl)
        have h463 : f437 dO = some (.inl (cI G, 2048, .inl gO)) := by rw [ef437, va_up_ne _ _ n464]; exact k_dO
        have n466 : dW ≠ mo := hne k_dW k_mo (Nat.ne_of_beq_eq_false rfl)
        have h465 : f437 dW = some (.inl (cI G, 12, .inl (jn gw0 gw1))) := by rw [ef437, va_up_ne _ _ n466]; exact k_dW
        have n468 : dA ≠ mo := hne k_dA k_mo (Nat.ne_of_beq_eq_false rfl)
        have h467 : f437 dA = some (.inl (cI G, 12, .inl (jn ga0 ga1))) := by rw [ef437, va_up_ne _ _ n468]; exact k_dA
        have n470 : dM ≠ mo := hne k_dM k_mo (Nat.ne_of_beq_eq_false rfl)
        have h469 : f437 dM = some (.inl (cI G, 2, .inl (mA2 mg0 mg1))) := by rw [ef437, va_up_ne _ _ n470]; exact k_dM
        have n472 : dF ≠ mo := hne k_dF k_mo (Nat.ne_of_beq_eq_false rfl)
        have h471 : f437 dF = some (.inl (cI G, 61, .inl (nf sa))) := by rw [ef437, va_up_ne _ _ n472]; exact k_dF
        have n474 : dP ≠ mo := hne k_dP k_mo (Nat.ne_of_beq_eq_false rfl)
        have h473 : f437 dP = some (.inl (cI G, 240, .inl (nf pk))) := by rw [ef437, va_up_ne _ _ n474]; exact k_dP
        have n476 : dE ≠ mo := hne k_dE k_mo (Nat.ne_of_beq_eq_false rfl)
        have h475 : f437 dE = some (.inl (cZ G, 240, .inl gh)) := by rw [ef437, va_up_ne _ _ n476]; exact k_dE
        have n478 : dX ≠ mo := hne k_dX k_mo (Nat.ne_of_beq_eq_false rfl)
        have h477 : f437 dX = some (.inl (cI G, 3, .inl (nf fl))) := by rw [ef437, va_up_ne _ _ n478]; exact k_dX
        have n480 : dY ≠ mo := hne k_dY k_mo (Nat.ne_of_beq_eq_false rfl)
        have h479 : f437 dY = some (.inl (cI G, 3, .inl gl)) := by rw [ef437, va_up_ne _ _ n480]; exact k_dY
        have n482 : dG ≠ mo := hne k_dG k_mo (Nat.ne_of_beq_eq_false rfl)
        have h481 : f437 dG = some (.inl (cI G, 60, .inl (nf gv))) := by rw [ef437, va_up_ne _ _ n482]; exact k_dG
        exact hp_iret (v := 0) B0 hw hS hr ⟨Nat.le_of_ble_eq_true rfl, Nat.le_of_ble_eq_true rfl⟩ dX5_open_37 (⟨⟨_, rfl⟩, ⟨_, ⟨h438, hND, ⟨_, _, _, _, _, _, _, _, _, _, _, _, _, h439, h441, h443, h445, h447, h449, h451, h453, h455, h457, h459, h461, h463, hHd9, (hMn.mono hMn9 (by omega))⟩, h465, h467, h469, h471, h473, h475, h477, h479, h481, hSA, hB9, hfl9⟩⟩, (show hEq [mo, dW, dA, dQ, dM, dS, dL, dR, dT, dZ, dI, dH, dN, dK, dJ, dU, dO, dF, dP, dE, dX, dY, dG] f f437 from (by rw [ef437]; exact hEq.up List.mem_cons_self))⟩)
    · subst ev9
      subst b9
      refine W.eq (g2 := F0 m 5 ls [.int 1, .ref mo]) rfl ?_
      refine lv_if_ne (tgt := 12) hx hb dX5_open_5 (by decide) (fun _ => ?_) (fun c9 => absurd c9 (by decide))
      refine lv_aload_n hx hb dX5_open_12 rfl (lv_at hl9 0 rfl) ?_
      refine hp_get B0 hw 5 rfl in_X5 k_mo 5 (by decide) qF_X5_22 rfl dX5_open_13 ?_
      refine lv_iload_n hx hb dX5_open_16 rfl (lv_at hl9 1 rfl) ?_
      refine hp_iald B0 hw k_dS (by unfold vp_in; decide) dX5_open_17 ?_
      refine lv_if_eq (tgt := 25) hx hb dX5_open_18 (by decide) (fun c483 => ?_) (fun c483 => ?_)
      · refine lv_iconst (v := 0) hx hb dX5_open_25 (by decide) ?_
        refine hp_put (fs1 := [.int 0, .ref dW, .ref dA, .ref dQ, .ref dM, .ref dS, .ref dL, .ref dR, .ref dT, .ref dZ, .ref dI, .ref dH, .ref dN, .ref dK, .ref dJ, .ref dU, .ref dO, .int (nI n), .int (nI a), .ref dF, .ref dP, .ref dE, .ref dX, .ref dY, .int (nI x), .int (nI cg), .ref dG]) (ty := .int) B0 hw hS 5 rfl in_X5 tyX5 tyX5_ok nmX5 k_mo 0 (by decide) qF_X5_77 rfl (by decide +kernel) rfl rfl (Nat.le_of_ble_eq_true rfl) rfl dX5_open_26 (fun H locs f484 ef484 hw hS => ?_)
        have h485 : f484 mo = some (.inr (5, [.int 0, .ref dW, .ref dA, .ref dQ, .ref dM, .ref dS, .ref dL, .ref dR, .ref dT, .ref dZ, .ref dI, .ref dH, .ref dN, .ref dK, .ref dJ, .ref dU, .ref dO, .int (nI n), .int (nI a), .ref dF, .ref dP, .ref dE, .ref dX, .ref dY, .int (nI x), .int (nI cg), .ref dG])) := by rw [ef484, va_up_self]
        refine lv_aload_n hx hb dX5_open_29 rfl (lv_at hl9 0 rfl) ?_
        refine hp_get B0 hw 5 rfl in_X5 h485 0 (by decide) qF_X5_77 rfl dX5_open_30 ?_
        refine lv_if_le (tgt := 38) hx hb dX5_open_33 (by decide) (fun _ => ?_) (fun c9 => absurd (by decide) c9)
        refine lv_bipush (v := 6) hx hb dX5_open_38 (by decide) ?_
        refine lv_iload_n hx hb dX5_open_40 rfl (lv_at hl9 1 rfl) ?_
        refine lv_imul hx hb dX5_open_41 ?_
        refine hp_c (v := 6) (by decide) ?_
        refine lv_istore_n (lv' := [(2, .int 6), (0, .ref mo), (1, .int 1)]) hx hb dX5_open_42 rfl hl9 (by decide) rfl (fun ls hl9 => ?_)
        refine lv_iload_n hx hb dX5_open_43 rfl (lv_at hl9 0 rfl) ?_
        refine lv_bipush (v := 6) hx hb dX5_open_44 (by decide) ?_
        refine lv_iload_n hx hb dX5_open_46 rfl (lv_at hl9 2 rfl) ?_
        refine lv_imul hx hb dX5_open_47 ?_
        refine hp_c (v := 6) (by decide) ?_
        refine lv_bipush (v := 6) hx hb dX5_open_48 (by decide) ?_
        refine lv_iadd hx hb dX5_open_50 ?_
        refine hp_c (v := 12) (by decide) ?_
        refine lv_icmp_ge (tgt := 72) hx hb dX5_open_51 (by decide) (fun c9 => absurd c9 (by decide)) (fun _ => ?_)
        refine lv_aload_n hx hb dX5_open_54 rfl (lv_at hl9 1 rfl) ?_
        refine hp_get B0 hw 5 rfl in_X5 h485 3 (by decide) qF_X5_16 rfl dX5_open_55 ?_
        refine lv_iload_n hx hb dX5_open_58 rfl (lv_at hl9 0 rfl) ?_
        refine lv_aload_n hx hb dX5_open_59 rfl (lv_at hl9 1 rfl) ?_
        refine hp_get B0 hw 5 rfl in_X5 h485 1 (by decide) qF_X5_9 rfl dX5_open_60 ?_
        refine lv_iload_n hx hb dX5_open_63 rfl (lv_at hl9 0 rfl) ?_
        have n487 : dW ≠ mo := hne k_dW k_mo (Nat.ne_of_beq_eq_false rfl)
        have h486 : f484 dW = some (.inl (cI G, 12, .inl (jn gw0 gw1))) := by rw [ef484, va_up_ne _ _ n487]; exact k_dW
        refine hp_iald B0 hw h486 (by unfold vp_in; decide) dX5_open_64 ?_
        have n489 : dQ ≠ mo := hne k_dQ k_mo (Nat.ne_of_beq_eq_false rfl)
        have h488 : f484 dQ = some (.inl (cI G, 12, .inl gQ)) := by rw [ef484, va_up_ne _ _ n489]; exact k_dQ
        refine hp_iast B0 hw hS h488 (by unfold vp_in; decide) dX5_open_65 (fun H locs f490 ef490 hw hS => ?_)
        have h491 : f490 dQ = some (.inl (cI G, 12, .inl (upd gQ (6 : Int32).toNatClampNeg ((jn gw0 gw1) (6 : Int32).toNatClampNeg)))) := by rw [ef490, va_up_self]
        refine lv_iinc (v := 7) (lv' := [(2, .int 7), (0, .ref mo), (1, .int 1)]) hx hb dX5_open_66 hl9 (k := 0) rfl (by decide) (by decide) rfl (fun ls hl9 => ?_)
        refine lv_goto (tgt := 43) hx hb dX5_open_69 (by decide) ?_
        refine lv_iload_n hx hb dX5_open_43 rfl (lv_at hl9 0 rfl) ?_
        refine lv_bipush (v := 6) hx hb dX5_open_44 (by decide) ?_
        refine lv_iload_n hx hb dX5_open_46 rfl (lv_at hl9 2 rfl) ?_
        refine lv_imul hx hb dX5_open_47 ?_
        refine hp_c (v := 6) (by decide) ?_
        refine lv_bipush (v := 6) hx hb dX5_open_48 (by decide) ?_
        refine lv_iadd hx hb dX5_open_50 ?_
        refine hp_c (v := 12) (by decide) ?_
        refine lv_icmp_ge (tgt := 72) hx hb dX5_open_51 (by decide) (fun c9 => absurd c9 (by decide)) (fun _ => ?_)
        refine lv_aload_n hx hb dX5_open_54 rfl (lv_at hl9 1 rfl) ?_
        have h492 : f490 mo = some (.inr (5, [.int 0, .ref dW, .ref dA, .ref dQ, .ref dM, .ref dS, .ref dL, .ref dR, .ref dT, .ref dZ, .ref dI, .ref dH, .ref dN, .ref dK, .ref dJ, .ref dU, .ref dO, .int (nI n), .int (nI a), .ref dF, .ref dP, .ref dE, .ref dX, .ref dY, .int (nI x), .int (nI cg), .ref dG])) := by rw [ef490, va_up_ne _ _ (Ne.symm n489)]; exact h485
        refine hp_get B0 hw 5 rfl in_X5 h492 3 (by decide) qF_X5_16 rfl dX5_open_55 ?_
        refine lv_iload_n hx hb dX5_open_58 rfl (lv_at hl9 0 rfl) ?_
        refine lv_aload_n hx hb dX5_open_59 rfl (lv_at hl9 1 rfl) ?_
        refine hp_get B0 hw 5 rfl in_X5 h492 1 (by decide) qF_X5_9 rfl dX5_open_60 ?_
        refine lv_iload_n hx hb dX5_open_63 rfl (lv_at hl9 0 rfl) ?_
        have h493 : f490 dW = some (.inl (cI G, 12, .inl (jn gw0 gw1))) := by rw [ef490, va_up_ne _ _ nd_dW_dQ]; exact h486
        refine hp_iald B0 hw h493 (by unfold vp_in; decide) dX5_open_64 ?_
        refine hp_iast B0 hw hS h491 (by unfold vp_in; decide) dX5_open_65 (fun H locs f494 ef494 hw hS => ?_)
        have e495 : f494 = va_up f484 dQ (some (.inl (cI G, 12, .inl (upd (upd gQ (6 : Int32).toNatClampNeg ((jn gw0 gw1) (6 : Int32).toNatClampNeg)) (7 : Int32).toNatClampNeg ((jn gw0 gw1) (7 : Int32).toNatClampNeg))))) := by rw [ef494, ef490, bx_uu]
        have h496 : f494 dQ = some (.inl (cI G, 12, .inl (upd (upd gQ (6 : Int32).toNatClampNeg ((jn gw0 gw1) (6 : Int32).toNatClampNeg)) (7 : Int32).toNatClampNeg ((jn gw0 gw1) (7 : Int32).toNatClampNeg)))) := by rw [ef494, va_up_self]
        refine lv_iinc (v := 8) (lv' := [(2, .int 8), (0, .ref mo), (1, .int 1)]) hx hb dX5_open_66 hl9 (k := 0) rfl (by decide) (by decide) rfl (fun ls hl9 => ?_)
        refine lv_goto (tgt := 43) hx hb dX5_open_69 (by decide) ?_
        refine lv_iload_n hx hb dX5_open_43 rfl (lv_at hl9 0 rfl) ?_
        refine lv_bipush (v := 6) hx hb dX5_open_44 (by decide) ?_
        refine lv_iload_n hx hb dX5_open_46 rfl (lv_at hl9 2 rfl) ?_
        refine lv_imul hx hb dX5_open_47 ?_
        refine hp_c (v := 6) (by decide) ?_
        refine lv_bipush (v := 6) hx hb dX5_open_48 (by decide) ?_
        refine lv_iadd hx hb dX5_open_50 ?_
        refine hp_c (v := 12) (by decide) ?_
        refine lv_icmp_ge (tgt := 72) hx hb dX5_open_51 (by decide) (fun c9 => absurd c9 (by decide)) (fun _ => ?_)
        refine lv_aload_n hx hb dX5_open_54 rfl (lv_at hl9 1 rfl) ?_
        have h497 : f494 mo = some (.inr (5, [.int 0, .ref dW, .ref dA, .ref dQ, .ref dM, .ref dS, .ref dL, .ref dR, .ref dT, .ref dZ, .ref dI, .ref dH, .ref dN, .ref dK, .ref dJ, .ref dU, .ref dO, .int (nI n), .int (nI a), .ref dF, .ref dP, .ref dE, .ref dX, .ref dY, .int (nI x), .int (nI cg), .ref dG])) := by rw [e495, va_up_ne _ _ (Ne.symm n489)]; exact h485
        refine hp_get B0 hw 5 rfl in_X5 h497 3 (by decide) qF_X5_16 rfl dX5_open_55 ?_
        refine lv_iload_n hx hb dX5_open_58 rfl (lv_at hl9 0 rfl) ?_
        refine lv_aload_n hx hb dX5_open_59 rfl (lv_at hl9 1 rfl) ?_
        refine hp_get B0 hw 5 rfl in_X5 h497 1 (by decide) qF_X5_9 rfl dX5_open_60 ?_
        refine lv_iload_n hx hb dX5_open_63 rfl (lv_at hl9 0 rfl) ?_
        have h498 : f494 dW = some (.inl (cI G, 12, .inl (jn gw0 gw1))) := by rw [e495, va_up_ne _ _ nd_dW_dQ]; exact h486
        refine hp_iald B0 hw h498 (by unfold vp_in; decide) dX5_open_64 ?_
        refine hp_iast B0 hw hS h496 (by unfold vp_in; decide) dX5_open_65 (fun H locs f499 ef499 hw hS => ?_)
        have e500 : f499 = va_up f484 dQ (some (.inl (cI G, 12, .inl (upd (upd (upd gQ (6 : Int32).toNatClampNeg ((jn gw0 gw1) (6 : Int32).toNatClampNeg)) (7 : Int32).toNatClampNeg ((jn gw0 gw1) (7 : Int32).toNatClampNeg)) (8 : Int32).toNatClampNeg ((jn gw0 gw1) (8 : Int32).toNatClampNeg))))) := by rw [ef499, e495, bx_uu]
        have h501 : f499 dQ = some (.inl (cI G, 12, .inl (upd (upd (upd gQ (6 : Int32).toNatClampNeg ((jn gw0 gw1) (6 : Int32).toNatClampNeg)) (7 : Int32).toNatClampNeg ((jn gw0 gw1) (7 : Int32).toNatClampNeg)) (8 : Int32).toNatClampNeg ((jn gw0 gw1) (8 : Int32).toNatClampNeg)))) := by rw [ef499, va_up_self]
        refine lv_iinc (v := 9) (lv' := [(2, .int 9), (0, .ref mo), (1, .int 1)]) hx hb dX5_open_66 hl9 (k := 0) rfl (by decide) (by decide) rfl (fun ls hl9 => ?_)
        refine lv_goto (tgt := 43) hx hb dX5_open_69 (by decide) ?_
        refine lv_iload_n hx hb dX5_open_43 rfl (lv_at hl9 0 rfl) ?_
        refine lv_bipush (v := 6) hx hb dX5_open_44 (by decide) ?_
        refine lv_iload_n hx hb dX5_open_46 rfl (lv_at hl9 2 rfl) ?_
        refine lv_imul hx hb dX5_open_47 ?_
        refine hp_c (v := 6) (by decide) ?_
        refine lv_bipush (v := 6) hx hb dX5_open_48 (by decide) ?_
        refine lv_iadd hx hb dX5_open_50 ?_
        refine hp_c (v := 12) (by decide) ?_
        refine lv_icmp_ge (tgt := 72) hx hb dX5_open_51 (by decide) (fun c9 => absurd c9 (by decide)) (fun _ => ?_)
        refine lv_aload_n hx hb dX5_open_54 rfl (lv_at hl9 1 rfl) ?_
        have h502 : f499 mo = some (.inr (5, [.int 0, .ref dW, .ref dA, .ref dQ, .ref dM, .ref dS, .ref dL, .ref dR, .ref dT, .ref dZ, .ref dI, .ref dH, .ref dN, .ref dK, .ref dJ, .ref dU, .ref dO, .int (nI n), .int (nI a), .ref dF, .ref dP, .ref dE, .ref dX, .ref dY, .int (nI x), .int (nI cg), .ref dG])) := by rw [e500, va_up_ne _ _ (Ne.symm n489)]; exact h485
        refine hp_get B0 hw 5 rfl in_X5 h502 3 (by decide) qF_X5_16 rfl dX5_open_55 ?_
        refine lv_iload_n hx hb dX5_open_58 rfl (lv_at hl9 0 rfl) ?_
        refine lv_aload_n hx hb dX5_open_59 rfl (lv_at hl9 1 rfl) ?_
        refine hp_get B0 hw 5 rfl in_X5 h502 1 (by decide) qF_X5_9 rfl dX5_open_60 ?_
        refine lv_iload_n hx hb dX5_open_63 rfl (lv_at hl9 0 rfl) ?_
        have h503 : f499 dW = some (.inl (cI G, 12, .inl (jn gw0 gw1))) := by rw [e500, va_up_ne _ _ nd_dW_dQ]; exact h486
        refine hp_iald B0 hw h503 (by unfold vp_in; decide) dX5_open_64 ?_
        refine hp_iast B0 hw hS h501 (by unfold vp_in; decide) dX5_open_65 (fun H locs f504 ef504 hw hS => ?_)
        have e505 : f504 = va_up f484 dQ (some (.inl (cI G, 12, .inl (upd (upd (upd (upd gQ (6 : Int32).toNatClampNeg ((jn gw0 gw1) (6 : Int32).toNatClampNeg)) (7 : Int32).toNatClampNeg ((jn gw0 gw1) (7 : Int32).toNatClampNeg)) (8 : Int32).toNatClampNeg ((jn gw0 gw1) (8 : Int32).toNatClampNeg)) (9 : Int32).toNatClampNeg ((jn gw0 gw1) (9 : Int32).toNatClampNeg))))) := by rw [ef504, e500, bx_uu]
        have h506 : f504 dQ = some (.inl (cI G, 12, .inl (upd (upd (upd (upd gQ (6 : Int32).toNatClampNeg ((jn gw0 gw1) (6 : Int32).toNatClampNeg)) (7 : Int32).toNatClampNeg ((jn gw0 gw1) (7 : Int32).toNatClampNeg)) (8 : Int32).toNatClampNeg ((jn gw0 gw1) (8 : Int32).toNatClampNeg)) (9 : Int32).toNatClampNeg ((jn gw0 gw1) (9 : Int32).toNatClampNeg)))) := by rw [ef504, va_up_self]
        refine lv_iinc (v := 10) (lv' := [(2, .int 10), (0, .ref mo), (1, .int 1)]) hx hb dX5_open_66 hl9 (k := 0) rfl (by decide) (by decide) rfl (fun ls hl9 => ?_)
        refine lv_goto (tgt := 43) hx hb dX5_open_69 (by decide) ?_
        refine lv_iload_n hx hb dX5_open_43 rfl (lv_at hl9 0 rfl) ?_
        refine lv_bipush (v := 6) hx hb dX5_open_44 (by decide) ?_
        refine lv_iload_n hx hb dX5_open_46 rfl (lv_at hl9 2 rfl) ?_
        refine lv_imul hx hb dX5_open_47 ?_
        refine hp_c (v := 6) (by decide) ?_
        refine lv_bipush (v := 6) hx hb dX5_open_48 (by decide) ?_
        refine lv_iadd hx hb dX5_open_50 ?_
        refine hp_c (v := 12) (by decide) ?_
        refine lv_icmp_ge (tgt := 72) hx hb dX5_open_51 (by decide) (fun c9 => absurd c9 (by decide)) (fun _ => ?_)
        refine lv_aload_n hx hb dX5_open_54 rfl (lv_at hl9 1 rfl) ?_
        have h507 : f504 mo = some (.inr (5, [.int 0, .ref dW, .ref dA, .ref dQ, .ref dM, .ref dS, .ref dL, .ref dR, .ref dT, .ref dZ, .ref dI, .ref dH, .ref dN, .ref dK, .ref dJ, .ref dU, .ref dO, .int (nI n), .int (nI a), .ref dF, .ref dP, .ref dE, .ref dX, .ref dY, .int (nI x), .int (nI cg), .ref dG])) := by rw [e505, va_up_ne _ _ (Ne.symm n489)]; exact h485
        refine hp_get B0 hw 5 rfl in_X5 h507 3 (by decide) qF_X5_16 rfl dX5_open_55 ?_
        refine lv_iload_n hx hb dX5_open_58 rfl (lv_at hl9 0 rfl) ?_
        refine lv_aload_n hx hb dX5_open_59 rfl (lv_at hl9 1 rfl) ?_
        refine hp_get B0 hw 5 rfl in_X5 h507 1 (by decide) qF_X5_9 rfl dX5_open_60 ?_
        refine lv_iload_n hx hb dX5_open_63 rfl (lv_at hl9 0 rfl) ?_
        have h508 : f504 dW = some (.inl (cI G, 12, .inl (jn gw0 gw1))) := by rw [e505, va_up_ne _ _ nd_dW_dQ]; exact h486
        refine hp_iald B0 hw h508 (by unfold vp_in; decide) dX5_open_64 ?_
        refine hp_iast B0 hw hS h506 (by unfold vp_in; decide) dX5_open_65 (fun H locs f509 ef509 hw hS => ?_)
        have e510 : f509 = va_up f484 dQ (some (.inl (cI G, 12, .inl (upd (upd (upd (upd (upd gQ (6 : Int32).toNatClampNeg ((jn gw0 gw1) (6 : Int32).toNatClampNeg)) (7 : Int32).toNatClampNeg ((jn gw0 gw1) (7 : Int32).toNatClampNeg)) (8 : Int32).toNatClampNeg ((jn gw0 gw1) (8 : Int32).toNatClampNeg)) (9 : Int32).toNatClampNeg ((jn gw0 gw1) (9 : Int32).toNatClampNeg)) (10 : Int32).toNatClampNeg ((jn gw0 gw1) (10 : Int32).toNatClampNeg))))) := by rw [ef509, e505, bx_uu]
        have h511 : f509 dQ = some (.inl (cI G, 12, .inl (upd (upd (upd (upd (upd gQ (6 : Int32).toNatClampNeg ((jn gw0 gw1) (6 : Int32).toNatClampNeg)) (7 : Int32).toNatClampNeg ((jn gw0 gw1) (7 : Int32).toNatClampNeg)) (8 : Int32).toNatClampNeg ((jn gw0 gw1) (8 : Int32).toNatClampNeg)) (9 : Int32).toNatClampNeg ((jn gw0 gw1) (9 : Int32).toNatClampNeg)) (10 : Int32).toNatClampNeg ((jn gw0 gw1) (10 : Int32).toNatClampNeg)))) := by rw [ef509, va_up_self]
        refine lv_iinc (v := 11) (lv' := [(2, .int 11), (0, .ref mo), (1, .int 1)]) hx hb dX5_open_66 hl9 (k := 0) rfl (by decide) (by decide) rfl (fun ls hl9 => ?_)
        refine lv_goto (tgt := 43) hx hb dX5_open_69 (by decide) ?_
        refine lv_iload_n hx hb dX5_open_43 rfl (lv_at hl9 0 rfl) ?_
        refine lv_bipush (v := 6) hx hb dX5_open_44 (by decide) ?_
        refine lv_iload_n hx hb dX5_open_46 rfl (lv_at hl9 2 rfl) ?_
        refine lv_imul hx hb dX5_open_47 ?_
        refine hp_c (v := 6) (by decide) ?_
        refine lv_bipush (v := 6) hx hb dX5_open_48 (by decide) ?_
        refine lv_iadd hx hb dX5_open_50 ?_
        refine hp_c (v := 12) (by decide) ?_
        refine lv_icmp_ge (tgt := 72) hx hb dX5_open_51 (by decide) (fun c9 => absurd c9 (by decide)) (fun _ => ?_)
        refine lv_aload_n hx hb dX5_open_54 rfl (lv_at hl9 1 rfl) ?_
        have h512 : f509 mo = some (.inr (5, [.int 0, .ref dW, .ref dA, .ref dQ, .ref dM, .ref dS, .ref dL, .ref dR, .ref dT, .ref dZ, .ref dI, .ref dH, .ref dN, .ref dK, .ref dJ, .ref dU, .ref dO, .int (nI n), .int (nI a), .ref dF, .ref dP, .ref dE, .ref dX, .ref dY, .int (nI x), .int (nI cg), .ref dG])) := by rw [e510, va_up_ne _ _ (Ne.symm n489)]; exact h485
        refine hp_get B0 hw 5 rfl in_X5 h512 3 (by decide) qF_X5_16 rfl dX5_open_55 ?_
        refine lv_iload_n hx hb dX5_open_58 rfl (lv_at hl9 0 rfl) ?_
        refine lv_aload_n hx hb dX5_open_59 rfl (lv_at hl9 1 rfl) ?_
        refine hp_get B0 hw 5 rfl in_X5 h512 1 (by decide) qF_X5_9 rfl dX5_open_60 ?_
        refine lv_iload_n hx hb dX5_open_63 rfl (lv_at hl9 0 rfl) ?_
        have h513 : f509 dW = some (.inl (cI G, 12, .inl (jn gw0 gw1))) := by rw [e510, va_up_ne _ _ nd_dW_dQ]; exact h486
        refine hp_iald B0 hw h513 (by unfold vp_in; decide) dX5_open_64 ?_
        refine hp_iast B0 hw hS h511 (by unfold vp_in; decide) dX5_open_65 (fun H locs f514 ef514 hw hS => ?_)
        have e515 : f514 = va_up f484 dQ (some (.inl (cI G, 12, .inl (upd (upd (upd (upd (upd (upd gQ (6 : Int32).toNatClampNeg ((jn gw0 gw1) (6 : Int32).toNatClampNeg)) (7 : Int32).toNatClampNeg ((jn gw0 gw1) (7 : Int32).toNatClampNeg)) (8 : Int32).toNatClampNeg ((jn gw0 gw1) (8 : Int32).toNatClampNeg)) (9 : Int32).toNatClampNeg ((jn gw0 gw1) (9 : Int32).toNatClampNeg)) (10 : Int32).toNatClampNeg ((jn gw0 gw1) (10 : Int32).toNatClampNeg)) (11 : Int32).toNatClampNeg ((jn gw0 gw1) (11 : Int32).toNatClampNeg))))) := by rw [ef514, e510, bx_uu]
        have h516 : f514 dQ = some (.inl (cI G, 12, .inl (upd (upd (upd (upd (upd (upd gQ (6 : Int32).toNatClampNeg ((jn gw0 gw1) (6 : Int32).toNatClampNeg)) (7 : Int32).toNatClampNeg ((jn gw0 gw1) (7 : Int32).toNatClampNeg)) (8 : Int32).toNatClampNeg ((jn gw0 gw1) (8 : Int32).toNatClampNeg)) (9 : Int32).toNatClampNeg ((jn gw0 gw1) (9 : Int32).toNatClampNeg)) (10 : Int32).toNatClampNeg ((jn gw0 gw1) (10 : Int32).toNatClampNeg)) (11 : Int32).toNatClampNeg ((jn gw0 gw1) (11 : Int32).toNatClampNeg)))) := by rw [ef514, va_up_self]
        refine lv_iinc (v := 12) (lv' := [(2, .int 12), (0, .ref mo), (1, .int 1)]) hx hb dX5_open_66 hl9 (k := 0) rfl (by decide) (by decide) rfl (fun ls hl9 => ?_)
        refine lv_goto (tgt := 43) hx hb dX5_open_69 (by decide) ?_
        refine lv_iload_n hx hb dX5_open_43 rfl (lv_at hl9 0 rfl) ?_
        refine lv_bipush (v := 6) hx hb dX5_open_44 (by decide) ?_
        refine lv_iload_n hx hb dX5_open_46 rfl (lv_at hl9 2 rfl) ?_
        refine lv_imul hx hb dX5_open_47 ?_
        refine hp_c (v := 6) (by decide) ?_
        refine lv_bipush (v := 6) hx hb dX5_open_48 (by decide) ?_
        refine lv_iadd hx hb dX5_open_50 ?_
        refine hp_c (v := 12) (by decide) ?_
        refine lv_icmp_ge (tgt := 72) hx hb dX5_open_51 (by decide) (fun _ => ?_) (fun c9 => absurd (by decide) c9)
        refine lv_aload_n hx hb dX5_open_72 rfl (lv_at hl9 1 rfl) ?_
        have h517 : f514 mo = some (.inr (5, [.int 0, .ref dW, .ref dA, .ref dQ, .ref dM, .ref dS, .ref dL, .ref dR, .ref dT, .ref dZ, .ref dI, .ref dH, .ref dN, .ref dK, .ref dJ, .ref dU, .ref dO, .int (nI n), .int (nI a), .ref dF, .ref dP, .ref dE, .ref dX, .ref dY, .int (nI x), .int (nI cg), .ref dG])) := by rw [e515, va_up_ne _ _ (Ne.symm n489)]; exact h485
        refine hp_get B0 hw 5 rfl in_X5 h517 5 (by decide) qF_X5_22 rfl dX5_open_73 ?_
        refine lv_iload_n hx hb dX5_open_76 rfl (lv_at hl9 2 rfl) ?_
        refine lv_iconst (v := 1) hx hb dX5_open_77 (by decide) ?_
        have n519 : dS ≠ mo := hne k_dS k_mo (Nat.ne_of_beq_eq_false rfl)
        have h518 : f484 dS = some (.inl (cI G, 2, .inl gS)) := by rw [ef484, va_up_ne _ _ n519]; exact k_dS
        have n521 : dS ≠ dQ := hneL k_dS k_dQ (Nat.ne_of_beq_eq_false rfl)
        have h520 : f514 dS = some (.inl (cI G, 2, .inl gS)) := by rw [e515, va_up_ne _ _ n521]; exact h518
        refine hp_iast B0 hw hS h520 (by unfold vp_in; decide) dX5_open_78 (fun H locs f522 ef522 hw hS => ?_)
        have h523 : f522 dS = some (.inl (cI G, 2, .inl (upd gS (1 : Int32).toNatClampNeg 1))) := by rw [ef522, va_up_self]
        refine lv_aload_n hx hb dX5_open_79 rfl (lv_at hl9 1 rfl) ?_
        have h524 : f522 mo = some (.inr (5, [.int 0, .ref dW, .ref dA, .ref dQ, .ref dM, .ref dS, .ref dL, .ref dR, .ref dT, .ref dZ, .ref dI, .ref dH, .ref dN, .ref dK, .ref dJ, .ref dU, .ref dO, .int (nI n), .int (nI a), .ref dF, .ref dP, .ref dE, .ref dX, .ref dY, .int (nI x), .int (nI cg), .ref dG])) := by rw [ef522, va_up_ne _ _ (Ne.symm n519)]; exact h517
        refine hp_get B0 hw 5 rfl in_X5 h524 7 (by decide) qF_X5_28 rfl dX5_open_80 ?_
        refine lv_iload_n hx hb dX5_open_83 rfl (lv_at hl9 2 rfl) ?_
        refine lv_iconst (v := 0) hx hb dX5_open_84 (by decide) ?_
        have n526 : dR ≠ mo := hne k_dR k_mo (Nat.ne_of_beq_eq_false rfl)
        have h525 : f484 dR = some (.inl (cI G, 2, .inl gR)) := by rw [ef484, va_up_ne _ _ n526]; exact k_dR
        have n528 : dR ≠ dQ := hneL k_dR k_dQ (Nat.ne_of_beq_eq_false rfl)
        have h527 : f514 dR = some (.inl (cI G, 2, .inl gR)) := by rw [e515, va_up_ne _ _ n528]; exact h525
        have h529 : f522 dR = some (.inl (cI G, 2, .inl gR)) := by rw [ef522, va_up_ne _ _ (Ne.symm nd_dS_dR)]; exact h527
        refine hp_iast B0 hw hS h529 (by unfold vp_in; decide) dX5_open_85 (fun H locs f530 ef530 hw hS => ?_)
        have h531 : f530 dR = some (.inl (cI G, 2, .inl (upd gR (1 : Int32).toNatClampNeg 0))) := by rw [ef530, va_up_self]
        refine lv_aload_n hx hb dX5_open_86 rfl (lv_at hl9 1 rfl) ?_
        refine lv_iload_n hx hb dX5_open_87 rfl (lv_at hl9 2 rfl) ?_
        have h532 : f530 mo = some (.inr (5, [.int 0, .ref dW, .ref dA, .ref dQ, .ref dM, .ref dS, .ref dL, .ref dR, .ref dT, .ref dZ, .ref dI, .ref dH, .ref dN, .ref dK, .ref dJ, .ref dU, .ref dO, .int (nI n), .int (nI a), .ref dF, .ref dP, .ref dE, .ref dX, .ref dY, .int (nI x), .int (nI cg), .ref dG])) := by rw [ef530, va_up_ne _ _ (Ne.symm n526)]; exact h524
        have n534 : dM ≠ mo := hne k_dM k_mo (Nat.ne_of_beq_eq_false rfl)
        have h533 : f484 dM = some (.inl (cI G, 2, .inl (mA2 mg0 mg1))) := by rw [ef484, va_up_ne _ _ n534]; exact k_dM
        have n536 : dM ≠ dQ := hneL k_dM k_dQ (Nat.ne_of_beq_eq_false rfl)
        have h535 : f514 dM = some (.inl (cI G, 2, .inl (mA2 mg0 mg1))) := by rw [e515, va_up_ne _ _ n536]; exact h533
        have h537 : f522 dM = some (.inl (cI G, 2, .inl (mA2 mg0 mg1))) := by rw [ef522, va_up_ne _ _ nd_dM_dS]; exact h535
        have h538 : f530 dM = some (.inl (cI G, 2, .inl (mA2 mg0 mg1))) := by rw [ef530, va_up_ne _ _ nd_dM_dR]; exact h537
        have n540 : dA ≠ mo := hne k_dA k_mo (Nat.ne_of_beq_eq_false rfl)
        have h539 : f484 dA = some (.inl (cI G, 12, .inl (jn ga0 ga1))) := by rw [ef484, va_up_ne _ _ n540]; exact k_dA
        have h541 : f514 dA = some (.inl (cI G, 12, .inl (jn ga0 ga1))) := by rw [e515, va_up_ne _ _ nd_dA_dQ]; exact h539
        have n543 : dA ≠ dS := hneL k_dA k_dS (Nat.ne_of_beq_eq_false rfl)
        have h542 : f522 dA = some (.inl (cI G, 12, .inl (jn ga0 ga1))) := by rw [ef522, va_up_ne _ _ n543]; exact h541
        have n545 : dA ≠ dR := hneL k_dA k_dR (Nat.ne_of_beq_eq_false rfl)
        have h544 : f530 dA = some (.inl (cI G, 12, .inl (jn ga0 ga1))) := by rw [ef530, va_up_ne _ _ n545]; exact h542
        have h546 : f522 dQ = some (.inl (cI G, 12, .inl (upd (upd (upd (upd (upd (upd gQ (6 : Int32).toNatClampNeg ((jn gw0 gw1) (6 : Int32).toNatClampNeg)) (7 : Int32).toNatClampNeg ((jn gw0 gw1) (7 : Int32).toNatClampNeg)) (8 : Int32).toNatClampNeg ((jn gw0 gw1) (8 : Int32).toNatClampNeg)) (9 : Int32).toNatClampNeg ((jn gw0 gw1) (9 : Int32).toNatClampNeg)) (10 : Int32).toNatClampNeg ((jn gw0 gw1) (10 : Int32).toNatClampNeg)) (11 : Int32).toNatClampNeg ((jn gw0 gw1) (11 : Int32).toNatClampNeg)))) := by rw [ef522, va_up_ne _ _ (Ne.symm n521)]; exact h516
        have h547 : f530 dQ = some (.inl (cI G, 12, .inl (upd (upd (upd (upd (upd (upd gQ (6 : Int32).toNatClampNeg ((jn gw0 gw1) (6 : Int32).toNatClampNeg)) (7 : Int32).toNatClampNeg ((jn gw0 gw1) (7 : Int32).toNatClampNeg)) (8 : Int32).toNatClampNeg ((jn gw0 gw1) (8 : Int32).toNatClampNeg)) (9 : Int32).toNatClampNeg ((jn gw0 gw1) (9 : Int32).toNatClampNeg)) (10 : Int32).toNatClampNeg ((jn gw0 gw1) (10 : Int32).toNatClampNeg)) (11 : Int32).toNatClampNeg ((jn gw0 gw1) (11 : Int32).toNatClampNeg)))) := by rw [ef530, va_up_ne _ _ (Ne.symm n528)]; exact h546
        have h548 : f530 dS = some (.inl (cI G, 2, .inl (upd gS (1 : Int32).toNatClampNeg 1))) := by rw [ef530, va_up_ne _ _ nd_dS_dR]; exact h523
        have n550 : dL ≠ mo := hne k_dL k_mo (Nat.ne_of_beq_eq_false rfl)
        have h549 : f484 dL = some (.inl (cI G, 2, .inl gL)) := by rw [ef484, va_up_ne _ _ n550]; exact k_dL
        have n552 : dL ≠ dQ := hneL k_dL k_dQ (Nat.ne_of_beq_eq_false rfl)
        have h551 : f514 dL = some (.inl (cI G, 2, .inl gL)) := by rw [e515, va_up_ne _ _ n552]; exact h549
        have h553 : f522 dL = some (.inl (cI G, 2, .inl gL)) := by rw [ef522, va_up_ne _ _ (Ne.symm nd_dS_dL)]; exact h551
        have h554 : f530 dL = some (.inl (cI G, 2, .inl gL)) := by rw [ef530, va_up_ne _ _ nd_dL_dR]; exact h553
        have n556 : dT ≠ mo := hne k_dT k_mo (Nat.ne_of_beq_eq_false rfl)
        have h555 : f484 dT = some (.inl (cI G, 2, .inl gT)) := by rw [ef484, va_up_ne _ _ n556]; exact k_dT
        have n558 : dT ≠ dQ := hneL k_dT k_dQ (Nat.ne_of_beq_eq_false rfl)
        have h557 : f514 dT = some (.inl (cI G, 2, .inl gT)) := by rw [e515, va_up_ne _ _ n558]; exact h555
        have h559 : f522 dT = some (.inl (cI G, 2, .inl gT)) := by rw [ef522, va_up_ne _ _ (Ne.symm nd_dS_dT)]; exact h557
        have h560 : f530 dT = some (.inl (cI G, 2, .inl gT)) := by rw [ef530, va_up_ne _ _ (Ne.symm nd_dR_dT)]; exact h559
        have n562 : dZ ≠ mo := hne k_dZ k_mo (Nat.ne_of_beq_eq_false rfl)
        have h561 : f484 dZ = some (.inl (cZ G, 2, .inl gZ)) := by rw [ef484, va_up_ne _ _ n562]; exact k_dZ
        have n564 : dZ ≠ dQ := hneL k_dZ k_dQ (Nat.ne_of_beq_eq_false rfl)
        have h563 : f514 dZ = some (.inl (cZ G, 2, .inl gZ)) := by rw [e515, va_up_ne _ _ n564]; exact h561
        have h565 : f522 dZ = some (.inl (cZ G, 2, .inl gZ)) := by rw [ef522, va_up_ne _ _ (Ne.symm nd_dS_dZ)]; exact h563
        have h566 : f530 dZ = some (.inl (cZ G, 2, .inl gZ)) := by rw [ef530, va_up_ne _ _ (Ne.symm nd_dR_dZ)]; exact h565
        have n568 : dI ≠ mo := hne k_dI k_mo (Nat.ne_of_beq_eq_false rfl)
        have h567 : f484 dI = some (.inl (cI G, 2, .inl gI)) := by rw [ef484, va_up_ne _ _ n568]; exact k_dI
        have n570 : dI ≠ dQ := hneL k_dI k_dQ (Nat.ne_of_beq_eq_false rfl)
        have h569 : f514 dI = some (.inl (cI G, 2, .inl gI)) := by rw [e515, va_up_ne _ _ n570]; exact h567
        have h571 : f522 dI = some (.inl (cI G, 2, .inl gI)) := by rw [ef522, va_up_ne _ _ (Ne.symm nd_dS_dI)]; exact h569
        have h572 : f530 dI = some (.inl (cI G, 2, .inl gI)) := by rw [ef530, va_up_ne _ _ (Ne.symm nd_dR_dI)]; exact h571
        have n574 : dH ≠ mo := hne k_dH k_mo (Nat.ne_of_beq_eq_false rfl)
        have h573 : f484 dH = some (.inl (cI G, 2, .inl gH)) := by rw [ef484, va_up_ne _ _ n574]; exact k_dH
        have n576 : dH ≠ dQ := hneL k_dH k_dQ (Nat.ne_of_beq_eq_false rfl)
        have h575 : f514 dH = some (.inl (cI G, 2, .inl gH)) := by rw [e515, va_up_ne _ _ n576]; exact h573
        have h577 : f522 dH = some (.inl (cI G, 2, .inl gH)) := by rw [ef522, va_up_ne _ _ (Ne.symm nd_dS_dH)]; exact h575
        have h578 : f530 dH = some (.inl (cI G, 2, .inl gH)) := by rw [ef530, va_up_ne _ _ (Ne.symm nd_dR_dH)]; exact h577
        have n580 : dN ≠ mo := hne k_dN k_mo (Nat.ne_of_beq_eq_false rfl)
        have h579 : f484 dN = some (.inl (cI G, 2, .inl gN)) := by rw [ef484, va_up_ne _ _ n580]; exact k_dN
        have n582 : dN ≠ dQ := hneL k_dN k_dQ (Nat.ne_of_beq_eq_false rfl)
        have h581 : f514 dN = some (.inl (cI G, 2, .inl gN)) := by rw [e515, va_up_ne _ _ n582]; exact h579
        have h583 : f522 dN = some (.inl (cI G, 2, .inl gN)) := by rw [ef522, va_up_ne _ _ (Ne.symm nd_dS_dN)]; exact h581
        have h584 : f530 dN = some (.inl (cI G, 2, .inl gN)) := by rw [ef530, va_up_ne _ _ (Ne.symm nd_dR_dN)]; exact h583
        have n586 : dK ≠ mo := hne k_dK k_mo (Nat.ne_of_beq_eq_false rfl)
        have h585 : f484 dK = some (.inl (cI G, 2048, .inl gK)) := by rw [ef484, va_up_ne _ _ n586]; exact k_dK
        have n588 : dK ≠ dQ := hneL k_dK k_dQ (Nat.ne_of_beq_eq_false rfl)
        have h587 : f514 dK = some (.inl (cI G, 2048, .inl gK)) := by rw [e515, va_up_ne _ _ n588]; exact h585
        have n590 : dK ≠ dS := hneL k_dK k_dS (Nat.ne_of_beq_eq_false rfl)
        have h589 : f522 dK = some (.inl (cI G, 2048, .inl gK)) := by rw [ef522, va_up_ne _ _ n590]; exact h587
        have n592 : dK ≠ dR := hneL k_dK k_dR (Nat.ne_of_beq_eq_false rfl)
        have h591 : f530 dK = some (.inl (cI G, 2048, .inl gK)) := by rw [ef530, va_up_ne _ _ n592]; exact h589
        have n594 : dJ ≠ mo := hne k_dJ k_mo (Nat.ne_of_beq_eq_false rfl)
        have h593 : f484 dJ = some (.inl (cI G, 2048, .inl gJ)) := by rw [ef484, va_up_ne _ _ n594]; exact k_dJ
        have n596 : dJ ≠ dQ := hneL k_dJ k_dQ (Nat.ne_of_beq_eq_false rfl)
        have h595 : f514 dJ = some (.inl (cI G, 2048, .inl gJ)) := by rw [e515, va_up_ne _ _ n596]; exact h593
        have n598 : dJ ≠ dS := hneL k_dJ k_dS (Nat.ne_of_beq_eq_false rfl)
        have h597 : f522 dJ = some (.inl (cI G, 2048, .inl gJ)) := by rw [ef522, va_up_ne _ _ n598]; exact h595
        have n600 : dJ ≠ dR := hneL k_dJ k_dR (Nat.ne_of_beq_eq_false rfl)
        have h599 : f530 dJ = some (.inl (cI G, 2048, .inl gJ)) := by rw [ef530, va_up_ne _ _ n600]; exact h597
        have n602 : dU ≠ mo := hne k_dU k_mo (Nat.ne_of_beq_eq_false rfl)
        have h601 : f484 dU = some (.inl (cI G, 2048, .inl gU)) := by rw [ef484, va_up_ne _ _ n602]; exact k_dU
        have n604 : dU ≠ dQ := hneL k_dU k_dQ (Nat.ne_of_beq_eq_false rfl)
        have h603 : f514 dU = some (.inl (cI G, 2048, .inl gU)) := by rw [e515, va_up_ne _ _ n604]; exact h601
        have n606 : dU ≠ dS := hneL k_dU k_dS (Nat.ne_of_beq_eq_false rfl)
        have h605 : f522 dU = some (.inl (cI G, 2048, .inl gU)) := by rw [ef522, va_up_ne _ _ n606]; exact h603
        have n608 : dU ≠ dR := hneL k_dU k_dR (Nat.ne_of_beq_eq_false rfl)
        have h607 : f530 dU = some (.inl (cI G, 2048, .inl gU)) := by rw [ef530, va_up_ne _ _ n608]; exact h605
        have n610 : dO ≠ mo := hne k_dO k_mo (Nat.ne_of_beq_eq_false rfl)
        have h609 : f484 dO = some (.inl (cI G, 2048, .inl gO)) := by rw [ef484, va_up_ne _ _ n610]; exact k_dO
        have n612 : dO ≠ dQ := hneL k_dO k_dQ (Nat.ne_of_beq_eq_false rfl)
        have h611 : f514 dO = some (.inl (cI G, 2048, .inl gO)) := by rw [e515, va_up_ne _ _ n612]; exact h609
        have n614 : dO ≠ dS := hneL k_dO k_dS (Nat.ne_of_beq_eq_false rfl)
        have h613 : f522 dO = some (.inl (cI G, 2048, .inl gO)) := by rw [ef522, va_up_ne _ _ n614]; exact h611
        have n616 : dO ≠ dR := hneL k_dO k_dR (Nat.ne_of_beq_eq_false rfl)
        have h615 : f530 dO = some (.inl (cI G, 2048, .inl gO)) := by rw [ef530, va_up_ne _ _ n616]; exact h613
        refine hp_V (ci := 5) (As := [.int 1]) (rest := []) B0 hw hS (c_W5_begs hl G f530 mo dW dA dQ dM dS dL dR dT dZ dI dH dN dK dJ dU dO dF dP dE dX dY dG 0 (nI n) (nI a) (nI x) (nI cg) h532 hND (mA2 mg0 mg1) (jn ga0 ga1) h538 h544 hSA B ⟨_, _, _, _, _, _, _, _, _, _, _, _, _, h547, h548, h554, h531, h560, h566, h572, h578, h584, h591, h599, h607, h615, hHd9, (hMn.mono hMn9 (by omega))⟩ (by omega) 1 (Or.inr rfl)) mV_X5_begs qM_X5_107 rfl h532 rfl rfl hl9.1 (Nat.le_of_ble_eq_true rfl) ⟨⟨Nat.le_of_ble_eq_true rfl, Nat.le_of_ble_eq_true rfl⟩, Nat.le_of_ble_eq_true rfl, Nat.le_of_ble_eq_true rfl⟩ dX5_open_88 (fun E ce q9 f617 H locs hPX hw hS hce hcv hcl => ?_) (fun v f617 H locs hP hw hS => ?_)
        · exact hPX.elim
        · obtain ⟨hv9, hr9⟩ := hP
          rcases hv9 with ev9 | ev9
          · have hP := And.intro ev9 hr9
            obtain ⟨ev8, h619, k620⟩ := hP
            have h619L := h619
            obtain ⟨gQ_n618, gS_n618, gL_n618, gR_n618, gT_n618, gZ_n618, gI_n618, gH_n618, gN_n618, gK_n618, gJ_n618, gU_n618, gO_n618, k_dQ_n618, k_dS_n618, k_dL_n618, k_dR_n618, k_dT_n618, k_dZ_n618, k_dI_n618, k_dH_n618, k_dN_n618, k_dK_n618, k_dJ_n618, k_dU_n618, k_dO_n618, hHd9_n618, hMn9_n618⟩ := id h619
            subst ev8
            refine W.eq (g2 := F0 m 91 ls [.int 0]) rfl ?_
            refine lv_pop hx hb dX5_open_91 rfl ?_
            refine lv_aload_n hx hb dX5_open_92 rfl (lv_at hl9 1 rfl) ?_
            have h621 : f617 mo = some (.inr (5, [.int 0, .ref dW, .ref dA, .ref dQ, .ref dM, .ref dS, .ref dL, .ref dR, .ref dT, .ref dZ, .ref dI, .ref dH, .ref dN, .ref dK, .ref dJ, .ref dU, .ref dO, .int (nI n), .int (nI a), .ref dF, .ref dP, .ref dE, .ref dX, .ref dY, .int (nI x), .int (nI cg), .ref dG])) := (hEq.k k620) _ _ h532 (ninc (Ne.symm n489) (ninc (Ne.symm n519) (ninc (Ne.symm n550) (ninc (Ne.symm n526) (ninc (Ne.symm n556) (ninc (Ne.symm n562) (ninc (Ne.symm n568) (ninc (Ne.symm n574) (ninc (Ne.symm n580) (ninc (Ne.symm n586) (ninc (Ne.symm n594) (ninc (Ne.symm n602) (ninc (Ne.symm n610) nin0)))))))))))))
            refine hp_get B0 hw 5 rfl in_X5 h621 6 (by decide) qF_X5_25 rfl dX5_open_93 ?_
            refine lv_iload_n hx hb dX5_open_96 rfl (lv_at hl9 2 rfl) ?_
            refine hp_iald B0 hw k_dL_n618 (by unfold vp_in; decide) dX5_open_97 ?_
            have h622 : f514 dW = some (.inl (cI G, 12, .inl (jn gw0 gw1))) := by rw [e515, va_up_ne _ _ nd_dW_dQ]; exact h486
            have n624 : dW ≠ dS := hneL k_dW k_dS (Nat.ne_of_beq_eq_false rfl)
            have h623 : f522 dW = some (.inl (cI G, 12, .inl (jn gw0 gw1))) := by rw [ef522, va_up_ne _ _ n624]; exact h622
            have n626 : dW ≠ dR := hneL k_dW k_dR (Nat.ne_of_beq_eq_false rfl)
            have h625 : f530 dW = some (.inl (cI G, 12, .inl (jn gw0 gw1))) := by rw [ef530, va_up_ne _ _ n626]; exact h623
            have n628 : dW ≠ dO := hneL k_dW k_dO (Nat.ne_of_beq_eq_false rfl)
            have n629 : dW ≠ dU := hneL k_dW k_dU (Nat.ne_of_beq_eq_false rfl)
            have n630 : dW ≠ dJ := hneL k_dW k_dJ (Nat.ne_of_beq_eq_false rfl)
            have n631 : dW ≠ dK := hneL k_dW k_dK (Nat.ne_of_beq_eq_false rfl)
            have n632 : dW ≠ dN := hneL k_dW k_dN (Nat.ne_of_beq_eq_false rfl)
            have n633 : dW ≠ dH := hneL k_dW k_dH (Nat.ne_of_beq_eq_false rfl)
            have n634 : dW ≠ dI := hneL k_dW k_dI (Nat.ne_of_beq_eq_false rfl)
            have n635 : dW ≠ dZ := hneL k_dW k_dZ (Nat.ne_of_beq_eq_false rfl)
            have n636 : dW ≠ dT := hneL k_dW k_dT (Nat.ne_of_beq_eq_false rfl)
            have n637 : dW ≠ dL := hneL k_dW k_dL (Nat.ne_of_beq_eq_false rfl)
            have h627 : f617 dW = some (.inl (cI G, 12, .inl (jn gw0 gw1))) := (hEq.k k620) _ _ h625 (ninc nd_dW_dQ (ninc n624 (ninc n637 (ninc n626 (ninc n636 (ninc n635 (ninc n634 (ninc n633 (ninc n632 (ninc n631 (ninc n630 (ninc n629 (ninc n628 nin0)))))))))))))
            have n639 : dA ≠ dO := hneL k_dA k_dO (Nat.ne_of_beq_eq_false rfl)
            have n640 : dA ≠ dU := hneL k_dA k_dU (Nat.ne_of_beq_eq_false rfl)
            have n641 : dA ≠ dJ := hneL k_dA k_dJ (Nat.ne_of_beq_eq_false rfl)
            have n642 : dA ≠ dK := hneL k_dA k_dK (Nat.ne_of_beq_eq_false rfl)
            have n643 : dA ≠ dN := hneL k_dA k_dN (Nat.ne_of_beq_eq_false rfl)
            have n644 : dA ≠ dH := hneL k_dA k_dH (Nat.ne_of_beq_eq_false rfl)
            have n645 : dA ≠ dI := hneL k_dA k_dI (Nat.ne_of_beq_eq_false rfl)
            have n646 : dA ≠ dZ := hneL k_dA k_dZ (Nat.ne_of_beq_eq_false rfl)
            have n647 : dA ≠ dT := hneL k_dA k_dT (Nat.ne_of_beq_eq_false rfl)
            have n648 : dA ≠ dL := hneL k_dA k_dL (Nat.ne_of_beq_eq_false rfl)
            have h638 : f617 dA = some (.inl (cI G, 12, .inl (jn ga0 ga1))) := (hEq.k k620) _ _ h544 (ninc nd_dA_dQ (ninc n543 (ninc n648 (ninc n545 (ninc n647 (ninc n646 (ninc n645 (ninc n644 (ninc n643 (ninc n642 (ninc n641 (ninc n640 (ninc n639 nin0)))))))))))))
            have n650 : dM ≠ dO := hneL k_dM k_dO (Nat.ne_of_beq_eq_false rfl)
            have n651 : dM ≠ dU := hneL k_dM k_dU (Nat.ne_of_beq_eq_false rfl)
            have n652 : dM ≠ dJ := hneL k_dM k_dJ (Nat.ne_of_beq_eq_false rfl)
            have n653 : dM ≠ dK := hneL k_dM k_dK (Nat.ne_of_beq_eq_false rfl)
            have h649 : f617 dM = some (.inl (cI G, 2, .inl (mA2 mg0 mg1))) := (hEq.k k620) _ _ h538 (ninc n536 (ninc nd_dM_dS (ninc nd_dM_dL (ninc nd_dM_dR (ninc nd_dM_dT (ninc nd_dM_dZ (ninc nd_dM_dI (ninc nd_dM_dH (ninc nd_dM_dN (ninc n653 (ninc n652 (ninc n651 (ninc n650 nin0)))))))))))))
            have n655 : dF ≠ mo := hne k_dF k_mo (Nat.ne_of_beq_eq_false rfl)
            have h654 : f484 dF = some (.inl (cI G, 61, .inl (nf sa))) := by rw [ef484, va_up_ne _ _ n655]; exact k_dF
            have n657 : dF ≠ dQ := hneL k_dF k_dQ (Nat.ne_of_beq_eq_false rfl)
            have h656 : f514 dF = some (.inl (cI G, 61, .inl (nf sa))) := by rw [e515, va_up_ne _ _ n657]; exact h654
            have n659 : dF ≠ dS := hneL k_dF k_dS (Nat.ne_of_beq_eq_false rfl)
            have h658 : f522 dF = some (.inl (cI G, 61, .inl (nf sa))) := by rw [ef522, va_up_ne _ _ n659]; exact h656
            have n661 : dF ≠ dR := hneL k_dF k_dR (Nat.ne_of_beq_eq_false rfl)
            have h660 : f530 dF = some (.inl (cI G, 61, .inl (nf sa))) := by rw [ef530, va_up_ne _ _ n661]; exact h658
            have n663 : dF ≠ dO := hneL k_dF k_dO (Nat.ne_of_beq_eq_false rfl)
            have n664 : dF ≠ dU := hneL k_dF k_dU (Nat.ne_of_beq_eq_false rfl)
            have n665 : dF ≠ dJ := hneL k_dF k_dJ (Nat.ne_of_beq_eq_false rfl)
            have n666 : dF ≠ dK := hneL k_dF k_dK (Nat.ne_of_beq_eq_false rfl)
            have n667 : dF ≠ dN := hneL k_dF k_dN (Nat.ne_of_beq_eq_false rfl)
            have n668 : dF ≠ dH := hneL k_dF k_dH (Nat.ne_of_beq_eq_false rfl)
            have n669 : dF ≠ dI := hneL k_dF k_dI (Nat.ne_of_beq_eq_false rfl)
            have n670 : dF ≠ dZ := hneL k_dF k_dZ (Nat.ne_of_beq_eq_false rfl)
            have n671 : dF ≠ dT := hneL k_dF k_dT (Nat.ne_of_beq_eq_false rfl)
            have n672 : dF ≠ dL := hneL k_dF k_dL (Nat.ne_of_beq_eq_false rfl)
            have h662 : f617 dF = some (.inl (cI G, 61, .inl (nf sa))) := (hEq.k k620) _ _ h660 (ninc n657 (ninc n659 (ninc n672 (ninc n661 (ninc n671 (ninc n670 (ninc n669 (ninc n668 (ninc n667 (ninc n666 (ninc n665 (ninc n664 (ninc n663 nin0)))))))))))))
            have n674 : dP ≠ mo := hne k_dP k_mo (Nat.ne_of_beq_eq_false rfl)
            have h673 : f484 dP = some (.inl (cI G, 240, .inl (nf pk))) := by rw [ef484, va_up_ne _ _ n674]; exact k_dP
            have n676 : dP ≠ dQ := hneL k_dP k_dQ (Nat.ne_of_beq_eq_false rfl)
            have h675 : f514 dP = some (.inl (cI G, 240, .inl (nf pk))) := by rw [e515, va_up_ne _ _ n676]; exact h673
            have n678 : dP ≠ dS := hneL k_dP k_dS (Nat.ne_of_beq_eq_false rfl)
            have h677 : f522 dP = some (.inl (cI G, 240, .inl (nf pk))) := by rw [ef522, va_up_ne _ _ n678]; exact h675
            have n680 : dP ≠ dR := hneL k_dP k_dR (Nat.ne_of_beq_eq_false rfl)
            have h679 : f530 dP = some (.inl (cI G, 240, .inl (nf pk))) := by rw [ef530, va_up_ne _ _ n680]; exact h677
            have n682 : dP ≠ dO := hneL k_dP k_dO (Nat.ne_of_beq_eq_false rfl)
            have n683 : dP ≠ dU := hneL k_dP k_dU (Nat.ne_of_beq_eq_false rfl)
            have n684 : dP ≠ dJ := hneL k_dP k_dJ (Nat.ne_of_beq_eq_false rfl)
            have n685 : dP ≠ dK := hneL k_dP k_dK (Nat.ne_of_beq_eq_false rfl)
            have n686 : dP ≠ dN := hneL k_dP k_dN (Nat.ne_of_beq_eq_false rfl)
            have n687 : dP ≠ dH := hneL k_dP k_dH (Nat.ne_of_beq_eq_false rfl)
            have n688 : dP ≠ dI := hneL k_dP k_dI (Nat.ne_of_beq_eq_false rfl)
            have n689 : dP ≠ dZ := hneL k_dP k_dZ (Nat.ne_of_beq_eq_false rfl)
            have n690 : dP ≠ dT := hneL k_dP k_dT (Nat.ne_of_beq_eq_false rfl)
            have n691 : dP ≠ dL := hneL k_dP k_dL (Nat.ne_of_beq_eq_false rfl)
            have h681 : f617 dP = some (.inl (cI G, 240, .inl (nf pk))) := (hEq.k k620) _ _ h679 (ninc n676 (ninc n678 (ninc n691 (ninc n680 (ninc n690 (ninc n689 (ninc n688 (ninc n687 (ninc n686 (ninc n685 (ninc n684 (ninc n683 (ninc n682 nin0)))))))))))))
            have n693 : dE ≠ mo := hne k_dE k_mo (Nat.ne_of_beq_eq_false rfl)
            have h692 : f484 dE = some (.inl (cZ G, 240, .inl gh)) := by rw [ef484, va_up_ne _ _ n693]; exact k_dE
            have n695 : dE ≠ dQ := hneL k_dE k_dQ (Nat.ne_of_beq_eq_false rfl)
            have h694 : f514 dE = some (.inl (cZ G, 240, .inl gh)) := by rw [e515, va_up_ne _ _ n695]; exact h692
            have n697 : dE ≠ dS := hneL k_dE k_dS (Nat.ne_of_beq_eq_false rfl)
            have h696 : f522 dE = some (.inl (cZ G, 240, .inl gh)) := by rw [ef522, va_up_ne _ _ n697]; exact h694
            have n699 : dE ≠ dR := hneL k_dE k_dR (Nat.ne_of_beq_eq_false rfl)
            have h698 : f530 dE = some (.inl (cZ G, 240, .inl gh)) := by rw [ef530, va_up_ne _ _ n699]; exact h696
            have n701 : dE ≠ dO := hneL k_dE k_dO (Nat.ne_of_beq_eq_false rfl)
            have n702 : dE ≠ dU := hneL k_dE k_dU (Nat.ne_of_beq_eq_false rfl)
            have n703 : dE ≠ dJ := hneL k_dE k_dJ (Nat.ne_of_beq_eq_false rfl)
            have n704 : dE ≠ dK := hneL k_dE k_dK (Nat.ne_of_beq_eq_false rfl)
            have n705 : dE ≠ dN := hneL k_dE k_dN (Nat.ne_of_beq_eq_false rfl)
            have n706 : dE ≠ dH := hneL k_dE k_dH (Nat.ne_of_beq_eq_false rfl)
            have n707 : dE ≠ dI := hneL k_dE k_dI (Nat.ne_of_beq_eq_false rfl)
            have n708 : dE ≠ dZ := hneL k_dE k_dZ (Nat.ne_of_beq_eq_false rfl)
            have n709 : dE ≠ dT := hneL k_dE k_dT (Nat.ne_of_beq_eq_false rfl)
            have n710 : dE ≠ dL := hneL k_dE k_dL (Nat.ne_of_beq_eq_false rfl)
            have h700 : f617 dE = some (.inl (cZ G, 240, .inl gh)) := (hEq.k k620) _ _ h698 (ninc n695 (ninc n697 (ninc n710 (ninc n699 (ninc n709 (ninc n708 (ninc n707 (ninc n706 (ninc n705 (ninc n704 (ninc n703 (ninc n702 (ninc n701 nin0)))))))))))))
            have n712 : dX ≠ mo := hne k_dX k_mo (Nat.ne_of_beq_eq_false rfl)
            have h711 : f484 dX = some (.inl (cI G, 3, .inl (nf fl))) := by rw [ef484, va_up_ne _ _ n712]; exact k_dX
            have n714 : dX ≠ dQ := hneL k_dX k_dQ (Nat.ne_of_beq_eq_false rfl)
            have h713 : f514 dX = some (.inl (cI G, 3, .inl (nf fl))) := by rw [e515, va_up_ne _ _ n714]; exact h711
            have n716 : dX ≠ dS := hneL k_dX k_dS (Nat.ne_of_beq_eq_false rfl)
            have h715 : f522 dX = some (.inl (cI G, 3, .inl (nf fl))) := by rw [ef522, va_up_ne _ _ n716]; exact h713
            have n718 : dX ≠ dR := hneL k_dX k_dR (Nat.ne_of_beq_eq_false rfl)
            have h717 : f530 dX = some (.inl (cI G, 3, .inl (nf fl))) := by rw [ef530, va_up_ne _ _ n718]; exact h715
            have n720 : dX ≠ dO := hneL k_dX k_dO (Nat.ne_of_beq_eq_false rfl)
            have n721 : dX ≠ dU := hneL k_dX k_dU (Nat.ne_of_beq_eq_false rfl)
            have n722 : dX ≠ dJ := hneL k_dX k_dJ (Nat.ne_of_beq_eq_false rfl)
            have n723 : dX ≠ dK := hneL k_dX k_dK (Nat.ne_of_beq_eq_false rfl)
            have n724 : dX ≠ dN := hneL k_dX k_dN (Nat.ne_of_beq_eq_false rfl)
            have n725 : dX ≠ dH := hneL k_dX k_dH (Nat.ne_of_beq_eq_false rfl)
            have n726 : dX ≠ dI := hneL k_dX k_dI (Nat.ne_of_beq_eq_false rfl)
            have n727 : dX ≠ dZ := hneL k_dX k_dZ (Nat.ne_of_beq_eq_false rfl)
            have n728 : dX ≠ dT := hneL k_dX k_dT (Nat.ne_of_beq_eq_false rfl)
            have n729 : dX ≠ dL := hneL k_dX k_dL (Nat.ne_of_beq_eq_false rfl)
            have h719 : f617 dX = some (.inl (cI G, 3, .inl (nf fl))) := (hEq.k k620) _ _ h717 (ninc n714 (ninc n716 (ninc n729 (ninc n718 (ninc n728 (ninc n727 (ninc n726 (ninc n725 (ninc n724 (ninc n723 (ninc n722 (ninc n721 (ninc n720 nin0)))))))))))))
            have n731 : dY ≠ mo := hne k_dY k_mo (Nat.ne_of_beq_eq_false rfl)
            have h730 : f484 dY = some (.inl (cI G, 3, .inl gl)) := by rw [ef484, va_up_ne _ _ n731]; exact k_dY
            have n733 : dY ≠ dQ := hneL k_dY k_dQ (Nat.ne_of_beq_eq_false rfl)
            have h732 : f514 dY = some (.inl (cI G, 3, .inl gl)) := by rw [e515, va_up_ne _ _ n733]; exact h730
            have n735 : dY ≠ dS := hneL k_dY k_dS (Nat.ne_of_beq_eq_false rfl)
            have h734 : f522 dY = some (.inl (cI G, 3, .inl gl)) := by rw [ef522, va_up_ne _ _ n735]; exact h732
            have n737 : dY ≠ dR := hneL k_dY k_dR (Nat.ne_of_beq_eq_false rfl)
            have h736 : f530 dY = some (.inl (cI G, 3, .inl gl)) := by rw [ef530, va_up_ne _ _ n737]; exact h734
            have n739 : dY ≠ dO := hneL k_dY k_dO (Nat.ne_of_beq_eq_false rfl)
            have n740 : dY ≠ dU := hneL k_dY k_dU (Nat.ne_of_beq_eq_false rfl)
            have n741 : dY ≠ dJ := hneL k_dY k_dJ (Nat.ne_of_beq_eq_false rfl)
            have n742 : dY ≠ dK := hneL k_dY k_dK (Nat.ne_of_beq_eq_false rfl)
            have n743 : dY ≠ dN := hneL k_dY k_dN (Nat.ne_of_beq_eq_false rfl)
            have n744 : dY ≠ dH := hneL k_dY k_dH (Nat.ne_of_beq_eq_false rfl)
            have n745 : dY ≠ dI := hneL k_dY k_dI (Nat.ne_of_beq_eq_false rfl)
            have n746 : dY ≠ dZ := hneL k_dY k_dZ (Nat.ne_of_beq_eq_false rfl)
            have n747 : dY ≠ dT := hneL k_dY k_dT (Nat.ne_of_beq_eq_false rfl)
            have n748 : dY ≠ dL := hneL k_dY k_dL (Nat.ne_of_beq_eq_false rfl)
            have h738 : f617 dY = some (.inl (cI G, 3, .inl gl)) := (hEq.k k620) _ _ h736 (ninc n733 (ninc n735 (ninc n748 (ninc n737 (ninc n747 (ninc n746 (ninc n745 (ninc n744 (ninc n743 (ninc n742 (ninc n741 (ninc n740 (ninc n739 nin0)))))))))))))
            have n750 : dG ≠ mo := hne k_dG k_mo (Nat.ne_of_beq_eq_false rfl)
            have h749 : f484 dG = some (.inl (cI G, 60, .inl (nf gv))) := by rw [ef484, va_up_ne _ _ n750]; exact k_dG
            have n752 : dG ≠ dQ := hneL k_dG k_dQ (Nat.ne_of_beq_eq_false rfl)
            have h751 : f514 dG = some (.inl (cI G, 60, .inl (nf gv))) := by rw [e515, va_up_ne _ _ n752]; exact h749
            have n754 : dG ≠ dS := hneL k_dG k_dS (Nat.ne_of_beq_eq_false rfl)
            have h753 : f522 dG = some (.inl (cI G, 60, .inl (nf gv))) := by rw [ef522, va_up_ne _ _ n754]; exact h751
            have n756 : dG ≠ dR := hneL k_dG k_dR (Nat.ne_of_beq_eq_false rfl)
            have h755 : f530 dG = some (.inl (cI G, 60, .inl (nf gv))) := by rw [ef530, va_up_ne _ _ n756]; exact h753
            have n758 : dG ≠ dO := hneL k_dG k_dO (Nat.ne_of_beq_eq_false rfl)
            have n759 : dG ≠ dU := hneL k_dG k_dU (Nat.ne_of_beq_eq_false rfl)
            have n760 : dG ≠ dJ := hneL k_dG k_dJ (Nat.ne_of_beq_eq_false rfl)
            have n761 : dG ≠ dK := hneL k_dG k_dK (Nat.ne_of_beq_eq_false rfl)
            have n762 : dG ≠ dN := hneL k_dG k_dN (Nat.ne_of_beq_eq_false rfl)
            have n763 : dG ≠ dH := hneL k_dG k_dH (Nat.ne_of_beq_eq_false rfl)
            have n764 : dG ≠ dI := hneL k_dG k_dI (Nat.ne_of_beq_eq_false rfl)
            have n765 : dG ≠ dZ := hneL k_dG k_dZ (Nat.ne_of_beq_eq_false rfl)
            have n766 : dG ≠ dT := hneL k_dG k_dT (Nat.ne_of_beq_eq_false rfl)
            have n767 : dG ≠ dL := hneL k_dG k_dL (Nat.ne_of_beq_eq_false rfl)
            have h757 : f617 dG = some (.inl (cI G, 60, .inl (nf gv))) := (hEq.k k620) _ _ h755 (ninc n752 (ninc n754 (ninc n767 (ninc n756 (ninc n766 (ninc n765 (ninc n764 (ninc n763 (ninc n762 (ninc n761 (ninc n760 (ninc n759 (ninc n758 nin0)))))))))))))
            exact hp_iret (v := (gL_n618 (1 : Int32).toNatClampNeg)) B0 hw hS hr ⟨Nat.le_of_ble_eq_true rfl, Nat.le_of_ble_eq_true rfl⟩ dX5_open_98 (⟨⟨_, rfl⟩, ⟨_, ⟨h621, hND, ⟨_, _, _, _, _, _, _, _, _, _, _, _, _, k_dQ_n618, k_dS_n618, k_dL_n618, k_dR_n618, k_dT_n618, k_dZ_n618, k_dI_n618, k_dH_n618, k_dN_n618, k_dK_n618, k_dJ_n618, k_dU_n618, k_dO_n618, hHd9_n618, (hMn.mono hMn9_n618 (by omega))⟩, h627, h638, h649, h662, h681, h700, h719, h738, h757, hSA, hB9, hfl9⟩⟩, ((show hEq [mo, dW, dA, dQ, dM, dS, dL, dR, dT, dZ, dI, dH, dN, dK, dJ, dU, dO, dF, dP, dE, dX, dY, dG] f f484 from (by rw [ef484]; exact hEq.up List.mem_cons_self)).tr ((show hEq [mo, dW, dA, dQ, dM, dS, dL, dR, dT, dZ, dI, dH, dN, dK, dJ, dU, dO, dF, dP, dE, dX, dY, dG] f484 f514 from (by rw [e515]; exact hEq.up (List.mem_cons_of_mem _ (List.mem_cons_of_mem _ (List.mem_cons_of_mem _ List.mem_cons_self))))).tr ((show hEq [mo, dW, dA, dQ, dM, dS, dL, dR, dT, dZ, dI, dH, dN, dK, dJ, dU, dO, dF, dP, dE, dX, dY, dG] f514 f522 from (by rw [ef522]; exact hEq.up (List.mem_cons_of_mem _ (List.mem_cons_of_mem _ (List.mem_cons_of_mem _ (List.mem_cons_of_mem _ (List.mem_cons_of_mem _ List.mem_cons_self))))))).tr ((show hEq [mo, dW, dA, dQ, dM, dS, dL, dR, dT, dZ, dI, dH, dN, dK, dJ, dU, dO, dF, dP, dE, dX, dY, dG] f522 f530 from (by rw [ef530]; exact hEq.up (List.mem_cons_of_mem _ (List.mem_cons_of_mem _ (List.mem_cons_of_mem _ (List.mem_cons_of_mem _ (List.mem_cons_of_mem _ (List.mem_cons_of_mem _ (List.mem_cons_of_mem _ List.mem_cons_self))))))))).tr (show hEq [mo, dW, dA, dQ, dM, dS, dL, dR, dT, dZ, dI, dH, dN, dK, dJ, dU, dO, dF, dP, dE, dX, dY, dG] f530 f617 from (hEq.mono k620 sub13))))))⟩)
          · have hP := And.intro ev9 hr9
            obtain ⟨ev8, h769, k770⟩ := hP
            have h769L := h769
            obtain ⟨gQ_n768, gS_n768, gL_n768, gR_n768, gT_n768, gZ_n768, gI_n768, gH_n768, gN_n768, gK_n768, gJ_n768, gU_n768, gO_n768, k_dQ_n768, k_dS_n768, k_dL_n768, k_dR_n768, k_dT_n768, k_dZ_n768, k_dI_n768, k_dH_n768, k_dN_n768, k_dK_n768, k_dJ_n768, k_dU_n768, k_dO_n768, hHd9_n768, hMn9_n768⟩ := id h769
            subst ev8
            refine W.eq (g2 := F0 m 91 ls [.int 1]) rfl ?_
            refine lv_pop hx hb dX5_open_91 rfl ?_
            refine lv_aload_n hx hb dX5_open_92 rfl (lv_at hl9 1 rfl) ?_
            have h771 : f617 mo = some (.inr (5, [.int 0, .ref dW, .ref dA, .ref dQ, .ref dM, .ref dS, .ref dL, .ref dR, .ref dT, .ref dZ, .ref dI, .ref dH, .ref dN, .ref dK, .ref dJ, .ref dU, .ref dO, .int (nI n), .int (nI a), .ref dF, .ref dP, .ref dE, .ref dX, .ref dY, .int (nI x), .int (nI cg), .ref dG])) := (hEq.k k770) _ _ h532 (ninc (Ne.symm n489) (ninc (Ne.symm n519) (ninc (Ne.symm n550) (ninc (Ne.symm n526) (ninc (Ne.symm n556) (ninc (Ne.symm n562) (ninc (Ne.symm n568) (ninc (Ne.symm n574) (ninc (Ne.symm n580) (ninc (Ne.symm n586) (ninc (Ne.symm n594) (ninc (Ne.symm n602) (ninc (Ne.symm n610) nin0)))))))))))))
            refine hp_get B0 hw 5 rfl in_X5 h771 6 (by decide) qF_X5_25 rfl dX5_open_93 ?_
            refine lv_iload_n hx hb dX5_open_96 rfl (lv_at hl9 2 rfl) ?_
            refine hp_iald B0 hw k_dL_n768 (by unfold vp_in; decide) dX5_open_97 ?_
            have h772 : f514 dW = some (.inl (cI G, 12, .inl (jn gw0 gw1))) := by rw [e515, va_up_ne _ _ nd_dW_dQ]; exact h486
            have n774 : dW ≠ dS := hneL k_dW k_dS (Nat.ne_of_beq_eq_false rfl)
            have h773 : f522 dW = some (.inl (cI G, 12, .inl (jn gw0 gw1))) := by rw [ef522, va_up_ne _ _ n774]; exact h772
            have n776 : dW ≠ dR := hneL k_dW k_dR (Nat.ne_of_beq_eq_false rfl)
            have h775 : f530 dW = some (.inl (cI G, 12, .inl (jn gw0 gw1))) := by rw [ef530, va_up_ne _ _ n776]; exact h773
            have n778 : dW ≠ dO := hneL k_dW k_dO (Nat.ne_of_beq_eq_false rfl)
            have n779 : dW ≠ dU := hneL k_dW k_dU (Nat.ne_of_beq_eq_false rfl)
            have n780 : dW ≠ dJ := hneL k_dW k_dJ (Nat.ne_of_beq_eq_false rfl)
            have n781 : dW ≠ dK := hneL k_dW k_dK (Nat.ne_of_beq_eq_false rfl)
            have n782 : dW ≠ dN := hneL k_dW k_dN (Nat.ne_of_beq_eq_false rfl)
            have n783 : dW ≠ dH := hneL k_dW k_dH (Nat.ne_of_beq_eq_false rfl)
            have n784 : dW ≠ dI := hneL k_dW k_dI (Nat.ne_of_beq_eq_false rfl)
            have n785 : dW ≠ dZ := hneL k_dW k_dZ (Nat.ne_of_beq_eq_false rfl)
            have n786 : dW ≠ dT := hneL k_dW k_dT (Nat.ne_of_beq_eq_false rfl)
            have n787 : dW ≠ dL := hneL k_dW k_dL (Nat.ne_of_beq_eq_false rfl)
            have h777 : f617 dW = some (.inl (cI G, 12, .inl (jn gw0 gw1))) := (hEq.k k770) _ _ h775 (ninc nd_dW_dQ (ninc n774 (ninc n787 (ninc n776 (ninc n786 (ninc n785 (ninc n784 (ninc n783 (ninc n782 (ninc n781 (ninc n780 (ninc n779 (ninc n778 nin0)))))))))))))
            have n789 : dA ≠ dO := hneL k_dA k_dO (Nat.ne_of_beq_eq_false rfl)
            have n790 : dA ≠ dU := hneL k_dA k_dU (Nat.ne_of_beq_eq_false rfl)
            have n791 : dA ≠ dJ := hneL k_dA k_dJ (Nat.ne_of_beq_eq_false rfl)
            have n792 : dA ≠ dK := hneL k_dA k_dK (Nat.ne_of_beq_eq_false rfl)
            have n793 : dA ≠ dN := hneL k_dA k_dN (Nat.ne_of_beq_eq_false rfl)
            have n794 : dA ≠ dH := hneL k_dA k_dH (Nat.ne_of_beq_eq_false rfl)
            have n795 : dA ≠ dI := hneL k_dA k_dI (Nat.ne_of_beq_eq_false rfl)
            have n796 : dA ≠ dZ := hneL k_dA k_dZ (Nat.ne_of_beq_eq_false rfl)
            have n797 : dA ≠ dT := hneL k_dA k_dT (Nat.ne_of_beq_eq_false rfl)
            have n798 : dA ≠ dL := hneL k_dA k_dL (Nat.ne_of_beq_eq_false rfl)
            have h788 : f617 dA = some (.inl (cI G, 12, .inl (jn ga0 ga1))) := (hEq.k k770) _ _ h544 (ninc nd_dA_dQ (ninc n543 (ninc n798 (ninc n545 (ninc n797 (ninc n796 (ninc n795 (ninc n794 (ninc n793 (ninc n792 (ninc n791 (ninc n790 (ninc n789 nin0)))))))))))))
            have n800 : dM ≠ dO := hneL k_dM k_dO (Nat.ne_of_beq_eq_false rfl)
            have n801 : dM ≠ dU := hneL k_dM k_dU (Nat.ne_of_beq_eq_false rfl)
            have n802 : dM ≠ dJ := hneL k_dM k_dJ (Nat.ne_of_beq_eq_false rfl)
            have n803 : dM ≠ dK := hneL k_dM k_dK (Nat.ne_of_beq_eq_false rfl)
            have h799 : f617 dM = some (.inl (cI G, 2, .inl (mA2 mg0 mg1))) := (hEq.k k770) _ _ h538 (ninc n536 (ninc nd_dM_dS (ninc nd_dM_dL (ninc nd_dM_dR (ninc nd_dM_dT (ninc nd_dM_dZ (ninc nd_dM_dI (ninc nd_dM_dH (ninc nd_dM_dN (ninc n803 (ninc n802 (ninc n801 (ninc n800 nin0)))))))))))))
            have n805 : dF ≠ mo := hne k_dF k_mo (Nat.ne_of_beq_eq_false rfl)
            have h804 : f484 dF = some (.inl (cI G, 61, .inl (nf sa))) := by rw [ef484, va_up_ne _ _ n805]; exact k_dF
            have n807 : dF ≠ dQ := hneL k_dF k_dQ (Nat.ne_of_beq_eq_false rfl)
            have h806 : f514 dF = some (.inl (cI G, 61, .inl (nf sa))) := by rw [e515, va_up_ne _ _ n807]; exact h804
            have n809 : dF ≠ dS := hneL k_dF k_dS (Nat.ne_of_beq_eq_false rfl)
            have h808 : f522 dF = some (.inl (cI G, 61, .inl (nf sa))) := by rw [ef522, va_up_ne _ _ n809]; exact h806
            have n811 : dF ≠ dR := hneL k_dF k_dR (Nat.ne_of_beq_eq_false rfl)
            have h810 : f530 dF = some (.inl (cI G, 61, .inl (nf sa))) := by rw [ef530, va_up_ne _ _ n811]; exact h808
            have n813 : dF ≠ dO := hneL k_dF k_dO (Nat.ne_of_beq_eq_false rfl)
            have n814 : dF ≠ dU := hneL k_dF k_dU (Nat.ne_of_beq_eq_false rfl)
            have n815 : dF ≠ dJ := hneL k_dF k_dJ (Nat.ne_of_beq_eq_false rfl)
            have n816 : dF ≠ dK := hneL k_dF k_dK (Nat.ne_of_beq_eq_false rfl)
            have n817 : dF ≠ dN := hneL k_dF k_dN (Nat.ne_of_beq_eq_false rfl)
            have n818 : dF ≠ dH := hneL k_dF k_dH (Nat.ne_of_beq_eq_false rfl)
            have n819 : dF ≠ dI := hneL k_dF k_dI (Nat.ne_of_beq_eq_false rfl)
            have n820 : dF ≠ dZ := hneL k_dF k_dZ (Nat.ne_of_beq_eq_false rfl)
            have n821 : dF ≠ dT := hneL k_dF k_dT (Nat.ne_of_beq_eq_false rfl)
            have n822 : dF ≠ dL := hneL k_dF k_dL (Nat.ne_of_beq_eq_false rfl)
            have h812 : f617 dF = some (.inl (cI G, 61, .inl (nf sa))) := (hEq.k k770) _ _ h810 (ninc n807 (ninc n809 (ninc n822 (ninc n811 (ninc n821 (ninc n820 (ninc n819 (ninc n818 (ninc n817 (ninc n816 (ninc n815 (ninc n814 (ninc n813 nin0)))))))))))))
            have n824 : dP ≠ mo := hne k_dP k_mo (Nat.ne_of_beq_eq_false rfl)
            have h823 : f484 dP = some (.inl (cI G, 240, .inl (nf pk))) := by rw [ef484, va_up_ne _ _ n824]; exact k_dP
            have n826 : dP ≠ dQ := hneL k_dP k_dQ (Nat.ne_of_beq_eq_false rfl)
            have h825 : f514 dP = some (.inl (cI G, 240, .inl (nf pk))) := by rw [e515, va_up_ne _ _ n826]; exact h823
            have n828 : dP ≠ dS := hneL k_dP k_dS (Nat.ne_of_beq_eq_false rfl)
            have h827 : f522 dP = some (.inl (cI G, 240, .inl (nf pk))) := by rw [ef522, va_up_ne _ _ n828]; exact h825
            have n830 : dP ≠ dR := hneL k_dP k_dR (Nat.ne_of_beq_eq_false rfl)
            have h829 : f530 dP = some (.inl (cI G, 240, .inl (nf pk))) := by rw [ef530, va_up_ne _ _ n830]; exact h827
            have n832 : dP ≠ dO := hneL k_dP k_dO (Nat.ne_of_beq_eq_false rfl)
            have n833 : dP ≠ dU := hneL k_dP k_dU (Nat.ne_of_beq_eq_false rfl)
            have n834 : dP ≠ dJ := hneL k_dP k_dJ (Nat.ne_of_beq_eq_false rfl)
            have n835 : dP ≠ dK := hneL k_dP k_dK (Nat.ne_of_beq_eq_false rfl)
            have n836 : dP ≠ dN := hneL k_dP k_dN (Nat.ne_of_beq_eq_false rfl)
            have n837 : dP ≠ dH := hneL k_dP k_dH (Nat.ne_of_beq_eq_false rfl)
            have n838 : dP ≠ dI := hneL k_dP k_dI (Nat.ne_of_beq_eq_false rfl)
            have n839 : dP ≠ dZ := hneL k_dP k_dZ (Nat.ne_of_beq_eq_false rfl)
            have n840 : dP ≠ dT := hneL k_dP k_dT (Nat.ne_of_beq_eq_false rfl)
            have n841 : dP ≠ dL := hneL k_dP k_dL (Nat.ne_of_beq_eq_false rfl)
            have h831 : f617 dP = some (.inl (cI G, 240, .inl (nf pk))) := (hEq.k k770) _ _ h829 (ninc n826 (ninc n828 (ninc n841 (ninc n830 (ninc n840 (ninc n839 (ninc n838 (ninc n837 (ninc n836 (ninc n835 (ninc n834 (ninc n833 (ninc n832 nin0)))))))))))))
            have n843 : dE ≠ mo := hne k_dE k_mo (Nat.ne_of_beq_eq_false rfl)
            have h842 : f484 dE = some (.inl (cZ G, 240, .inl gh)) := by rw [ef484, va_up_ne _ _ n843]; exact k_dE
            have n845 : dE ≠ dQ := hneL k_dE k_dQ (Nat.ne_of_beq_eq_false rfl)
            have h844 : f514 dE = some (.inl (cZ G, 240, .inl gh)) := by rw [e515, va_up_ne _ _ n845]; exact h842
            have n847 : dE ≠ dS := hneL k_dE k_dS (Nat.ne_of_beq_eq_false rfl)
            have h846 : f522 dE = some (.inl (cZ G, 240, .inl gh)) := by rw [ef522, va_up_ne _ _ n847]; exact h844
            have n849 : dE ≠ dR := hneL k_dE k_dR (Nat.ne_of_beq_eq_false rfl)
            have h848 : f530 dE = some (.inl (cZ G, 240, .inl gh)) := by rw [ef530, va_up_ne _ _ n849]; exact h846
            have n851 : dE ≠ dO := hneL k_dE k_dO (Nat.ne_of_beq_eq_false rfl)
            have n852 : dE ≠ dU := hneL k_dE k_dU (Nat.ne_of_beq_eq_false rfl)
            have n853 : dE ≠ dJ := hneL k_dE k_dJ (Nat.ne_of_beq_eq_false rfl)
            have n854 : dE ≠ dK := hneL k_dE k_dK (Nat.ne_of_beq_eq_false rfl)
            have n855 : dE ≠ dN := hneL k_dE k_dN (Nat.ne_of_beq_eq_false rfl)
            have n856 : dE ≠ dH := hneL k_dE k_dH (Nat.ne_of_beq_eq_false rfl)
            have n857 : dE ≠ dI := hneL k_dE k_dI (Nat.ne_of_beq_eq_false rfl)
            have n858 : dE ≠ dZ := hneL k_dE k_dZ (Nat.ne_of_beq_eq_false rfl)
            have n859 : dE ≠ dT := hneL k_dE k_dT (Nat.ne_of_beq_eq_false rfl)
            have n860 : dE ≠ dL := hneL k_dE k_dL (Nat.ne_of_beq_eq_false rfl)
            have h850 : f617 dE = some (.inl (cZ G, 240, .inl gh)) := (hEq.k k770) _ _ h848 (ninc n845 (ninc n847 (ninc n860 (ninc n849 (ninc n859 (ninc n858 (ninc n857 (ninc n856 (ninc n855 (ninc n854 (ninc n853 (ninc n852 (ninc n851 nin0)))))))))))))
            have n862 : dX ≠ mo := hne k_dX k_mo (Nat.ne_of_beq_eq_false rfl)
            have h861 : f484 dX = some (.inl (cI G, 3, .inl (nf fl))) := by rw [ef484, va_up_ne _ _ n862]; exact k_dX
            have n864 : dX ≠ dQ := hneL k_dX k_dQ (Nat.ne_of_beq_eq_false rfl)
            have h863 : f514 dX = some (.inl (cI G, 3, .inl (nf fl))) := by rw [e515, va_up_ne _ _ n864]; exact h861
            have n866 : dX ≠ dS := hneL k_dX k_dS (Nat.ne_of_beq_eq_false rfl)
            have h865 : f522 dX = some (.inl (cI G, 3, .inl (nf fl))) := by rw [ef522, va_up_ne _ _ n866]; exact h863
            have n868 : dX ≠ dR := hneL k_dX k_dR (Nat.ne_of_beq_eq_false rfl)
            have h867 : f530 dX = some (.inl (cI G, 3, .inl (nf fl))) := by rw [ef530, va_up_ne _ _ n868]; exact h865
            have n870 : dX ≠ dO := hneL k_dX k_dO (Nat.ne_of_beq_eq_false rfl)
            have n871 : dX ≠ dU := hneL k_dX k_dU (Nat.ne_of_beq_eq_false rfl)
            have n872 : dX ≠ dJ := hneL k_dX k_dJ (Nat.ne_of_beq_eq_false rfl)
            have n873 : dX ≠ dK := hneL k_dX k_dK (Nat.ne_of_beq_eq_false rfl)
            have n874 : dX ≠ dN := hneL k_dX k_dN (Nat.ne_of_beq_eq_false rfl)
            have n875 : dX ≠ dH := hneL k_dX k_dH (Nat.ne_of_beq_eq_false rfl)
            have n876 : dX ≠ dI := hneL k_dX k_dI (Nat.ne_of_beq_eq_false rfl)
            have n877 : dX ≠ dZ := hneL k_dX k_dZ (Nat.ne_of_beq_eq_false rfl)
            have n878 : dX ≠ dT := hneL k_dX k_dT (Nat.ne_of_beq_eq_false rfl)
            have n879 : dX ≠ dL := hneL k_dX k_dL (Nat.ne_of_beq_eq_false rfl)
            have h869 : f617 dX = some (.inl (cI G, 3, .inl (nf fl))) := (hEq.k k770) _ _ h867 (ninc n864 (ninc n866 (ninc n879 (ninc n868 (ninc n878 (ninc n877 (ninc n876 (ninc n875 (ninc n874 (ninc n873 (ninc n872 (ninc n871 (ninc n870 nin0)))))))))))))
            have n881 : dY ≠ mo := hne k_dY k_mo (Nat.ne_of_beq_eq_false rfl)
            have h880 : f484 dY = some (.inl (cI G, 3, .inl gl)) := by rw [ef484, va_up_ne _ _ n881]; exact k_dY
            have n883 : dY ≠ dQ := hneL k_dY k_dQ (Nat.ne_of_beq_eq_false rfl)
            have h882 : f514 dY = some (.inl (cI G, 3, .inl gl)) := by rw [e515, va_up_ne _ _ n883]; exact h880
            have n885 : dY ≠ dS := hneL k_dY k_dS (Nat.ne_of_beq_eq_false rfl)
            have h884 : f522 dY = some (.inl (cI G, 3, .inl gl)) := by rw [ef522, va_up_ne _ _ n885]; exact h882
            have n887 : dY ≠ dR := hneL k_dY k_dR (Nat.ne_of_beq_eq_false rfl)
            have h886 : f530 dY = some (.inl (cI G, 3, .inl gl)) := by rw [ef530, va_up_ne _ _ n887]; exact h884
            have n889 : dY ≠ dO := hneL k_dY k_dO (Nat.ne_of_beq_eq_false rfl)
            have n890 : dY ≠ dU := hneL k_dY k_dU (Nat.ne_of_beq_eq_false rfl)
            have n891 : dY ≠ dJ := hneL k_dY k_dJ (Nat.ne_of_beq_eq_false rfl)
            have n892 : dY ≠ dK := hneL k_dY k_dK (Nat.ne_of_beq_eq_false rfl)
            have n893 : dY ≠ dN := hneL k_dY k_dN (Nat.ne_of_beq_eq_false rfl)
            have n894 : dY ≠ dH := hneL k_dY k_dH (Nat.ne_of_beq_eq_false rfl)
            have n895 : dY ≠ dI := hneL k_dY k_dI (Nat.ne_of_beq_eq_false rfl)
            have n896 : dY ≠ dZ := hneL k_dY k_dZ (Nat.ne_of_beq_eq_false rfl)
            have n897 : dY ≠ dT := hneL k_dY k_dT (Nat.ne_of_beq_eq_false rfl)
            have n898 : dY ≠ dL := hneL k_dY k_dL (Nat.ne_of_beq_eq_false rfl)
            have h888 : f617 dY = some (.inl (cI G, 3, .inl gl)) := (hEq.k k770) _ _ h886 (ninc n883 (ninc n885 (ninc n898 (ninc n887 (ninc n897 (ninc n896 (ninc n895 (ninc n894 (ninc n893 (ninc n892 (ninc n891 (ninc n890 (ninc n889 nin0)))))))))))))
            have n900 : dG ≠ mo := hne k_dG k_mo (Nat.ne_of_beq_eq_false rfl)
            have h899 : f484 dG = some (.inl (cI G, 60, .inl (nf gv))) := by rw [ef484, va_up_ne _ _ n900]; exact k_dG
            have n902 : dG ≠ dQ := hneL k_dG k_dQ (Nat.ne_of_beq_eq_false rfl)
            have h901 : f514 dG = some (.inl (cI G, 60, .inl (nf gv))) := by rw [e515, va_up_ne _ _ n902]; exact h899
            have n904 : dG ≠ dS := hneL k_dG k_dS (Nat.ne_of_beq_eq_false rfl)
            have h903 : f522 dG = some (.inl (cI G, 60, .inl (nf gv))) := by rw [ef522, va_up_ne _ _ n904]; exact h901
            have n906 : dG ≠ dR := hneL k_dG k_dR (Nat.ne_of_beq_eq_false rfl)
            have h905 : f530 dG = some (.inl (cI G, 60, .inl (nf gv))) := by rw [ef530, va_up_ne _ _ n906]; exact h903
            have n908 : dG ≠ dO := hneL k_dG k_dO (Nat.ne_of_beq_eq_false rfl)
            have n909 : dG ≠ dU := hneL k_dG k_dU (Nat.ne_of_beq_eq_false rfl)
            have n910 : dG ≠ dJ := hneL k_dG k_dJ (Nat.ne_of_beq_eq_false rfl)
            have n911 : dG ≠ dK := hneL k_dG k_dK (Nat.ne_of_beq_eq_false rfl)
            have n912 : dG ≠ dN := hneL k_dG k_dN (Nat.ne_of_beq_eq_false rfl)
            have n913 : dG ≠ dH := hneL k_dG k_dH (Nat.ne_of_beq_eq_false rfl)
            have n914 : dG ≠ dI := hneL k_dG k_dI (Nat.ne_of_beq_eq_false rfl)
            have n915 : dG ≠ dZ := hneL k_dG k_dZ (Nat.ne_of_beq_eq_false rfl)
            have n916 : dG ≠ dT := hneL k_dG k_dT (Nat.ne_of_beq_eq_false rfl)
            have n917 : dG ≠ dL := hneL k_dG k_dL (Nat.ne_of_beq_eq_false rfl)
            have h907 : f617 dG = some (.inl (cI G, 60, .inl (nf gv))) := (hEq.k k770) _ _ h905 (ninc n902 (ninc n904 (ninc n917 (ninc n906 (ninc n916 (ninc n915 (ninc n914 (ninc n913 (ninc n912 (ninc n911 (ninc n910 (ninc n909 (ninc n908 nin0)))))))))))))
            exact hp_iret (v := (gL_n768 (1 : Int32).toNatClampNeg)) B0 hw hS hr ⟨Nat.le_of_ble_eq_true rfl, Nat.le_of_ble_eq_true rfl⟩ dX5_open_98 (⟨⟨_, rfl⟩, ⟨_, ⟨h771, hND, ⟨_, _, _, _, _, _, _, _, _, _, _, _, _, k_dQ_n768, k_dS_n768, k_dL_n768, k_dR_n768, k_dT_n768, k_dZ_n768, k_dI_n768, k_dH_n768, k_dN_n768, k_dK_n768, k_dJ_n768, k_dU_n768, k_dO_n768, hHd9_n768, (hMn.mono hMn9_n768 (by omega))⟩, h777, h788, h799, h812, h831, h850, h869, h888, h907, hSA, hB9, hfl9⟩⟩, ((show hEq [mo, dW, dA, dQ, dM, dS, dL, dR, dT, dZ, dI, dH, dN, dK, dJ, dU, dO, dF, dP, dE, dX, dY, dG] f f484 from (by rw [ef484]; exact hEq.up List.mem_cons_self)).tr ((show hEq [mo, dW, dA, dQ, dM, dS, dL, dR, dT, dZ, dI, dH, dN, dK, dJ, dU, dO, dF, dP, dE, dX, dY, dG] f484 f514 from (by rw [e515]; exact hEq.up (List.mem_cons_of_mem _ (List.mem_cons_of_mem _ (List.mem_cons_of_mem _ List.mem_cons_self))))).tr ((show hEq [mo, dW, dA, dQ, dM, dS, dL, dR, dT, dZ, dI, dH, dN, dK, dJ, dU, dO, dF, dP, dE, dX, dY, dG] f514 f522 from (by rw [ef522]; exact hEq.up (List.mem_cons_of_mem _ (List.mem_cons_of_mem _ (List.mem_cons_of_mem _ (List.mem_cons_of_mem _ (List.mem_cons_of_mem _ List.mem_cons_self))))))).tr ((show hEq [mo, dW, dA, dQ, dM, dS, dL, dR, dT, dZ, dI, dH, dN, dK, dJ, dU, dO, dF, dP, dE, dX, dY, dG] f522 f530 from (by rw [ef530]; exact hEq.up (List.mem_cons_of_mem _ (List.mem_cons_of_mem _ (List.mem_cons_of_mem _ (List.mem_cons_of_mem _ (List.mem_cons_of_mem _ (List.mem_cons_of_mem _ (List.mem_cons_of_mem _ List.mem_cons_self))))))))).tr (show hEq [mo, dW, dA, dQ, dM, dS, dL, dR, dT, dZ, dI, dH, dN, dK, dJ, dU, dO, dF, dP, dE, dX, dY, dG] f530 f617 from (hEq.mono k770 sub13))))))⟩)
      · refine lv_iconst (v := 2) hx hb dX5_open_21 (by decide) ?_
        refine lv_goto (tgt := 26) hx hb dX5_open_22 (by decide) ?_
        refine hp_put (fs1 := [.int 2, .ref dW, .ref dA, .ref dQ, .ref dM, .ref dS, .ref dL, .ref dR, .ref dT, .ref dZ, .ref dI, .ref dH, .ref dN, .ref dK, .ref dJ, .ref dU, .ref dO, .int (nI n), .int (nI a), .ref dF, .ref dP, .ref dE, .ref dX, .ref dY, .int (nI x), .int (nI cg), .ref dG]) (ty := .int) B0 hw hS 5 rfl in_X5 tyX5 tyX5_ok nmX5 k_mo 0 (by decide) qF_X5_77 rfl (by decide +kernel) rfl rfl (Nat.le_of_ble_eq_true rfl) rfl dX5_open_26 (fun H locs f918 ef918 hw hS => ?_)
        have h919 : f918 mo = some (.inr (5, [.int 2, .ref dW, .ref dA, .ref dQ, .ref dM, .ref dS, .ref dL, .ref dR, .ref dT, .ref dZ, .ref dI, .ref dH, .ref dN, .ref dK, .ref dJ, .ref dU, .ref dO, .int (nI n), .int (nI a), .ref dF, .ref dP, .ref dE, .ref dX, .ref dY, .int (nI x), .int (nI cg), .ref dG])) := by rw [ef918, va_up_self]
        refine lv_aload_n hx hb dX5_open_29 rfl (lv_at hl9 0 rfl) ?_
        refine hp_get B0 hw 5 rfl in_X5 h919 0 (by decide) qF_X5_77 rfl dX5_open_30 ?_
        refine lv_if_le (tgt := 38) hx hb dX5_open_33 (by decide) (fun c9 => absurd c9 (by decide)) (fun _ => ?_)
        refine lv_iconst (v := 0) hx hb dX5_open_36 (by decide) ?_
        have n921 : dQ ≠ mo := hne k_dQ k_mo (Nat.ne_of_beq_eq_false rfl)
        have h920 : f918 dQ = some (.inl (cI G, 12, .inl gQ)) := by rw [ef918, va_up_ne _ _ n921]; exact k_dQ
        have n923 : dS ≠ mo := hne k_dS k_mo (Nat.ne_of_beq_eq_false rfl)
        have h922 : f918 dS = some (.inl (cI G, 2, .inl gS)) := by rw [ef918, va_up_ne _ _ n923]; exact k_dS
        have n925 : dL ≠ mo := hne k_dL k_mo (Nat.ne_of_beq_eq_false rfl)
        have h924 : f918 dL = some (.inl (cI G, 2, .inl gL)) := by rw [ef918, va_up_ne _ _ n925]; exact k_dL
        have n927 : dR ≠ mo := hne k_dR k_mo (Nat.ne_of_beq_eq_false rfl)
        have h926 : f918 dR = some (.inl (cI G, 2, .inl gR)) := by rw [ef918, va_up_ne _ _ n927]; exact k_dR
        have n929 : dT ≠ mo := hne k_dT k_mo (Nat.ne_of_beq_eq_false rfl)
        have h928 : f918 dT = some (.inl (cI G, 2, .inl gT)) := by rw [ef918, va_up_ne _ _ n929]; exact k_dT
        have n931 : dZ ≠ mo := hne k_dZ k_mo (Nat.ne_of_beq_eq_false rfl)
        have h930 : f918 dZ = some (.inl (cZ G, 2, .inl gZ)) := by rw [ef918, va_up_ne _ _ n931]; exact k_dZ
        have n933 : dI ≠ mo := hne k_dI k_mo (Nat.ne_of_beq_eq_false rfl)
        have h932 : f918 dI = some (.inl (cI G, 2, .inl gI)) := by rw [ef918, va_up_ne _ _ n933]; exact k_dI
        have n935 : dH ≠ mo := hne k_dH k_mo (Nat.ne_of_beq_eq_false rfl)
        have h934 : f918 dH = some (.inl (cI G, 2, .inl gH)) := by rw [ef918, va_up_ne _ _ n935]; exact k_dH
        have n937 : dN ≠ mo := hne k_dN k_mo (Nat.ne_of_beq_eq_false rfl)
        have h936 : f918 dN = some (.inl (cI G, 2, .inl gN)) := by rw [ef918, va_up_ne _ _ n937]; exact k_dN
        have n939 : dK ≠ mo := hne k_dK k_mo (Nat.ne_of_beq_eq_false rfl)
        have h938 : f918 dK = some (.inl (cI G, 2048, .inl gK)) := by rw [ef918, va_up_ne _ _ n939]; exact k_dK
        have n941 : dJ ≠ mo := hne k_dJ k_mo (Nat.ne_of_beq_eq_false rfl)
        have h940 : f918 dJ = some (.inl (cI G, 2048, .inl gJ)) := by rw [ef918, va_up_ne _ _ n941]; exact k_dJ
        have n943 : dU ≠ mo := hne k_dU k_mo (Nat.ne_of_beq_eq_false rfl)
        have h942 : f918 dU = some (.inl (cI G, 2048, .inl gU)) := by rw [ef918, va_up_ne _ _ n943]; exact k_dU
        have n945 : dO ≠ mo := hne k_dO k_mo (Nat.ne_of_beq_eq_false rfl)
        have h944 : f918 dO = some (.inl (cI G, 2048, .inl gO)) := by rw [ef918, va_up_ne _ _ n945]; exact k_dO
        have n947 : dW ≠ mo := hne k_dW k_mo (Nat.ne_of_beq_eq_false rfl)
        have h946 : f918 dW = some (.inl (cI G, 12, .inl (jn gw0 gw1))) := by rw [ef918, va_up_ne _ _ n947]; exact k_dW
        have n949 : dA ≠ mo := hne k_dA k_mo (Nat.ne_of_beq_eq_false rfl)
        have h948 : f918 dA = some (.inl (cI G, 12, .inl (jn ga0 ga1))) := by rw [ef918, va_up_ne _ _ n949]; exact k_dA
        have n951 : dM ≠ mo := hne k_dM k_mo (Nat.ne_of_beq_eq_false rfl)
        have h950 : f918 dM = some (.inl (cI G, 2, .inl (mA2 mg0 mg1))) := by rw [ef918, va_up_ne _ _ n951]; exact k_dM
        have n953 : dF ≠ mo := hne k_dF k_mo (Nat.ne_of_beq_eq_false rfl)
        have h952 : f918 dF = some (.inl (cI G, 61, .inl (nf sa))) := by rw [ef918, va_up_ne _ _ n953]; exact k_dF
        have n955 : dP ≠ mo := hne k_dP k_mo (Nat.ne_of_beq_eq_false rfl)
        have h954 : f918 dP = some (.inl (cI G, 240, .inl (nf pk))) := by rw [ef918, va_up_ne _ _ n955]; exact k_dP
        have n957 : dE ≠ mo := hne k_dE k_mo (Nat.ne_of_beq_eq_false rfl)
        have h956 : f918 dE = some (.inl (cZ G, 240, .inl gh)) := by rw [ef918, va_up_ne _ _ n957]; exact k_dE
        have n959 : dX ≠ mo := hne k_dX k_mo (Nat.ne_of_beq_eq_false rfl)
        have h958 : f918 dX = some (.inl (cI G, 3, .inl (nf fl))) := by rw [ef918, va_up_ne _ _ n959]; exact k_dX
        have n961 : dY ≠ mo := hne k_dY k_mo (Nat.ne_of_beq_eq_false rfl)
        have h960 : f918 dY = some (.inl (cI G, 3, .inl gl)) := by rw [ef918, va_up_ne _ _ n961]; exact k_dY
        have n963 : dG ≠ mo := hne k_dG k_mo (Nat.ne_of_beq_eq_false rfl)
        have h962 : f918 dG = some (.inl (cI G, 60, .inl (nf gv))) := by rw [ef918, va_up_ne _ _ n963]; exact k_dG
        exact hp_iret (v := 0) B0 hw hS hr ⟨Nat.le_of_ble_eq_true rfl, Nat.le_of_ble_eq_true rfl⟩ dX5_open_37 (⟨⟨_, rfl⟩, ⟨_, ⟨h919, hND, ⟨_, _, _, _, _, _, _, _, _, _, _, _, _, h920, h922, h924, h926, h928, h930, h932, h934, h936, h938, h940, h942, h944, hHd9, (hMn.mono hMn9 (by omega))⟩, h946, h948, h950, h952, h954, h956, h958, h960, h962, hSA, hB9, hfl9⟩⟩, (show hEq [mo, dW, dA, dQ, dM, dS, dL, dR, dT, dZ, dI, dH, dN, dK, dJ, dU, dO, dF, dP, dE, dX, dY, dG] f f918 from (by rw [ef918]; exact hEq.up List.mem_cons_self))⟩)
    · subst ev9
      refine W.eq (g2 := F0 m 5 ls [.int 0, .ref mo]) rfl ?_
      refine lv_if_ne (tgt := 12) hx hb dX5_open_5 (by decide) (fun c9 => absurd (by decide) c9) (fun _ => ?_)
      refine lv_iconst (v := 1) hx hb dX5_open_8 (by decide) ?_
      refine lv_goto (tgt := 26) hx hb dX5_open_9 (by decide) ?_
      refine hp_put (fs1 := [.int 1, .ref dW, .ref dA, .ref dQ, .ref dM, .ref dS, .ref dL, .ref dR, .ref dT, .ref dZ, .ref dI, .ref dH, .ref dN, .ref dK, .ref dJ, .ref dU, .ref dO, .int (nI n), .int (nI a), .ref dF, .ref dP, .ref dE, .ref dX, .ref dY, .int (nI x), .int (nI cg), .ref dG]) (ty := .int) B0 hw hS 5 rfl in_X5 tyX5 tyX5_ok nmX5 k_mo 0 (by decide) qF_X5_77 rfl (by decide +kernel) rfl rfl (Nat.le_of_ble_eq_true rfl) rfl dX5_open_26 (fun H locs f964 ef964 hw hS => ?_)
      have h965 : f964 mo = some (.inr (5, [.int 1, .ref dW, .ref dA, .ref dQ, .ref dM, .ref dS, .ref dL, .ref dR, .ref dT, .ref dZ, .ref dI, .ref dH, .ref dN, .ref dK, .ref dJ, .ref dU, .ref dO, .int (nI n), .int (nI a), .ref dF, .ref dP, .ref dE, .ref dX, .ref dY, .int (nI x), .int (nI cg), .ref dG])) := by rw [ef964, va_up_self]
      refine lv_aload_n hx hb dX5_open_29 rfl (lv_at hl9 0 rfl) ?_
      refine hp_get B0 hw 5 rfl in_X5 h965 0 (by decide) qF_X5_77 rfl dX5_open_30 ?_
      refine lv_if_le (tgt := 38) hx hb dX5_open_33 (by decide) (fun c9 => absurd c9 (by decide)) (fun _ => ?_)
      refine lv_iconst (v := 0) hx hb dX5_open_36 (by decide) ?_
      have n967 : dQ ≠ mo := hne k_dQ k_mo (Nat.ne_of_beq_eq_false rfl)
      have h966 : f964 dQ = some (.inl (cI G, 12, .inl gQ)) := by rw [ef964, va_up_ne _ _ n967]; exact k_dQ
      have n969 : dS ≠ mo := hne k_dS k_mo (Nat.ne_of_beq_eq_false rfl)
      have h968 : f964 dS = some (.inl (cI G, 2, .inl gS)) := by rw [ef964, va_up_ne _ _ n969]; exact k_dS
      have n971 : dL ≠ mo := hne k_dL k_mo (Nat.ne_of_beq_eq_false rfl)
      have h970 : f964 dL = some (.inl (cI G, 2, .inl gL)) := by rw [ef964, va_up_ne _ _ n971]; exact k_dL
      have n973 : dR ≠ mo := hne k_dR k_mo (Nat.ne_of_beq_eq_false rfl)
      have h972 : f964 dR = some (.inl (cI G, 2, .inl gR)) := by rw [ef964, va_up_ne _ _ n973]; exact k_dR
      have n975 : dT ≠ mo := hne k_dT k_mo (Nat.ne_of_beq_eq_false rfl)
      have h974 : f964 dT = some (.inl (cI G, 2, .inl gT)) := by rw [ef964, va_up_ne _ _ n975]; exact k_dT
      have n977 : dZ ≠ mo := hne k_dZ k_mo (Nat.ne_of_beq_eq_false rfl)
      have h976 : f964 dZ = some (.inl (cZ G, 2, .inl gZ)) := by rw [ef964, va_up_ne _ _ n977]; exact k_dZ
      have n979 : dI ≠ mo := hne k_dI k_mo (Nat.ne_of_beq_eq_false rfl)
      have h978 : f964 dI = some (.inl (cI G, 2, .inl gI)) := by rw [ef964, va_up_ne _ _ n979]; exact k_dI
      have n981 : dH ≠ mo := hne k_dH k_mo (Nat.ne_of_beq_eq_false rfl)
      have h980 : f964 dH = some (.inl (cI G, 2, .inl gH)) := by rw [ef964, va_up_ne _ _ n981]; exact k_dH
      have n983 : dN ≠ mo := hne k_dN k_mo (Nat.ne_of_beq_eq_false rfl)
      have h982 : f964 dN = some (.inl (cI G, 2, .inl gN)) := by rw [ef964, va_up_ne _ _ n983]; exact k_dN
      have n985 : dK ≠ mo := hne k_dK k_mo (Nat.ne_of_beq_eq_false rfl)
      have h984 : f964 dK = some (.inl (cI G, 2048, .inl gK)) := by rw [ef964, va_up_ne _ _ n985]; exact k_dK
      have n987 : dJ ≠ mo := hne k_dJ k_mo (Nat.ne_of_beq_eq_false rfl)
      have h986 : f964 dJ = some (.inl (cI G, 2048, .inl gJ)) := by rw [ef964, va_up_ne _ _ n987]; exact k_dJ
      have n989 : dU ≠ mo := hne k_dU k_mo (Nat.ne_of_beq_eq_false rfl)
      have h988 : f964 dU = some (.inl (cI G, 2048, .inl gU)) := by rw [ef964, va_up_ne _ _ n989]; exact k_dU
      have n991 : dO ≠ mo := hne k_dO k_mo (Nat.ne_of_beq_eq_false rfl)
      have h990 : f964 dO = some (.inl (cI G, 2048, .inl gO)) := by rw [ef964, va_up_ne _ _ n991]; exact k_dO
      have n993 : dW ≠ mo := hne k_dW k_mo (Nat.ne_of_beq_eq_false rfl)
      have h992 : f964 dW = some (.inl (cI G, 12, .inl (jn gw0 gw1))) := by rw [ef964, va_up_ne _ _ n993]; exact k_dW
      have n995 : dA ≠ mo := hne k_dA k_mo (Nat.ne_of_beq_eq_false rfl)
      have h994 : f964 dA = some (.inl (cI G, 12, .inl (jn ga0 ga1))) := by rw [ef964, va_up_ne _ _ n995]; exact k_dA
      have n997 : dM ≠ mo := hne k_dM k_mo (Nat.ne_of_beq_eq_false rfl)
      have h996 : f964 dM = some (.inl (cI G, 2, .inl (mA2 mg0 mg1))) := by rw [ef964, va_up_ne _ _ n997]; exact k_dM
      have n999 : dF ≠ mo := hne k_dF k_mo (Nat.ne_of_beq_eq_false rfl)
      have h998 : f964 dF = some (.inl (cI G, 61, .inl (nf sa))) := by rw [ef964, va_up_ne _ _ n999]; exact k_dF
      have n1001 : dP ≠ mo := hne k_dP k_mo (Nat.ne_of_beq_eq_false rfl)
      have h1000 : f964 dP = some (.inl (cI G, 240, .inl (nf pk))) := by rw [ef964, va_up_ne _ _ n1001]; exact k_dP
      have n1003 : dE ≠ mo := hne k_dE k_mo (Nat.ne_of_beq_eq_false rfl)
      have h1002 : f964 dE = some (.inl (cZ G, 240, .inl gh)) := by rw [ef964, va_up_ne _ _ n1003]; exact k_dE
      have n1005 : dX ≠ mo := hne k_dX k_mo (Nat.ne_of_beq_eq_false rfl)
      have h1004 : f964 dX = some (.inl (cI G, 3, .inl (nf fl))) := by rw [ef964, va_up_ne _ _ n1005]; exact k_dX
      have n1007 : dY ≠ mo := hne k_dY k_mo (Nat.ne_of_beq_eq_false rfl)
      have h1006 : f964 dY = some (.inl (cI G, 3, .inl gl)) := by rw [ef964, va_up_ne _ _ n1007]; exact k_dY
      have n1009 : dG ≠ mo := hne k_dG k_mo (Nat.ne_of_beq_eq_false rfl)
      have h1008 : f964 dG = some (.inl (cI G, 60, .inl (nf gv))) := by rw [ef964, va_up_ne _ _ n1009]; exact k_dG
      exact hp_iret (v := 0) B0 hw hS hr ⟨Nat.le_of_ble_eq_true rfl, Nat.le_of_ble_eq_true rfl⟩ dX5_open_37 (⟨⟨_, rfl⟩, ⟨_, ⟨h965, hND, ⟨_, _, _, _, _, _, _, _, _, _, _, _, _, h966, h968, h970, h972, h974, h976, h978, h980, h982, h984, h986, h988, h990, hHd9, (hMn.mono hMn9 (by omega))⟩, h992, h994, h996, h998, h1000, h1002, h1004, h1006, h1008, hSA, hB9, hfl9⟩⟩, (show hEq [mo, dW, dA, dQ, dM, dS, dL, dR, dT, dZ, dI, dH, dN, dK, dJ, dU, dO, dF, dP, dE, dX, dY, dG] f f964 from (by rw [ef964]; exact hEq.up List.mem_cons_self))⟩)

set_option maxHeartbeats 4000000 in
set_option maxRecDepth 100000 in
theorem c_W5_close {l : Launch} (hl : l.stackTraces = false) (G : hG) (f : hM) (mo dW dA dQ dM dS dL dR dT dZ dI dH dN dK dJ dU dO dF dP dE dX dY dG : Nat) (th : Int32) (B : Nat) (gw0 : Nat → Int32) (ga0 : Nat → Int32) (gw1 : Nat → Int32) (ga1 : Nat → Int32) (mg0 : Int32) (mg1 : Int32) (n : Nat) (a : Nat) (cg : Nat) (x : Nat) (sa : Nat → Nat) (pk : Nat → Nat) (fl : Nat → Nat) (gv : Nat → Nat) (gh : Nat → Int32) (gl : Nat → Int32) (hC : MW G f mo dW dA dQ dM dS dL dR dT dZ dI dH dN dK dJ dU dO dF dP dE dX dY dG th B gw0 ga0 gw1 ga1 mg0 mg1 n a cg x sa pk fl gv gh gl) (hBB : B + 100 < 100000) (i : Int32) : CT l yX5_close (.code yX5_close cX5_close 3 (some .int)) 2 42 0 0 G [.ref mo, .int i] f (fun v f1 => (∃ r9 : Int32, v = some (.int r9)) ∧ (∃ t9 : Int32, MW G f1 mo dW dA dQ dM dS dL dR dT dZ dI dH dN dK dJ dU dO dF dP dE dX dY dG t9 (B + 100) gw0 ga0 gw1 ga1 mg0 mg1 n a cg x sa pk fl gv gh gl) ∧ hEq [mo, dW, dA, dQ, dM, dS, dL, dR, dT, dZ, dI, dH, dN, dK, dJ, dU, dO, dF, dP, dE, dX, dY, dG] f f1) (fun E f1 => False) := by
  refine hp_start hl (own := RX5) (by decide) rfl (Nat.le_of_ble_eq_true rfl) ?_
  intro p e s m args below meth c B0 hr hnm hout hw hS ls hl9
  have hx := B0.1
  have hb := B0.2.1
  have hl9 : lv_has ls 3 [(0, .ref mo), (1, .int i)] := hl9
  obtain ⟨k_mo, hND, hLM, k_dW, k_dA, k_dM, k_dF, k_dP, k_dE, k_dX, k_dY, k_dG, hSA, hB9, hfl9⟩ := id hC
  obtain ⟨nd_dW_dA, nd_dW_dQ, nd_dA_dQ, nd_dM_dS, nd_dM_dL, nd_dM_dR, nd_dM_dT, nd_dM_dZ, nd_dM_dI, nd_dM_dH, nd_dM_dN, nd_dS_dL, nd_dS_dR, nd_dS_dT, nd_dS_dZ, nd_dS_dI, nd_dS_dH, nd_dS_dN, nd_dL_dR, nd_dL_dT, nd_dL_dZ, nd_dL_dI, nd_dL_dH, nd_dL_dN, nd_dR_dT, nd_dR_dZ, nd_dR_dI, nd_dR_dH, nd_dR_dN, nd_dT_dZ, nd_dT_dI, nd_dT_dH, nd_dT_dN, nd_dZ_dI, nd_dZ_dH, nd_dZ_dN, nd_dI_dH, nd_dI_dN, nd_dH_dN, nd_dK_dJ, nd_dK_dU, nd_dK_dO, nd_dJ_dU, nd_dJ_dO, nd_dU_dO, nd_dP_dE, nd_dX_dY⟩ := id hND
  obtain ⟨gQ, gS, gL, gR, gT, gZ, gI, gH, gN, gK, gJ, gU, gO, k_dQ, k_dS, k_dL, k_dR, k_dT, k_dZ, k_dI, k_dH, k_dN, k_dK, k_dJ, k_dU, k_dO, hHd9, hMn9⟩ := id hLM
  refine lv_aload_n hx hb dX5_close_0 rfl (lv_at hl9 0 rfl) ?_
  refine lv_iload_n hx hb dX5_close_1 rfl (lv_at hl9 1 rfl) ?_
  refine hp_S (As := [.int i]) (rest := [.ref mo]) B0 hw hS (c_X5_isEnd hl G f i) mS_X5_isEnd qM_X5_85 rfl rfl hl9.1 (Nat.le_of_ble_eq_true rfl) ⟨⟨Nat.le_of_ble_eq_true rfl, Nat.le_of_ble_eq_true rfl⟩, Nat.le_of_ble_eq_true rfl, Nat.le_of_ble_eq_true rfl⟩ dX5_close_2 (fun E ce q9 f1 H locs hPX hw hS hce hcv hcl => ?_) (fun v f1 H locs hP hw hS => ?_)
  · exact hPX.elim
  · obtain ⟨ef9, hv9⟩ := hP
    rw [ef9] at hw
    rcases hv9 with ⟨b9 | b9, ev9⟩ | ⟨hnE, ev9⟩
    · subst ev9
      subst b9
      refine W.eq (g2 := F0 m 5 ls [.int 1, .ref mo]) rfl ?_
      refine lv_if_ne (tgt := 12) hx hb dX5_close_5 (by decide) (fun _ => ?_) (fun c9 => absurd c9 (by decide))
      refine lv_aload_n hx hb dX5_close_12 rfl (lv_at hl9 0 rfl) ?_
      refine hp_get B0 hw 5 rfl in_X5 k_mo 5 (by decide) qF_X5_22 rfl dX5_close_13 ?_
      refine lv_iload_n hx hb dX5_close_16 rfl (lv_at hl9 1 rfl) ?_
      refine hp_iald B0 hw k_dS (by unfold vp_in; decide) dX5_close_17 ?_
      refine lv_if_ne (tgt := 25) hx hb dX5_close_18 (by decide) (fun c2 => ?_) (fun c2 => ?_)
      · refine lv_iconst (v := 0) hx hb dX5_close_25 (by decide) ?_
        refine hp_put (fs1 := [.int 0, .ref dW, .ref dA, .ref dQ, .ref dM, .ref dS, .ref dL, .ref dR, .ref dT, .ref dZ, .ref dI, .ref dH, .ref dN, .ref dK, .ref dJ, .ref dU, .ref dO, .int (nI n), .int (nI a), .ref dF, .ref dP, .ref dE, .ref dX, .ref dY, .int (nI x), .int (nI cg), .ref dG]) (ty := .int) B0 hw hS 5 rfl in_X5 tyX5 tyX5_ok nmX5 k_mo 0 (by decide) qF_X5_77 rfl (by decide +kernel) rfl rfl (Nat.le_of_ble_eq_true rfl) rfl dX5_close_26 (fun H locs f3 ef3 hw hS => ?_)
        have h4 : f3 mo = some (.inr (5, [.int 0, .ref dW, .ref dA, .ref dQ, .ref dM, .ref dS, .ref dL, .ref dR, .ref dT, .ref dZ, .ref dI, .ref dH, .ref dN, .ref dK, .ref dJ, .ref dU, .ref dO, .int (nI n), .int (nI a), .ref dF, .ref dP, .ref dE, .ref dX, .ref dY, .int (nI x), .int (nI cg), .ref dG])) := by rw [ef3, va_up_self]
        refine lv_aload_n hx hb dX5_close_29 rfl (lv_at hl9 0 rfl) ?_
        refine hp_get B0 hw 5 rfl in_X5 h4 0 (by decide) qF_X5_77 rfl dX5_close_30 ?_
        refine lv_if_le (tgt := 38) hx hb dX5_close_33 (by decide) (fun _ => ?_) (fun c9 => absurd (by decide) c9)
        refine lv_aload_n hx hb dX5_close_38 rfl (lv_at hl9 0 rfl) ?_
        refine hp_get B0 hw 5 rfl in_X5 h4 5 (by decide) qF_X5_22 rfl dX5_close_39 ?_
        refine lv_iload_n hx hb dX5_close_42 rfl (lv_at hl9 1 rfl) ?_
        have n6 : dS ≠ mo := hne k_dS k_mo (Nat.ne_of_beq_eq_false rfl)
        have h5 : f3 dS = some (.inl (cI G, 2, .inl gS)) := by rw [ef3, va_up_ne _ _ n6]; exact k_dS
        refine hp_iald B0 hw h5 (by unfold vp_in; decide) dX5_close_43 ?_
        refine lv_istore_n (lv' := [(2, .int (gS (0 : Int32).toNatClampNeg)), (0, .ref mo), (1, .int 0)]) hx hb dX5_close_44 rfl hl9 (by decide) rfl (fun ls hl9 => ?_)
        refine lv_aload_n hx hb dX5_close_45 rfl (lv_at hl9 1 rfl) ?_
        refine lv_iload_n hx hb dX5_close_46 rfl (lv_at hl9 2 rfl) ?_
        refine lv_iconst (v := 4) hx hb dX5_close_47 (by decide) ?_
        refine lv_iconst (v := 0) hx hb dX5_close_48 (by decide) ?_
        refine lv_iconst (v := 0) hx hb dX5_close_49 (by decide) ?_
        have n8 : dM ≠ mo := hne k_dM k_mo (Nat.ne_of_beq_eq_false rfl)
        have h7 : f3 dM = some (.inl (cI G, 2, .inl (mA2 mg0 mg1))) := by rw [ef3, va_up_ne _ _ n8]; exact k_dM
        have n10 : dA ≠ mo := hne k_dA k_mo (Nat.ne_of_beq_eq_false rfl)
        have h9 : f3 dA = some (.inl (cI G, 12, .inl (jn ga0 ga1))) := by rw [ef3, va_up_ne _ _ n10]; exact k_dA
        have n12 : dQ ≠ mo := hne k_dQ k_mo (Nat.ne_of_beq_eq_false rfl)
        have h11 : f3 dQ = some (.inl (cI G, 12, .inl gQ)) := by rw [ef3, va_up_ne _ _ n12]; exact k_dQ
        have n14 : dL ≠ mo := hne k_dL k_mo (Nat.ne_of_beq_eq_false rfl)
        have h13 : f3 dL = some (.inl (cI G, 2, .inl gL)) := by rw [ef3, va_up_ne _ _ n14]; exact k_dL
        have n16 : dR ≠ mo := hne k_dR k_mo (Nat.ne_of_beq_eq_false rfl)
        have h15 : f3 dR = some (.inl (cI G, 2, .inl gR)) := by rw [ef3, va_up_ne _ _ n16]; exact k_dR
        have n18 : dT ≠ mo := hne k_dT k_mo (Nat.ne_of_beq_eq_false rfl)
        have h17 : f3 dT = some (.inl (cI G, 2, .inl gT)) := by rw [ef3, va_up_ne _ _ n18]; exact k_dT
        have n20 : dZ ≠ mo := hne k_dZ k_mo (Nat.ne_of_beq_eq_false rfl)
        have h19 : f3 dZ = some (.inl (cZ G, 2, .inl gZ)) := by rw [ef3, va_up_ne _ _ n20]; exact k_dZ
        have n22 : dI ≠ mo := hne k_dI k_mo (Nat.ne_of_beq_eq_false rfl)
        have h21 : f3 dI = some (.inl (cI G, 2, .inl gI)) := by rw [ef3, va_up_ne _ _ n22]; exact k_dI
        have n24 : dH ≠ mo := hne k_dH k_mo (Nat.ne_of_beq_eq_false rfl)
        have h23 : f3 dH = some (.inl (cI G, 2, .inl gH)) := by rw [ef3, va_up_ne _ _ n24]; exact k_dH
        have n26 : dN ≠ mo := hne k_dN k_mo (Nat.ne_of_beq_eq_false rfl)
        have h25 : f3 dN = some (.inl (cI G, 2, .inl gN)) := by rw [ef3, va_up_ne _ _ n26]; exact k_dN
        have n28 : dK ≠ mo := hne k_dK k_mo (Nat.ne_of_beq_eq_false rfl)
        have h27 : f3 dK = some (.inl (cI G, 2048, .inl gK)) := by rw [ef3, va_up_ne _ _ n28]; exact k_dK
        have n30 : dJ ≠ mo := hne k_dJ k_mo (Nat.ne_of_beq_eq_false rfl)
        have h29 : f3 dJ = some (.inl (cI G, 2048, .inl gJ)) := by rw [ef3, va_up_ne _ _ n30]; exact k_dJ
        have n32 : dU ≠ mo := hne k_dU k_mo (Nat.ne_of_beq_eq_false rfl)
        have h31 : f3 dU = some (.inl (cI G, 2048, .inl gU)) := by rw [ef3, va_up_ne _ _ n32]; exact k_dU
        have n34 : dO ≠ mo := hne k_dO k_mo (Nat.ne_of_beq_eq_false rfl)
        have h33 : f3 dO = some (.inl (cI G, 2048, .inl gO)) := by rw [ef3, va_up_ne _ _ n34]; exact k_dO
        refine hp_V (ci := 5) (As := [.int 0, .int 4, .int 0, .int 0]) (rest := []) B0 hw hS (c_W5_sends hl G f3 mo dW dA dQ dM dS dL dR dT dZ dI dH dN dK dJ dU dO dF dP dE dX dY dG 0 (nI n) (nI a) (nI x) (nI cg) h4 hND (mA2 mg0 mg1) (jn ga0 ga1) h7 h9 hSA B ⟨_, _, _, _, _, _, _, _, _, _, _, _, _, h11, h5, h13, h15, h17, h19, h21, h23, h25, h27, h29, h31, h33, hHd9, (hMn.mono hMn9 (by omega))⟩ (by omega) 0 4 0 0 (Or.inl rfl)) mV_X5_sends qM_X5_96 rfl h4 rfl rfl hl9.1 (Nat.le_of_ble_eq_true rfl) ⟨⟨Nat.le_of_ble_eq_true rfl, Nat.le_of_ble_eq_true rfl⟩, Nat.le_of_ble_eq_true rfl, Nat.le_of_ble_eq_true rfl⟩ dX5_close_50 (fun E ce q9 f35 H locs hPX hw hS hce hcv hcl => ?_) (fun v f35 H locs hP hw hS => ?_)
        · exact hPX.elim
        · obtain ⟨ev9, h37, k38⟩ := hP
          have h37L := h37
          obtain ⟨gQ_n36, gS_n36, gL_n36, gR_n36, gT_n36, gZ_n36, gI_n36, gH_n36, gN_n36, gK_n36, gJ_n36, gU_n36, gO_n36, k_dQ_n36, k_dS_n36, k_dL_n36, k_dR_n36, k_dT_n36, k_dZ_n36, k_dI_n36, k_dH_n36, k_dN_n36, k_dK_n36, k_dJ_n36, k_dU_n36, k_dO_n36, hHd9_n36, hMn9_n36⟩ := id h37
          subst ev9
          refine W.eq (g2 := F0 m 53 ls []) rfl ?_
          refine lv_aload_n hx hb dX5_close_53 rfl (lv_at hl9 1 rfl) ?_
          have h39 : f35 mo = some (.inr (5, [.int 0, .ref dW, .ref dA, .ref dQ, .ref dM, .ref dS, .ref dL, .ref dR, .ref dT, .ref dZ, .ref dI, .ref dH, .ref dN, .ref dK, .ref dJ, .ref dU, .ref dO, .int (nI n), .int (nI a), .ref dF, .ref dP, .ref dE, .ref dX, .ref dY, .int (nI x), .int (nI cg), .ref dG])) := (hEq.k k38) _ _ h4 (ninc (Ne.symm n12) (ninc (Ne.symm n6) (ninc (Ne.symm n14) (ninc (Ne.symm n16) (ninc (Ne.symm n18) (ninc (Ne.symm n20) (ninc (Ne.symm n22) (ninc (Ne.symm n24) (ninc (Ne.symm n26) (ninc (Ne.symm n28) (ninc (Ne.symm n30) (ninc (Ne.symm n32) (ninc (Ne.symm n34) nin0)))))))))))))
          refine hp_get B0 hw 5 rfl in_X5 h39 5 (by decide) qF_X5_22 rfl dX5_close_54 ?_
          refine lv_iload_n hx hb dX5_close_57 rfl (lv_at hl9 2 rfl) ?_
          refine lv_iconst (v := 0) hx hb dX5_close_58 (by decide) ?_
          refine hp_iast B0 hw hS k_dS_n36 (by unfold vp_in; decide) dX5_close_59 (fun H locs f40 ef40 hw hS => ?_)
          have h41 : f40 dS = some (.inl (cI G, 2, .inl (upd gS_n36 (0 : Int32).toNatClampNeg 0))) := by rw [ef40, va_up_self]
          refine lv_iload_n hx hb dX5_close_60 rfl (lv_at hl9 0 rfl) ?_
          have h42 : f40 mo = some (.inr (5, [.int 0, .ref dW, .ref dA, .ref dQ, .ref dM, .ref dS, .ref dL, .ref dR, .ref dT, .ref dZ, .ref dI, .ref dH, .ref dN, .ref dK, .ref dJ, .ref dU, .ref dO, .int (nI n), .int (nI a), .ref dF, .ref dP, .ref dE, .ref dX, .ref dY, .int (nI x), .int (nI cg), .ref dG])) := by rw [ef40, va_up_ne _ _ (Ne.symm n6)]; exact h39
          have n44 : dQ ≠ dS := hneL k_dQ k_dS (Nat.ne_of_beq_eq_false rfl)
          have h43 : f40 dQ = some (.inl (cI G, 12, .inl gQ_n36)) := by rw [ef40, va_up_ne _ _ n44]; exact k_dQ_n36
          have h45 : f40 dL = some (.inl (cI G, 2, .inl gL_n36)) := by rw [ef40, va_up_ne _ _ (Ne.symm nd_dS_dL)]; exact k_dL_n36
          have h46 : f40 dR = some (.inl (cI G, 2, .inl gR_n36)) := by rw [ef40, va_up_ne _ _ (Ne.symm nd_dS_dR)]; exact k_dR_n36
          have h47 : f40 dT = some (.inl (cI G, 2, .inl gT_n36)) := by rw [ef40, va_up_ne _ _ (Ne.symm nd_dS_dT)]; exact k_dT_n36
          have h48 : f40 dZ = some (.inl (cZ G, 2, .inl gZ_n36)) := by rw [ef40, va_up_ne _ _ (Ne.symm nd_dS_dZ)]; exact k_dZ_n36
          have h49 : f40 dI = some (.inl (cI G, 2, .inl gI_n36)) := by rw [ef40, va_up_ne _ _ (Ne.symm nd_dS_dI)]; exact k_dI_n36
          have h50 : f40 dH = some (.inl (cI G, 2, .inl gH_n36)) := by rw [ef40, va_up_ne _ _ (Ne.symm nd_dS_dH)]; exact k_dH_n36
          have h51 : f40 dN = some (.inl (cI G, 2, .inl gN_n36)) := by rw [ef40, va_up_ne _ _ (Ne.symm nd_dS_dN)]; exact k_dN_n36
          have n53 : dK ≠ dS := hneL k_dK k_dS (Nat.ne_of_beq_eq_false rfl)
          have h52 : f40 dK = some (.inl (cI G, 2048, .inl gK_n36)) := by rw [ef40, va_up_ne _ _ n53]; exact k_dK_n36
          have n55 : dJ ≠ dS := hneL k_dJ k_dS (Nat.ne_of_beq_eq_false rfl)
          have h54 : f40 dJ = some (.inl (cI G, 2048, .inl gJ_n36)) := by rw [ef40, va_up_ne _ _ n55]; exact k_dJ_n36
          have n57 : dU ≠ dS := hneL k_dU k_dS (Nat.ne_of_beq_eq_false rfl)
          have h56 : f40 dU = some (.inl (cI G, 2048, .inl gU_n36)) := by rw [ef40, va_up_ne _ _ n57]; exact k_dU_n36
          have n59 : dO ≠ dS := hneL k_dO k_dS (Nat.ne_of_beq_eq_false rfl)
          have h58 : f40 dO = some (.inl (cI G, 2048, .inl gO_n36)) := by rw [ef40, va_up_ne _ _ n59]; exact k_dO_n36
          have n61 : dW ≠ mo := hne k_dW k_mo (Nat.ne_of_beq_eq_false rfl)
          have h60 : f3 dW = some (.inl (cI G, 12, .inl (jn gw0 gw1))) := by rw [ef3, va_up_ne _ _ n61]; exact k_dW
          have n63 : dW ≠ dO := hneL k_dW k_dO (Nat.ne_of_beq_eq_false rfl)
          have n64 : dW ≠ dU := hneL k_dW k_dU (Nat.ne_of_beq_eq_false rfl)
          have n65 : dW ≠ dJ := hneL k_dW k_dJ (Nat.ne_of_beq_eq_false rfl)
          have n66 : dW ≠ dK := hneL k_dW k_dK (Nat.ne_of_beq_eq_false rfl)
          have n67 : dW ≠ dN := hneL k_dW k_dN (Nat.ne_of_beq_eq_false rfl)
          have n68 : dW ≠ dH := hneL k_dW k_dH (Nat.ne_of_beq_eq_false rfl)
          have n69 : dW ≠ dI := hneL k_dW k_dI (Nat.ne_of_beq_eq_false rfl)
          have n70 : dW ≠ dZ := hneL k_dW k_dZ (Nat.ne_of_beq_eq_false rfl)
          have n71 : dW ≠ dT := hneL k_dW k_dT (Nat.ne_of_beq_eq_false rfl)
          have n72 : dW ≠ dR := hneL k_dW k_dR (Nat.ne_of_beq_eq_false rfl)
          have n73 : dW ≠ dL := hneL k_dW k_dL (Nat.ne_of_beq_eq_false rfl)
          have n74 : dW ≠ dS := hneL k_dW k_dS (Nat.ne_of_beq_eq_false rfl)
          have h62 : f35 dW = some (.inl (cI G, 12, .inl (jn gw0 gw1))) := (hEq.k k38) _ _ h60 (ninc nd_dW_dQ (ninc n74 (ninc n73 (ninc n72 (ninc n71 (ninc n70 (ninc n69 (ninc n68 (ninc n67 (ninc n66 (ninc n65 (ninc n64 (ninc n63 nin0)))))))))))))
          have h75 : f40 dW = some (.inl (cI G, 12, .inl (jn gw0 gw1))) := by rw [ef40, va_up_ne _ _ n74]; exact h62
          have n77 : dA ≠ dO := hneL k_dA k_dO (Nat.ne_of_beq_eq_false rfl)
          have n78 : dA ≠ dU := hneL k_dA k_dU (Nat.ne_of_beq_eq_false rfl)
          have n79 : dA ≠ dJ := hneL k_dA k_dJ (Nat.ne_of_beq_eq_false rfl)
          have n80 : dA ≠ dK := hneL k_dA k_dK (Nat.ne_of_beq_eq_false rfl)
          have n81 : dA ≠ dN := hneL k_dA k_dN (Nat.ne_of_beq_eq_false rfl)
          have n82 : dA ≠ dH := hneL k_dA k_dH (Nat.ne_of_beq_eq_false rfl)
          have n83 : dA ≠ dI := hneL k_dA k_dI (Nat.ne_of_beq_eq_false rfl)
          have n84 : dA ≠ dZ := hneL k_dA k_dZ (Nat.ne_of_beq_eq_false rfl)
          have n85 : dA ≠ dT := hneL k_dA k_dT (Nat.ne_of_beq_eq_false rfl)
          have n86 : dA ≠ dR := hneL k_dA k_dR (Nat.ne_of_beq_eq_false rfl)
          have n87 : dA ≠ dL := hneL k_dA k_dL (Nat.ne_of_beq_eq_false rfl)
          have n88 : dA ≠ dS := hneL k_dA k_dS (Nat.ne_of_beq_eq_false rfl)
          have h76 : f35 dA = some (.inl (cI G, 12, .inl (jn ga0 ga1))) := (hEq.k k38) _ _ h9 (ninc nd_dA_dQ (ninc n88 (ninc n87 (ninc n86 (ninc n85 (ninc n84 (ninc n83 (ninc n82 (ninc n81 (ninc n80 (ninc n79 (ninc n78 (ninc n77 nin0)))))))))))))
          have h89 : f40 dA = some (.inl (cI G, 12, .inl (jn ga0 ga1))) := by rw [ef40, va_up_ne _ _ n88]; exact h76
          have n91 : dM ≠ dO := hneL k_dM k_dO (Nat.ne_of_beq_eq_false rfl)
          have n92 : dM ≠ dU := hneL k_dM k_dU (Nat.ne_of_beq_eq_false rfl)
          have n93 : dM ≠ dJ := hneL k_dM k_dJ (Nat.ne_of_beq_eq_false rfl)
          have n94 : dM ≠ dK := hneL k_dM k_dK (Nat.ne_of_beq_eq_false rfl)
          have n95 : dM ≠ dQ := hneL k_dM k_dQ (Nat.ne_of_beq_eq_false rfl)
          have h90 : f35 dM = some (.inl (cI G, 2, .inl (mA2 mg0 mg1))) := (hEq.k k38) _ _ h7 (ninc n95 (ninc nd_dM_dS (ninc nd_dM_dL (ninc nd_dM_dR (ninc nd_dM_dT (ninc nd_dM_dZ (ninc nd_dM_dI (ninc nd_dM_dH (ninc nd_dM_dN (ninc n94 (ninc n93 (ninc n92 (ninc n91 nin0)))))))))))))
          have h96 : f40 dM = some (.inl (cI G, 2, .inl (mA2 mg0 mg1))) := by rw [ef40, va_up_ne _ _ nd_dM_dS]; exact h90
          have n98 : dF ≠ mo := hne k_dF k_mo (Nat.ne_of_beq_eq_false rfl)
          have h97 : f3 dF = some (.inl (cI G, 61, .inl (nf sa))) := by rw [ef3, va_up_ne _ _ n98]; exact k_dF
          have n100 : dF ≠ dO := hneL k_dF k_dO (Nat.ne_of_beq_eq_false rfl)
          have n101 : dF ≠ dU := hneL k_dF k_dU (Nat.ne_of_beq_eq_false rfl)
          have n102 : dF ≠ dJ := hneL k_dF k_dJ (Nat.ne_of_beq_eq_false rfl)
          have n103 : dF ≠ dK := hneL k_dF k_dK (Nat.ne_of_beq_eq_false rfl)
          have n104 : dF ≠ dN := hneL k_dF k_dN (Nat.ne_of_beq_eq_false rfl)
          have n105 : dF ≠ dH := hneL k_dF k_dH (Nat.ne_of_beq_eq_false rfl)
          have n106 : dF ≠ dI := hneL k_dF k_dI (Nat.ne_of_beq_eq_false rfl)
          have n107 : dF ≠ dZ := hneL k_dF k_dZ (Nat.ne_of_beq_eq_false rfl)
          have n108 : dF ≠ dT := hneL k_dF k_dT (Nat.ne_of_beq_eq_false rfl)
          have n109 : dF ≠ dR := hneL k_dF k_dR (Nat.ne_of_beq_eq_false rfl)
          have n110 : dF ≠ dL := hneL k_dF k_dL (Nat.ne_of_beq_eq_false rfl)
          have n111 : dF ≠ dS := hneL k_dF k_dS (Nat.ne_of_beq_eq_false rfl)
          have n112 : dF ≠ dQ := hneL k_dF k_dQ (Nat.ne_of_beq_eq_false rfl)
          have h99 : f35 dF = some (.inl (cI G, 61, .inl (nf sa))) := (hEq.k k38) _ _ h97 (ninc n112 (ninc n111 (ninc n110 (ninc n109 (ninc n108 (ninc n107 (ninc n106 (ninc n105 (ninc n104 (ninc n103 (ninc n102 (ninc n101 (ninc n100 nin0)))))))))))))
          have h113 : f40 dF = some (.inl (cI G, 61, .inl (nf sa))) := by rw [ef40, va_up_ne _ _ n111]; exact h99
          have n115 : dP ≠ mo := hne k_dP k_mo (Nat.ne_of_beq_eq_false rfl)
          have h114 : f3 dP = some (.inl (cI G, 240, .inl (nf pk))) := by rw [ef3, va_up_ne _ _ n115]; exact k_dP
          have n117 : dP ≠ dO := hneL k_dP k_dO (Nat.ne_of_beq_eq_false rfl)
          have n118 : dP ≠ dU := hneL k_dP k_dU (Nat.ne_of_beq_eq_false rfl)
          have n119 : dP ≠ dJ := hneL k_dP k_dJ (Nat.ne_of_beq_eq_false rfl)
          have n120 : dP ≠ dK := hneL k_dP k_dK (Nat.ne_of_beq_eq_false rfl)
          have n121 : dP ≠ dN := hneL k_dP k_dN (Nat.ne_of_beq_eq_false rfl)
          have n122 : dP ≠ dH := hneL k_dP k_dH (Nat.ne_of_beq_eq_false rfl)
          have n123 : dP ≠ dI := hneL k_dP k_dI (Nat.ne_of_beq_eq_false rfl)
          have n124 : dP ≠ dZ := hneL k_dP k_dZ (Nat.ne_of_beq_eq_false rfl)
          have n125 : dP ≠ dT := hneL k_dP k_dT (Nat.ne_of_beq_eq_false rfl)
          have n126 : dP ≠ dR := hneL k_dP k_dR (Nat.ne_of_beq_eq_false rfl)
          have n127 : dP ≠ dL := hneL k_dP k_dL (Nat.ne_of_beq_eq_false rfl)
          have n128 : dP ≠ dS := hneL k_dP k_dS (Nat.ne_of_beq_eq_false rfl)
          have n129 : dP ≠ dQ := hneL k_dP k_dQ (Nat.ne_of_beq_eq_false rfl)
          have h116 : f35 dP = some (.inl (cI G, 240, .inl (nf pk))) := (hEq.k k38) _ _ h114 (ninc n129 (ninc n128 (ninc n127 (ninc n126 (ninc n125 (ninc n124 (ninc n123 (ninc n122 (ninc n121 (ninc n120 (ninc n119 (ninc n118 (ninc n117 nin0)))))))))))))
          have h130 : f40 dP = some (.inl (cI G, 240, .inl (nf pk))) := by rw [ef40, va_up_ne _ _ n128]; exact h116
          have n132 : dE ≠ mo := hne k_dE k_mo (Nat.ne_of_beq_eq_false rfl)
          have h131 : f3 dE = some (.inl (cZ G, 240, .inl gh)) := by rw [ef3, va_up_ne _ _ n132]; exact k_dE
          have n134 : dE ≠ dO := hneL k_dE k_dO (Nat.ne_of_beq_eq_false rfl)
          have n135 : dE ≠ dU := hneL k_dE k_dU (Nat.ne_of_beq_eq_false rfl)
          have n136 : dE ≠ dJ := hneL k_dE k_dJ (Nat.ne_of_beq_eq_false rfl)
          have n137 : dE ≠ dK := hneL k_dE k_dK (Nat.ne_of_beq_eq_false rfl)
          have n138 : dE ≠ dN := hneL k_dE k_dN (Nat.ne_of_beq_eq_false rfl)
          have n139 : dE ≠ dH := hneL k_dE k_dH (Nat.ne_of_beq_eq_false rfl)
          have n140 : dE ≠ dI := hneL k_dE k_dI (Nat.ne_of_beq_eq_false rfl)
          have n141 : dE ≠ dZ := hneL k_dE k_dZ (Nat.ne_of_beq_eq_false rfl)
          have n142 : dE ≠ dT := hneL k_dE k_dT (Nat.ne_of_beq_eq_false rfl)
          have n143 : dE ≠ dR := hneL k_dE k_dR (Nat.ne_of_beq_eq_false rfl)
          have n144 : dE ≠ dL := hneL k_dE k_dL (Nat.ne_of_beq_eq_false rfl)
          have n145 : dE ≠ dS := hneL k_dE k_dS (Nat.ne_of_beq_eq_false rfl)
          have n146 : dE ≠ dQ := hneL k_dE k_dQ (Nat.ne_of_beq_eq_false rfl)
          have h133 : f35 dE = some (.inl (cZ G, 240, .inl gh)) := (hEq.k k38) _ _ h131 (ninc n146 (ninc n145 (ninc n144 (ninc n143 (ninc n142 (ninc n141 (ninc n140 (ninc n139 (ninc n138 (ninc n137 (ninc n136 (ninc n135 (ninc n134 nin0)))))))))))))
          have h147 : f40 dE = some (.inl (cZ G, 240, .inl gh)) := by rw [ef40, va_up_ne _ _ n145]; exact h133
          have n149 : dX ≠ mo := hne k_dX k_mo (Nat.ne_of_beq_eq_false rfl)
          have h148 : f3 dX = some (.inl (cI G, 3, .inl (nf fl))) := by rw [ef3, va_up_ne _ _ n149]; exact k_dX
          have n151 : dX ≠ dO := hneL k_dX k_dO (Nat.ne_of_beq_eq_false rfl)
          have n152 : dX ≠ dU := hneL k_dX k_dU (Nat.ne_of_beq_eq_false rfl)
          have n153 : dX ≠ dJ := hneL k_dX k_dJ (Nat.ne_of_beq_eq_false rfl)
          have n154 : dX ≠ dK := hneL k_dX k_dK (Nat.ne_of_beq_eq_false rfl)
          have n155 : dX ≠ dN := hneL k_dX k_dN (Nat.ne_of_beq_eq_false rfl)
          have n156 : dX ≠ dH := hneL k_dX k_dH (Nat.ne_of_beq_eq_false rfl)
          have n157 : dX ≠ dI := hneL k_dX k_dI (Nat.ne_of_beq_eq_false rfl)
          have n158 : dX ≠ dZ := hneL k_dX k_dZ (Nat.ne_of_beq_eq_false rfl)
          have n159 : dX ≠ dT := hneL k_dX k_dT (Nat.ne_of_beq_eq_false rfl)
          have n160 : dX ≠ dR := hneL k_dX k_dR (Nat.ne_of_beq_eq_false rfl)
          have n161 : dX ≠ dL := hneL k_dX k_dL (Nat.ne_of_beq_eq_false rfl)
          have n162 : dX ≠ dS := hneL k_dX k_dS (Nat.ne_of_beq_eq_false rfl)
          have n163 : dX ≠ dQ := hneL k_dX k_dQ (Nat.ne_of_beq_eq_false rfl)
          have h150 : f35 dX = some (.inl (cI G, 3, .inl (nf fl))) := (hEq.k k38) _ _ h148 (ninc n163 (ninc n162 (ninc n161 (ninc n160 (ninc n159 (ninc n158 (ninc n157 (ninc n156 (ninc n155 (ninc n154 (ninc n153 (ninc n152 (ninc n151 nin0)))))))))))))
          have h164 : f40 dX = some (.inl (cI G, 3, .inl (nf fl))) := by rw [ef40, va_up_ne _ _ n162]; exact h150
          have n166 : dY ≠ mo := hne k_dY k_mo (Nat.ne_of_beq_eq_false rfl)
          have h165 : f3 dY = some (.inl (cI G, 3, .inl gl)) := by rw [ef3, va_up_ne _ _ n166]; exact k_dY
          have n168 : dY ≠ dO := hneL k_dY k_dO (Nat.ne_of_beq_eq_false rfl)
          have n169 : dY ≠ dU := hneL k_dY k_dU (Nat.ne_of_beq_eq_false rfl)
          have n170 : dY ≠ dJ := hneL k_dY k_dJ (Nat.ne_of_beq_eq_false rfl)
          have n171 : dY ≠ dK := hneL k_dY k_dK (Nat.ne_of_beq_eq_false rfl)
          have n172 : dY ≠ dN := hneL k_dY k_dN (Nat.ne_of_beq_eq_false rfl)
          have n173 : dY ≠ dH := hneL k_dY k_dH (Nat.ne_of_beq_eq_false rfl)
          have n174 : dY ≠ dI := hneL k_dY k_dI (Nat.ne_of_beq_eq_false rfl)
          have n175 : dY ≠ dZ := hneL k_dY k_dZ (Nat.ne_of_beq_eq_false rfl)
          have n176 : dY ≠ dT := hneL k_dY k_dT (Nat.ne_of_beq_eq_false rfl)
          have n177 : dY ≠ dR := hneL k_dY k_dR (Nat.ne_of_beq_eq_false rfl)
          have n178 : dY ≠ dL := hneL k_dY k_dL (Nat.ne_of_beq_eq_false rfl)
          have n179 : dY ≠ dS := hneL k_dY k_dS (Nat.ne_of_beq_eq_false rfl)
          have n180 : dY ≠ dQ := hneL k_dY k_dQ (Nat.ne_of_beq_eq_false rfl)
          have h167 : f35 dY = some (.inl (cI G, 3, .inl gl)) := (hEq.k k38) _ _ h165 (ninc n180 (ninc n179 (ninc n178 (ninc n177 (ninc n176 (ninc n175 (ninc n174 (ninc n173 (ninc n172 (ninc n171 (ninc n170 (ninc n169 (ninc n168 nin0)))))))))))))
          have h181 : f40 dY = some (.inl (cI G, 3, .inl gl)) := by rw [ef40, va_up_ne _ _ n179]; exact h167
          have n183 : dG ≠ mo := hne k_dG k_mo (Nat.ne_of_beq_eq_false rfl)
          have h182 : f3 dG = some (.inl (cI G, 60, .inl (nf gv))) := by rw [ef3, va_up_ne _ _ n183]; exact k_dG
          have n185 : dG ≠ dO := hneL k_dG k_dO (Nat.ne_of_beq_eq_false rfl)
          have n186 : dG ≠ dU := hneL k_dG k_dU (Nat.ne_of_beq_eq_false rfl)
          have n187 : dG ≠ dJ := hneL k_dG k_dJ (Nat.ne_of_beq_eq_false rfl)
          have n188 : dG ≠ dK := hneL k_dG k_dK (Nat.ne_of_beq_eq_false rfl)
          have n189 : dG ≠ dN := hneL k_dG k_dN (Nat.ne_of_beq_eq_false rfl)
          have n190 : dG ≠ dH := hneL k_dG k_dH (Nat.ne_of_beq_eq_false rfl)
          have n191 : dG ≠ dI := hneL k_dG k_dI (Nat.ne_of_beq_eq_false rfl)
          have n192 : dG ≠ dZ := hneL k_dG k_dZ (Nat.ne_of_beq_eq_false rfl)
          have n193 : dG ≠ dT := hneL k_dG k_dT (Nat.ne_of_beq_eq_false rfl)
          have n194 : dG ≠ dR := hneL k_dG k_dR (Nat.ne_of_beq_eq_false rfl)
          have n195 : dG ≠ dL := hneL k_dG k_dL (Nat.ne_of_beq_eq_false rfl)
          have n196 : dG ≠ dS := hneL k_dG k_dS (Nat.ne_of_beq_eq_false rfl)
          have n197 : dG ≠ dQ := hneL k_dG k_dQ (Nat.ne_of_beq_eq_false rfl)
          have h184 : f35 dG = some (.inl (cI G, 60, .inl (nf gv))) := (hEq.k k38) _ _ h182 (ninc n197 (ninc n196 (ninc n195 (ninc n194 (ninc n193 (ninc n192 (ninc n191 (ninc n190 (ninc n189 (ninc n188 (ninc n187 (ninc n186 (ninc n185 nin0)))))))))))))
          have h198 : f40 dG = some (.inl (cI G, 60, .inl (nf gv))) := by rw [ef40, va_up_ne _ _ n196]; exact h184
          exact hp_iret (v := (gS (0 : Int32).toNatClampNeg)) B0 hw hS hr ⟨Nat.le_of_ble_eq_true rfl, Nat.le_of_ble_eq_true rfl⟩ dX5_close_61 (⟨⟨_, rfl⟩, ⟨_, ⟨h42, hND, ⟨_, _, _, _, _, _, _, _, _, _, _, _, _, h43, h41, h45, h46, h47, h48, h49, h50, h51, h52, h54, h56, h58, hHd9_n36, (hMn.mono hMn9_n36 (by omega))⟩, h75, h89, h96, h113, h130, h147, h164, h181, h198, hSA, hB9, hfl9⟩⟩, ((show hEq [mo, dW, dA, dQ, dM, dS, dL, dR, dT, dZ, dI, dH, dN, dK, dJ, dU, dO, dF, dP, dE, dX, dY, dG] f f3 from (by rw [ef3]; exact hEq.up List.mem_cons_self)).tr ((show hEq [mo, dW, dA, dQ, dM, dS, dL, dR, dT, dZ, dI, dH, dN, dK, dJ, dU, dO, dF, dP, dE, dX, dY, dG] f3 f35 from (hEq.mono k38 sub13)).tr (show hEq [mo, dW, dA, dQ, dM, dS, dL, dR, dT, dZ, dI, dH, dN, dK, dJ, dU, dO, dF, dP, dE, dX, dY, dG] f35 f40 from (by rw [ef40]; exact hEq.up (List.mem_cons_of_mem _ (List.mem_cons_of_mem _ (List.mem_cons_of_mem _ (List.mem_cons_of_mem _ (List.mem_cons_of_mem _ List.mem_cons_self)))))))))⟩)
      · refine lv_iconst (v := 2) hx hb dX5_close_21 (by decide) ?_
        refine lv_goto (tgt := 26) hx hb dX5_close_22 (by decide) ?_
        refine hp_put (fs1 := [.int 2, .ref dW, .ref dA, .ref dQ, .ref dM, .ref dS, .ref dL, .ref dR, .ref dT, .ref dZ, .ref dI, .ref dH, .ref dN, .ref dK, .ref dJ, .ref dU, .ref dO, .int (nI n), .int (nI a), .ref dF, .ref dP, .ref dE, .ref dX, .ref dY, .int (nI x), .int (nI cg), .ref dG]) (ty := .int) B0 hw hS 5 rfl in_X5 tyX5 tyX5_ok nmX5 k_mo 0 (by decide) qF_X5_77 rfl (by decide +kernel) rfl rfl (Nat.le_of_ble_eq_true rfl) rfl dX5_close_26 (fun H locs f199 ef199 hw hS => ?_)
        have h200 : f199 mo = some (.inr (5, [.int 2, .ref dW, .ref dA, .ref dQ, .ref dM, .ref dS, .ref dL, .ref dR, .ref dT, .ref dZ, .ref dI, .ref dH, .ref dN, .ref dK, .ref dJ, .ref dU, .ref dO, .int (nI n), .int (nI a), .ref dF, .ref dP, .ref dE, .ref dX, .ref dY, .int (nI x), .int (nI cg), .ref dG])) := by rw [ef199, va_up_self]
        refine lv_aload_n hx hb dX5_close_29 rfl (lv_at hl9 0 rfl) ?_
        refine hp_get B0 hw 5 rfl in_X5 h200 0 (by decide) qF_X5_77 rfl dX5_close_30 ?_
        refine lv_if_le (tgt := 38) hx hb dX5_close_33 (by decide) (fun c9 => absurd c9 (by decide)) (fun _ => ?_)
        refine lv_iconst (v := 0) hx hb dX5_close_36 (by decide) ?_
        have n202 : dQ ≠ mo := hne k_dQ k_mo (Nat.ne_of_beq_eq_false rfl)
        have h201 : f199 dQ = some (.inl (cI G, 12, .inl gQ)) := by rw [ef199, va_up_ne _ _ n202]; exact k_dQ
        have n204 : dS ≠ mo := hne k_dS k_mo (Nat.ne_of_beq_eq_false rfl)
        have h203 : f199 dS = some (.inl (cI G, 2, .inl gS)) := by rw [ef199, va_up_ne _ _ n204]; exact k_dS
        have n206 : dL ≠ mo := hne k_dL k_mo (Nat.ne_of_beq_eq_false rfl)
        have h205 : f199 dL = some (.inl (cI G, 2, .inl gL)) := by rw [ef199, va_up_ne _ _ n206]; exact k_dL
        have n208 : dR ≠ mo := hne k_dR k_mo (Nat.ne_of_beq_eq_false rfl)
        have h207 : f199 dR = some (.inl (cI G, 2, .inl gR)) := by rw [ef199, va_up_ne _ _ n208]; exact k_dR
        have n210 : dT ≠ mo := hne k_dT k_mo (Nat.ne_of_beq_eq_false rfl)
        have h209 : f199 dT = some (.inl (cI G, 2, .inl gT)) := by rw [ef199, va_up_ne _ _ n210]; exact k_dT
        have n212 : dZ ≠ mo := hne k_dZ k_mo (Nat.ne_of_beq_eq_false rfl)
        have h211 : f199 dZ = some (.inl (cZ G, 2, .inl gZ)) := by rw [ef199, va_up_ne _ _ n212]; exact k_dZ
        have n214 : dI ≠ mo := hne k_dI k_mo (Nat.ne_of_beq_eq_false rfl)
        have h213 : f199 dI = some (.inl (cI G, 2, .inl gI)) := by rw [ef199, va_up_ne _ _ n214]; exact k_dI
        have n216 : dH ≠ mo := hne k_dH k_mo (Nat.ne_of_beq_eq_false rfl)
        have h215 : f199 dH = some (.inl (cI G, 2, .inl gH)) := by rw [ef199, va_up_ne _ _ n216]; exact k_dH
        have n218 : dN ≠ mo := hne k_dN k_mo (Nat.ne_of_beq_eq_false rfl)
        have h217 : f199 dN = some (.inl (cI G, 2, .inl gN)) := by rw [ef199, va_up_ne _ _ n218]; exact k_dN
        have n220 : dK ≠ mo := hne k_dK k_mo (Nat.ne_of_beq_eq_false rfl)
        have h219 : f199 dK = some (.inl (cI G, 2048, .inl gK)) := by rw [ef199, va_up_ne _ _ n220]; exact k_dK
        have n222 : dJ ≠ mo := hne k_dJ k_mo (Nat.ne_of_beq_eq_false rfl)
        have h221 : f199 dJ = some (.inl (cI G, 2048, .inl gJ)) := by rw [ef199, va_up_ne _ _ n222]; exact k_dJ
        have n224 : dU ≠ mo := hne k_dU k_mo (Nat.ne_of_beq_eq_false rfl)
        have h223 : f199 dU = some (.inl (cI G, 2048, .inl gU)) := by rw [ef199, va_up_ne _ _ n224]; exact k_dU
        have n226 : dO ≠ mo := hne k_dO k_mo (Nat.ne_of_beq_eq_false rfl)
        have h225 : f199 dO = some (.inl (cI G, 2048, .inl gO)) := by rw [ef199, va_up_ne _ _ n226]; exact k_dO
        have n228 : dW ≠ mo := hne k_dW k_mo (Nat.ne_of_beq_eq_false rfl)
        have h227 : f199 dW = some (.inl (cI G, 12, .inl (jn gw0 gw1))) := by rw [ef199, va_up_ne _ _ n228]; exact k_dW
        have n230 : dA ≠ mo := hne k_dA k_mo (Nat.ne_of_beq_eq_false rfl)
        have h229 : f199 dA = some (.inl (cI G, 12, .inl (jn ga0 ga1))) := by rw [ef199, va_up_ne _ _ n230]; exact k_dA
        have n232 : dM ≠ mo := hne k_dM k_mo (Nat.ne_of_beq_eq_false rfl)
        have h231 : f199 dM = some (.inl (cI G, 2, .inl (mA2 mg0 mg1))) := by rw [ef199, va_up_ne _ _ n232]; exact k_dM
        have n234 : dF ≠ mo := hne k_dF k_mo (Nat.ne_of_beq_eq_false rfl)
        have h233 : f199 dF = some (.inl (cI G, 61, .inl (nf sa))) := by rw [ef199, va_up_ne _ _ n234]; exact k_dF
        have n236 : dP ≠ mo := hne k_dP k_mo (Nat.ne_of_beq_eq_false rfl)
        have h235 : f199 dP = some (.inl (cI G, 240, .inl (nf pk))) := by rw [ef199, va_up_ne _ _ n236]; exact k_dP
        have n238 : dE ≠ mo := hne k_dE k_mo (Nat.ne_of_beq_eq_false rfl)
        have h237 : f199 dE = some (.inl (cZ G, 240, .inl gh)) := by rw [ef199, va_up_ne _ _ n238]; exact k_dE
        have n240 : dX ≠ mo := hne k_dX k_mo (Nat.ne_of_beq_eq_false rfl)
        have h239 : f199 dX = some (.inl (cI G, 3, .inl (nf fl))) := by rw [ef199, va_up_ne _ _ n240]; exact k_dX
        have n242 : dY ≠ mo := hne k_dY k_mo (Nat.ne_of_beq_eq_false rfl)
        have h241 : f199 dY = some (.inl (cI G, 3, .inl gl)) := by rw [ef199, va_up_ne _ _ n242]; exact k_dY
        have n244 : dG ≠ mo := hne k_dG k_mo (Nat.ne_of_beq_eq_false rfl)
        have h243 : f199 dG = some (.inl (cI G, 60, .inl (nf gv))) := by rw [ef199, va_up_ne _ _ n244]; exact k_dG
        exact hp_iret (v := 0) B0 hw hS hr ⟨Nat.le_of_ble_eq_true rfl, Nat.le_of_ble_eq_true rfl⟩ dX5_close_37 (⟨⟨_, rfl⟩, ⟨_, ⟨h200, hND, ⟨_, _, _, _, _, _, _, _, _, _, _, _, _, h201, h203, h205, h207, h209, h211, h213, h215, h217, h219, h221, h223, h225, hHd9, (hMn.mono hMn9 (by omega))⟩, h227, h229, h231, h233, h235, h237, h239, h241, h243, hSA, hB9, hfl9⟩⟩, (show hEq [mo, dW, dA, dQ, dM, dS, dL, dR, dT, dZ, dI, dH, dN, dK, dJ, dU, dO, dF, dP, dE, dX, dY, dG] f f199 from (by rw [ef199]; exact hEq.up List.mem_cons_self))⟩)
    · subst ev9
      subst b9
      refine W.eq (g2 := F0 m 5 ls [.int 1, .ref mo]) rfl ?_
      refine lv_if_ne (tgt := 12) hx hb dX5_close_5 (by decide) (fun _ => ?_) (fun c9 => absurd c9 (by decide))
      refine lv_aload_n hx hb dX5_close_12 rfl (lv_at hl9 0 rfl) ?_
      refine hp_get B0 hw 5 rfl in_X5 k_mo 5 (by decide) qF_X5_22 rfl dX5_close_13 ?_
      refine lv_iload_n hx hb dX5_close_16 rfl (lv_at hl9 1 rfl) ?_
      refine hp_iald B0 hw k_dS (by unfold vp_in; decide) dX5_close_17 ?_
      refine lv_if_ne (tgt := 25) hx hb dX5_close_18 (by decide) (fun c245 => ?_) (fun c245 => ?_)
      · refine lv_iconst (v := 0) hx hb dX5_close_25 (by decide) ?_
        refine hp_put (fs1 := [.int 0, .ref dW, .ref dA, .ref dQ, .ref dM, .ref dS, .ref dL, .ref dR, .ref dT, .ref dZ, .ref dI, .ref dH, .ref dN, .ref dK, .ref dJ, .ref dU, .ref dO, .int (nI n), .int (nI a), .ref dF, .ref dP, .ref dE, .ref dX, .ref dY, .int (nI x), .int (nI cg), .ref dG]) (ty := .int) B0 hw hS 5 rfl in_X5 tyX5 tyX5_ok nmX5 k_mo 0 (by decide) qF_X5_77 rfl (by decide +kernel) rfl rfl (Nat.le_of_ble_eq_true rfl) rfl dX5_close_26 (fun H locs f246 ef246 hw hS => ?_)
        have h247 : f246 mo = some (.inr (5, [.int 0, .ref dW, .ref dA, .ref dQ, .ref dM, .ref dS, .ref dL, .ref dR, .ref dT, .ref dZ, .ref dI, .ref dH, .ref dN, .ref dK, .ref dJ, .ref dU, .ref dO, .int (nI n), .int (nI a), .ref dF, .ref dP, .ref dE, .ref dX, .ref dY, .int (nI x), .int (nI cg), .ref dG])) := by rw [ef246, va_up_self]
        refine lv_aload_n hx hb dX5_close_29 rfl (lv_at hl9 0 rfl) ?_
        refine hp_get B0 hw 5 rfl in_X5 h247 0 (by decide) qF_X5_77 rfl dX5_close_30 ?_
        refine lv_if_le (tgt := 38) hx hb dX5_close_33 (by decide) (fun _ => ?_) (fun c9 => absurd (by decide) c9)
        refine lv_aload_n hx hb dX5_close_38 rfl (lv_at hl9 0 rfl) ?_
        refine hp_get B0 hw 5 rfl in_X5 h247 5 (by decide) qF_X5_22 rfl dX5_close_39 ?_
        refine lv_iload_n hx hb dX5_close_42 rfl (lv_at hl9 1 rfl) ?_
        have n249 : dS ≠ mo := hne k_dS k_mo (Nat.ne_of_beq_eq_false rfl)
        have h248 : f246 dS = some (.inl (cI G, 2, .inl gS)) := by rw [ef246, va_up_ne _ _ n249]; exact k_dS
        refine hp_iald B0 hw h248 (by unfold vp_in; decide) dX5_close_43 ?_
        refine lv_istore_n (lv' := [(2, .int (gS (1 : Int32).toNatClampNeg)), (0, .ref mo), (1, .int 1)]) hx hb dX5_close_44 rfl hl9 (by decide) rfl (fun ls hl9 => ?_)
        refine lv_aload_n hx hb dX5_close_45 rfl (lv_at hl9 1 rfl) ?_
        refine lv_iload_n hx hb dX5_close_46 rfl (lv_at hl9 2 rfl) ?_
        refine lv_iconst (v := 4) hx hb dX5_close_47 (by decide) ?_
        refine lv_iconst (v := 0) hx hb dX5_close_48 (by decide) ?_
        refine lv_iconst (v := 0) hx hb dX5_close_49 (by decide) ?_
        have n251 : dM ≠ mo := hne k_dM k_mo (Nat.ne_of_beq_eq_false rfl)
        have h250 : f246 dM = some (.inl (cI G, 2, .inl (mA2 mg0 mg1))) := by rw [ef246, va_up_ne _ _ n251]; exact k_dM
        have n253 : dA ≠ mo := hne k_dA k_mo (Nat.ne_of_beq_eq_false rfl)
        have h252 : f246 dA = some (.inl (cI G, 12, .inl (jn ga0 ga1))) := by rw [ef246, va_up_ne _ _ n253]; exact k_dA
        have n255 : dQ ≠ mo := hne k_dQ k_mo (Nat.ne_of_beq_eq_false rfl)
        have h254 : f246 dQ = some (.inl (cI G, 12, .inl gQ)) := by rw [ef246, va_up_ne _ _ n255]; exact k_dQ
        have n257 : dL ≠ mo := hne k_dL k_mo (Nat.ne_of_beq_eq_false rfl)
        have h256 : f246 dL = some (.inl (cI G, 2, .inl gL)) := by rw [ef246, va_up_ne _ _ n257]; exact k_dL
        have n259 : dR ≠ mo := hne k_dR k_mo (Nat.ne_of_beq_eq_false rfl)
        have h258 : f246 dR = some (.inl (cI G, 2, .inl gR)) := by rw [ef246, va_up_ne _ _ n259]; exact k_dR
        have n261 : dT ≠ mo := hne k_dT k_mo (Nat.ne_of_beq_eq_false rfl)
        have h260 : f246 dT = some (.inl (cI G, 2, .inl gT)) := by rw [ef246, va_up_ne _ _ n261]; exact k_dT
        have n263 : dZ ≠ mo := hne k_dZ k_mo (Nat.ne_of_beq_eq_false rfl)
        have h262 : f246 dZ = some (.inl (cZ G, 2, .inl gZ)) := by rw [ef246, va_up_ne _ _ n263]; exact k_dZ
        have n265 : dI ≠ mo := hne k_dI k_mo (Nat.ne_of_beq_eq_false rfl)
        have h264 : f246 dI = some (.inl (cI G, 2, .inl gI)) := by rw [ef246, va_up_ne _ _ n265]; exact k_dI
        have n267 : dH ≠ mo := hne k_dH k_mo (Nat.ne_of_beq_eq_false rfl)
        have h266 : f246 dH = some (.inl (cI G, 2, .inl gH)) := by rw [ef246, va_up_ne _ _ n267]; exact k_dH
        have n269 : dN ≠ mo := hne k_dN k_mo (Nat.ne_of_beq_eq_false rfl)
        have h268 : f246 dN = some (.inl (cI G, 2, .inl gN)) := by rw [ef246, va_up_ne _ _ n269]; exact k_dN
        have n271 : dK ≠ mo := hne k_dK k_mo (Nat.ne_of_beq_eq_false rfl)
        have h270 : f246 dK = some (.inl (cI G, 2048, .inl gK)) := by rw [ef246, va_up_ne _ _ n271]; exact k_dK
        have n273 : dJ ≠ mo := hne k_dJ k_mo (Nat.ne_of_beq_eq_false rfl)
        have h272 : f246 dJ = some (.inl (cI G, 2048, .inl gJ)) := by rw [ef246, va_up_ne _ _ n273]; exact k_dJ
        have n275 : dU ≠ mo := hne k_dU k_mo (Nat.ne_of_beq_eq_false rfl)
        have h274 : f246 dU = some (.inl (cI G, 2048, .inl gU)) := by rw [ef246, va_up_ne _ _ n275]; exact k_dU
        have n277 : dO ≠ mo := hne k_dO k_mo (Nat.ne_of_beq_eq_false rfl)
        have h276 : f246 dO = some (.inl (cI G, 2048, .inl gO)) := by rw [ef246, va_up_ne _ _ n277]; exact k_dO
        refine hp_V (ci := 5) (As := [.int 1, .int 4, .int 0, .int 0]) (rest := []) B0 hw hS (c_W5_sends hl G f246 mo dW dA dQ dM dS dL dR dT dZ dI dH dN dK dJ dU dO dF dP dE dX dY dG 0 (nI n) (nI a) (nI x) (nI cg) h247 hND (mA2 mg0 mg1) (jn ga0 ga1) h250 h252 hSA B ⟨_, _, _, _, _, _, _, _, _, _, _, _, _, h254, h248, h256, h258, h260, h262, h264, h266, h268, h270, h272, h274, h276, hHd9, (hMn.mono hMn9 (by omega))⟩ (by omega) 1 4 0 0 (Or.inr rfl)) mV_X5_sends qM_X5_96 rfl h247 rfl rfl hl9.1 (Nat.le_of_ble_eq_true rfl) ⟨⟨Nat.le_of_ble_eq_true rfl, Nat.le_of_ble_eq_true rfl⟩, Nat.le_of_ble_eq_true rfl, Nat.le_of_ble_eq_true rfl⟩ dX5_close_50 (fun E ce q9 f278 H locs hPX hw hS hce hcv hcl => ?_) (fun v f278 H locs hP hw hS => ?_)
        · exact hPX.elim
        · obtain ⟨ev9, h280, k281⟩ := hP
          have h280L := h280
          obtain ⟨gQ_n279, gS_n279, gL_n279, gR_n279, gT_n279, gZ_n279, gI_n279, gH_n279, gN_n279, gK_n279, gJ_n279, gU_n279, gO_n279, k_dQ_n279, k_dS_n279, k_dL_n279, k_dR_n279, k_dT_n279, k_dZ_n279, k_dI_n279, k_dH_n279, k_dN_n279, k_dK_n279, k_dJ_n279, k_dU_n279, k_dO_n279, hHd9_n279, hMn9_n279⟩ := id h280
          subst ev9
          refine W.eq (g2 := F0 m 53 ls []) rfl ?_
          refine lv_aload_n hx hb dX5_close_53 rfl (lv_at hl9 1 rfl) ?_
          have h282 : f278 mo = some (.inr (5, [.int 0, .ref dW, .ref dA, .ref dQ, .ref dM, .ref dS, .ref dL, .ref dR, .ref dT, .ref dZ, .ref dI, .ref dH, .ref dN, .ref dK, .ref dJ, .ref dU, .ref dO, .int (nI n), .int (nI a), .ref dF, .ref dP, .ref dE, .ref dX, .ref dY, .int (nI x), .int (nI cg), .ref dG])) := (hEq.k k281) _ _ h247 (ninc (Ne.symm n255) (ninc (Ne.symm n249) (ninc (Ne.symm n257) (ninc (Ne.symm n259) (ninc (Ne.symm n261) (ninc (Ne.symm n263) (ninc (Ne.symm n265) (ninc (Ne.symm n267) (ninc (Ne.symm n269) (ninc (Ne.symm n271) (ninc (Ne.symm n273) (ninc (Ne.symm n275) (ninc (Ne.symm n277) nin0)))))))))))))
          refine hp_get B0 hw 5 rfl in_X5 h282 5 (by decide) qF_X5_22 rfl dX5_close_54 ?_
          refine lv_iload_n hx hb dX5_close_57 rfl (lv_at hl9 2 rfl) ?_
          refine lv_iconst (v := 0) hx hb dX5_close_58 (by decide) ?_
          refine hp_iast B0 hw hS k_dS_n279 (by unfold vp_in; decide) dX5_close_59 (fun H locs f283 ef283 hw hS => ?_)
          have h284 : f283 dS = some (.inl (cI G, 2, .inl (upd gS_n279 (1 : Int32).toNatClampNeg 0))) := by rw [ef283, va_up_self]
          refine lv_iload_n hx hb dX5_close_60 rfl (lv_at hl9 0 rfl) ?_
          have h285 : f283 mo = some (.inr (5, [.int 0, .ref dW, .ref dA, .ref dQ, .ref dM, .ref dS, .ref dL, .ref dR, .ref dT, .ref dZ, .ref dI, .ref dH, .ref dN, .ref dK, .ref dJ, .ref dU, .ref dO, .int (nI n), .int (nI a), .ref dF, .ref dP, .ref dE, .ref dX, .ref dY, .int (nI x), .int (nI cg), .ref dG])) := by rw [ef283, va_up_ne _ _ (Ne.symm n249)]; exact h282
          have n287 : dQ ≠ dS := hneL k_dQ k_dS (Nat.ne_of_beq_eq_false rfl)
          have h286 : f283 dQ = some (.inl (cI G, 12, .inl gQ_n279)) := by rw [ef283, va_up_ne _ _ n287]; exact k_dQ_n279
          have h288 : f283 dL = some (.inl (cI G, 2, .inl gL_n279)) := by rw [ef283, va_up_ne _ _ (Ne.symm nd_dS_dL)]; exact k_dL_n279
          have h289 : f283 dR = some (.inl (cI G, 2, .inl gR_n279)) := by rw [ef283, va_up_ne _ _ (Ne.symm nd_dS_dR)]; exact k_dR_n279
          have h290 : f283 dT = some (.inl (cI G, 2, .inl gT_n279)) := by rw [ef283, va_up_ne _ _ (Ne.symm nd_dS_dT)]; exact k_dT_n279
          have h291 : f283 dZ = some (.inl (cZ G, 2, .inl gZ_n279)) := by rw [ef283, va_up_ne _ _ (Ne.symm nd_dS_dZ)]; exact k_dZ_n279
          have h292 : f283 dI = some (.inl (cI G, 2, .inl gI_n279)) := by rw [ef283, va_up_ne _ _ (Ne.symm nd_dS_dI)]; exact k_dI_n279
          have h293 : f283 dH = some (.inl (cI G, 2, .inl gH_n279)) := by rw [ef283, va_up_ne _ _ (Ne.symm nd_dS_dH)]; exact k_dH_n279
          have h294 : f283 dN = some (.inl (cI G, 2, .inl gN_n279)) := by rw [ef283, va_up_ne _ _ (Ne.symm nd_dS_dN)]; exact k_dN_n279
          have n296 : dK ≠ dS := hneL k_dK k_dS (Nat.ne_of_beq_eq_false rfl)
          have h295 : f283 dK = some (.inl (cI G, 2048, .inl gK_n279)) := by rw [ef283, va_up_ne _ _ n296]; exact k_dK_n279
          have n298 : dJ ≠ dS := hneL k_dJ k_dS (Nat.ne_of_beq_eq_false rfl)
          have h297 : f283 dJ = some (.inl (cI G, 2048, .inl gJ_n279)) := by rw [ef283, va_up_ne _ _ n298]; exact k_dJ_n279
          have n300 : dU ≠ dS := hneL k_dU k_dS (Nat.ne_of_beq_eq_false rfl)
          have h299 : f283 dU = some (.inl (cI G, 2048, .inl gU_n279)) := by rw [ef283, va_up_ne _ _ n300]; exact k_dU_n279
          have n302 : dO ≠ dS := hneL k_dO k_dS (Nat.ne_of_beq_eq_false rfl)
          have h301 : f283 dO = some (.inl (cI G, 2048, .inl gO_n279)) := by rw [ef283, va_up_ne _ _ n302]; exact k_dO_n279
          have n304 : dW ≠ mo := hne k_dW k_mo (Nat.ne_of_beq_eq_false rfl)
          have h303 : f246 dW = some (.inl (cI G, 12, .inl (jn gw0 gw1))) := by rw [ef246, va_up_ne _ _ n304]; exact k_dW
          have n306 : dW ≠ dO := hneL k_dW k_dO (Nat.ne_of_beq_eq_false rfl)
          have n307 : dW ≠ dU := hneL k_dW k_dU (Nat.ne_of_beq_eq_false rfl)
          have n308 : dW ≠ dJ := hneL k_dW k_dJ (Nat.ne_of_beq_eq_false rfl)
          have n309 : dW ≠ dK := hneL k_dW k_dK (Nat.ne_of_beq_eq_false rfl)
          have n310 : dW ≠ dN := hneL k_dW k_dN (Nat.ne_of_beq_eq_false rfl)
          have n311 : dW ≠ dH := hneL k_dW k_dH (Nat.ne_of_beq_eq_false rfl)
          have n312 : dW ≠ dI := hneL k_dW k_dI (Nat.ne_of_beq_eq_false rfl)
          have n313 : dW ≠ dZ := hneL k_dW k_dZ (Nat.ne_of_beq_eq_false rfl)
          have n314 : dW ≠ dT := hneL k_dW k_dT (Nat.ne_of_beq_eq_false rfl)
          have n315 : dW ≠ dR := hneL k_dW k_dR (Nat.ne_of_beq_eq_false rfl)
          have n316 : dW ≠ dL := hneL k_dW k_dL (Nat.ne_of_beq_eq_false rfl)
          have n317 : dW ≠ dS := hneL k_dW k_dS (Nat.ne_of_beq_eq_false rfl)
          have h305 : f278 dW = some (.inl (cI G, 12, .inl (jn gw0 gw1))) := (hEq.k k281) _ _ h303 (ninc nd_dW_dQ (ninc n317 (ninc n316 (ninc n315 (ninc n314 (ninc n313 (ninc n312 (ninc n311 (ninc n310 (ninc n309 (ninc n308 (ninc n307 (ninc n306 nin0)))))))))))))
          have h318 : f283 dW = some (.inl (cI G, 12, .inl (jn gw0 gw1))) := by rw [ef283, va_up_ne _ _ n317]; exact h305
          have n320 : dA ≠ dO := hneL k_dA k_dO (Nat.ne_of_beq_eq_false rfl)
          have n321 : dA ≠ dU := hneL k_dA k_dU (Nat.ne_of_beq_eq_false rfl)
          have n322 : dA ≠ dJ := hneL k_dA k_dJ (Nat.ne_of_beq_eq_false rfl)
          have n323 : dA ≠ dK := hneL k_dA k_dK (Nat.ne_of_beq_eq_false rfl)
          have n324 : dA ≠ dN := hneL k_dA k_dN (Nat.ne_of_beq_eq_false rfl)
          have n325 : dA ≠ dH := hneL k_dA k_dH (Nat.ne_of_beq_eq_false rfl)
          have n326 : dA ≠ dI := hneL k_dA k_dI (Nat.ne_of_beq_eq_false rfl)
          have n327 : dA ≠ dZ := hneL k_dA k_dZ (Nat.ne_of_beq_eq_false rfl)
          have n328 : dA ≠ dT := hneL k_dA k_dT (Nat.ne_of_beq_eq_false rfl)
          have n329 : dA ≠ dR := hneL k_dA k_dR (Nat.ne_of_beq_eq_false rfl)
          have n330 : dA ≠ dL := hneL k_dA k_dL (Nat.ne_of_beq_eq_false rfl)
          have n331 : dA ≠ dS := hneL k_dA k_dS (Nat.ne_of_beq_eq_false rfl)
          have h319 : f278 dA = some (.inl (cI G, 12, .inl (jn ga0 ga1))) := (hEq.k k281) _ _ h252 (ninc nd_dA_dQ (ninc n331 (ninc n330 (ninc n329 (ninc n328 (ninc n327 (ninc n326 (ninc n325 (ninc n324 (ninc n323 (ninc n322 (ninc n321 (ninc n320 nin0)))))))))))))
          have h332 : f283 dA = some (.inl (cI G, 12, .inl (jn ga0 ga1))) := by rw [ef283, va_up_ne _ _ n331]; exact h319
          have n334 : dM ≠ dO := hneL k_dM k_dO (Nat.ne_of_beq_eq_false rfl)
          have n335 : dM ≠ dU := hneL k_dM k_dU (Nat.ne_of_beq_eq_false rfl)
          have n336 : dM ≠ dJ := hneL k_dM k_dJ (Nat.ne_of_beq_eq_false rfl)
          have n337 : dM ≠ dK := hneL k_dM k_dK (Nat.ne_of_beq_eq_false rfl)
          have n338 : dM ≠ dQ := hneL k_dM k_dQ (Nat.ne_of_beq_eq_false rfl)
          have h333 : f278 dM = some (.inl (cI G, 2, .inl (mA2 mg0 mg1))) := (hEq.k k281) _ _ h250 (ninc n338 (ninc nd_dM_dS (ninc nd_dM_dL (ninc nd_dM_dR (ninc nd_dM_dT (ninc nd_dM_dZ (ninc nd_dM_dI (ninc nd_dM_dH (ninc nd_dM_dN (ninc n337 (ninc n336 (ninc n335 (ninc n334 nin0)))))))))))))
          have h339 : f283 dM = some (.inl (cI G, 2, .inl (mA2 mg0 mg1))) := by rw [ef283, va_up_ne _ _ nd_dM_dS]; exact h333
          have n341 : dF ≠ mo := hne k_dF k_mo (Nat.ne_of_beq_eq_false rfl)
          have h340 : f246 dF = some (.inl (cI G, 61, .inl (nf sa))) := by rw [ef246, va_up_ne _ _ n341]; exact k_dF
          have n343 : dF ≠ dO := hneL k_dF k_dO (Nat.ne_of_beq_eq_false rfl)
          have n344 : dF ≠ dU := hneL k_dF k_dU (Nat.ne_of_beq_eq_false rfl)
          have n345 : dF ≠ dJ := hneL k_dF k_dJ (Nat.ne_of_beq_eq_false rfl)
          have n346 : dF ≠ dK := hneL k_dF k_dK (Nat.ne_of_beq_eq_false rfl)
          have n347 : dF ≠ dN := hneL k_dF k_dN (Nat.ne_of_beq_eq_false rfl)
          have n348 : dF ≠ dH := hneL k_dF k_dH (Nat.ne_of_beq_eq_false rfl)
          have n349 : dF ≠ dI := hneL k_dF k_dI (Nat.ne_of_beq_eq_false rfl)
          have n350 : dF ≠ dZ := hneL k_dF k_dZ (Nat.ne_of_beq_eq_false rfl)
          have n351 : dF ≠ dT := hneL k_dF k_dT (Nat.ne_of_beq_eq_false rfl)
          have n352 : dF ≠ dR := hneL k_dF k_dR (Nat.ne_of_beq_eq_false rfl)
          have n353 : dF ≠ dL := hneL k_dF k_dL (Nat.ne_of_beq_eq_false rfl)
          have n354 : dF ≠ dS := hneL k_dF k_dS (Nat.ne_of_beq_eq_false rfl)
          have n355 : dF ≠ dQ := hneL k_dF k_dQ (Nat.ne_of_beq_eq_false rfl)
          have h342 : f278 dF = some (.inl (cI G, 61, .inl (nf sa))) := (hEq.k k281) _ _ h340 (ninc n355 (ninc n354 (ninc n353 (ninc n352 (ninc n351 (ninc n350 (ninc n349 (ninc n348 (ninc n347 (ninc n346 (ninc n345 (ninc n344 (ninc n343 nin0)))))))))))))
          have h356 : f283 dF = some (.inl (cI G, 61, .inl (nf sa))) := by rw [ef283, va_up_ne _ _ n354]; exact h342
          have n358 : dP ≠ mo := hne k_dP k_mo (Nat.ne_of_beq_eq_false rfl)
          have h357 : f246 dP = some (.inl (cI G, 240, .inl (nf pk))) := by rw [ef246, va_up_ne _ _ n358]; exact k_dP
          have n360 : dP ≠ dO := hneL k_dP k_dO (Nat.ne_of_beq_eq_false rfl)
          have n361 : dP ≠ dU := hneL k_dP k_dU (Nat.ne_of_beq_eq_false rfl)
          have n362 : dP ≠ dJ := hneL k_dP k_dJ (Nat.ne_of_beq_eq_false rfl)
          have n363 : dP ≠ dK := hneL k_dP k_dK (Nat.ne_of_beq_eq_false rfl)
          have n364 : dP ≠ dN := hneL k_dP k_dN (Nat.ne_of_beq_eq_false rfl)
          have n365 : dP ≠ dH := hneL k_dP k_dH (Nat.ne_of_beq_eq_false rfl)
          have n366 : dP ≠ dI := hneL k_dP k_dI (Nat.ne_of_beq_eq_false rfl)
          have n367 : dP ≠ dZ := hneL k_dP k_dZ (Nat.ne_of_beq_eq_false rfl)
          have n368 : dP ≠ dT := hneL k_dP k_dT (Nat.ne_of_beq_eq_false rfl)
          have n369 : dP ≠ dR := hneL k_dP k_dR (Nat.ne_of_beq_eq_false rfl)
          have n370 : dP ≠ dL := hneL k_dP k_dL (Nat.ne_of_beq_eq_false rfl)
          have n371 : dP ≠ dS := hneL k_dP k_dS (Nat.ne_of_beq_eq_false rfl)
          have n372 : dP ≠ dQ := hneL k_dP k_dQ (Nat.ne_of_beq_eq_false rfl)
          have h359 : f278 dP = some (.inl (cI G, 240, .inl (nf pk))) := (hEq.k k281) _ _ h357 (ninc n372 (ninc n371 (ninc n370 (ninc n369 (ninc n368 (ninc n367 (ninc n366 (ninc n365 (ninc n364 (ninc n363 (ninc n362 (ninc n361 (ninc n360 nin0)))))))))))))
          have h373 : f283 dP = some (.inl (cI G, 240, .inl (nf pk))) := by rw [ef283, va_up_ne _ _ n371]; exact h359
          have n375 : dE ≠ mo := hne k_dE k_mo (Nat.ne_of_beq_eq_false rfl)
          have h374 : f246 dE = some (.inl (cZ G, 240, .inl gh)) := by rw [ef246, va_up_ne _ _ n375]; exact k_dE
          have n377 : dE ≠ dO := hneL k_dE k_dO (Nat.ne_of_beq_eq_false rfl)
          have n378 : dE ≠ dU := hneL k_dE k_dU (Nat.ne_of_beq_eq_false rfl)
          have n379 : dE ≠ dJ := hneL k_dE k_dJ (Nat.ne_of_beq_eq_false rfl)
          have n380 : dE ≠ dK := hneL k_dE k_dK (Nat.ne_of_beq_eq_false rfl)
          have n381 : dE ≠ dN := hneL k_dE k_dN (Nat.ne_of_beq_eq_false rfl)
          have n382 : dE ≠ dH := hneL k_dE k_dH (Nat.ne_of_beq_eq_false rfl)
          have n383 : dE ≠ dI := hneL k_dE k_dI (Nat.ne_of_beq_eq_false rfl)
          have n384 : dE ≠ dZ := hneL k_dE k_dZ (Nat.ne_of_beq_eq_false rfl)
          have n385 : dE ≠ dT := hneL k_dE k_dT (Nat.ne_of_beq_eq_false rfl)
          have n386 : dE ≠ dR := hneL k_dE k_dR (Nat.ne_of_beq_eq_false rfl)
          have n387 : dE ≠ dL := hneL k_dE k_dL (Nat.ne_of_beq_eq_false rfl)
          have n388 : dE ≠ dS := hneL k_dE k_dS (Nat.ne_of_beq_eq_false rfl)
          have n389 : dE ≠ dQ := hneL k_dE k_dQ (Nat.ne_of_beq_eq_false rfl)
          have h376 : f278 dE = some (.inl (cZ G, 240, .inl gh)) := (hEq.k k281) _ _ h374 (ninc n389 (ninc n388 (ninc n387 (ninc n386 (ninc n385 (ninc n384 (ninc n383 (ninc n382 (ninc n381 (ninc n380 (ninc n379 (ninc n378 (ninc n377 nin0)))))))))))))
          have h390 : f283 dE = some (.inl (cZ G, 240, .inl gh)) := by rw [ef283, va_up_ne _ _ n388]; exact h376
          have n392 : dX ≠ mo := hne k_dX k_mo (Nat.ne_of_beq_eq_false rfl)
          have h391 : f246 dX = some (.inl (cI G, 3, .inl (nf fl))) := by rw [ef246, va_up_ne _ _ n392]; exact k_dX
          have n394 : dX ≠ dO := hneL k_dX k_dO (Nat.ne_of_beq_eq_false rfl)
          have n395 : dX ≠ dU := hneL k_dX k_dU (Nat.ne_of_beq_eq_false rfl)
          have n396 : dX ≠ dJ := hneL k_dX k_dJ (Nat.ne_of_beq_eq_false rfl)
          have n397 : dX ≠ dK := hneL k_dX k_dK (Nat.ne_of_beq_eq_false rfl)
          have n398 : dX ≠ dN := hneL k_dX k_dN (Nat.ne_of_beq_eq_false rfl)
          have n399 : dX ≠ dH := hneL k_dX k_dH (Nat.ne_of_beq_eq_false rfl)
          have n400 : dX ≠ dI := hneL k_dX k_dI (Nat.ne_of_beq_eq_false rfl)
          have n401 : dX ≠ dZ := hneL k_dX k_dZ (Nat.ne_of_beq_eq_false rfl)
          have n402 : dX ≠ dT := hneL k_dX k_dT (Nat.ne_of_beq_eq_false rfl)
          have n403 : dX ≠ dR := hneL k_dX k_dR (Nat.ne_of_beq_eq_false rfl)
          have n404 : dX ≠ dL := hneL k_dX k_dL (Nat.ne_of_beq_eq_false rfl)
          have n405 : dX ≠ dS := hneL k_dX k_dS (Nat.ne_of_beq_eq_false rfl)
          have n406 : dX ≠ dQ := hneL k_dX k_dQ (Nat.ne_of_beq_eq_false rfl)
          have h393 : f278 dX = some (.inl (cI G, 3, .inl (nf fl))) := (hEq.k k281) _ _ h391 (ninc n406 (ninc n405 (ninc n404 (ninc n403 (ninc n402 (ninc n401 (ninc n400 (ninc n399 (ninc n398 (ninc n397 (ninc n396 (ninc n395 (ninc n394 nin0)))))))))))))
          have h407 : f283 dX = some (.inl (cI G, 3, .inl (nf fl))) := by rw [ef283, va_up_ne _ _ n405]; exact h393
          have n409 : dY ≠ mo := hne k_dY k_mo (Nat.ne_of_beq_eq_false rfl)
          have h408 : f246 dY = some (.inl (cI G, 3, .inl gl)) := by rw [ef246, va_up_ne _ _ n409]; exact k_dY
          have n411 : dY ≠ dO := hneL k_dY k_dO (Nat.ne_of_beq_eq_false rfl)
          have n412 : dY ≠ dU := hneL k_dY k_dU (Nat.ne_of_beq_eq_false rfl)
          have n413 : dY ≠ dJ := hneL k_dY k_dJ (Nat.ne_of_beq_eq_false rfl)
          have n414 : dY ≠ dK := hneL k_dY k_dK (Nat.ne_of_beq_eq_false rfl)
          have n415 : dY ≠ dN := hneL k_dY k_dN (Nat.ne_of_beq_eq_false rfl)
          have n416 : dY ≠ dH := hneL k_dY k_dH (Nat.ne_of_beq_eq_false rfl)
          have n417 : dY ≠ dI := hneL k_dY k_dI (Nat.ne_of_beq_eq_false rfl)
          have n418 : dY ≠ dZ := hneL k_dY k_dZ (Nat.ne_of_beq_eq_false rfl)
          have n419 : dY ≠ dT := hneL k_dY k_dT (Nat.ne_of_beq_eq_false rfl)
          have n420 : dY ≠ dR := hneL k_dY k_dR (Nat.ne_of_beq_eq_false rfl)
          have n421 : dY ≠ dL := hneL k_dY k_dL (Nat.ne_of_beq_eq_false rfl)
          have n422 : dY ≠ dS := hneL k_dY k_dS (Nat.ne_of_beq_eq_false rfl)
          have n423 : dY ≠ dQ := hneL k_dY k_dQ (Nat.ne_of_beq_eq_false rfl)
          have h410 : f278 dY = some (.inl (cI G, 3, .inl gl)) := (hEq.k k281) _ _ h408 (ninc n423 (ninc n422 (ninc n421 (ninc n420 (ninc n419 (ninc n418 (ninc n417 (ninc n416 (ninc n415 (ninc n414 (ninc n413 (ninc n412 (ninc n411 nin0)))))))))))))
          have h424 : f283 dY = some (.inl (cI G, 3, .inl gl)) := by rw [ef283, va_up_ne _ _ n422]; exact h410
          have n426 : dG ≠ mo := hne k_dG k_mo (Nat.ne_of_beq_eq_false rfl)
          have h425 : f246 dG = some (.inl (cI G, 60, .inl (nf gv))) := by rw [ef246, va_up_ne _ _ n426]; exact k_dG
          have n428 : dG ≠ dO := hneL k_dG k_dO (Nat.ne_of_beq_eq_false rfl)
          have n429 : dG ≠ dU := hneL k_dG k_dU (Nat.ne_of_beq_eq_false rfl)
          have n430 : dG ≠ dJ := hneL k_dG k_dJ (Nat.ne_of_beq_eq_false rfl)
          have n431 : dG ≠ dK := hneL k_dG k_dK (Nat.ne_of_beq_eq_false rfl)
          have n432 : dG ≠ dN := hneL k_dG k_dN (Nat.ne_of_beq_eq_false rfl)
          have n433 : dG ≠ dH := hneL k_dG k_dH (Nat.ne_of_beq_eq_false rfl)
          have n434 : dG ≠ dI := hneL k_dG k_dI (Nat.ne_of_beq_eq_false rfl)
          have n435 : dG ≠ dZ := hneL k_dG k_dZ (Nat.ne_of_beq_eq_false rfl)
          have n436 : dG ≠ dT := hneL k_dG k_dT (Nat.ne_of_beq_eq_false rfl)
          have n437 : dG ≠ dR := hneL k_dG k_dR (Nat.ne_of_beq_eq_false rfl)
          have n438 : dG ≠ dL := hneL k_dG k_dL (Nat.ne_of_beq_eq_false rfl)
          have n439 : dG ≠ dS := hneL k_dG k_dS (Nat.ne_of_beq_eq_false rfl)
          have n440 : dG ≠ dQ := hneL k_dG k_dQ (Nat.ne_of_beq_eq_false rfl)
          have h427 : f278 dG = some (.inl (cI G, 60, .inl (nf gv))) := (hEq.k k281) _ _ h425 (ninc n440 (ninc n439 (ninc n438 (ninc n437 (ninc n436 (ninc n435 (ninc n434 (ninc n433 (ninc n432 (ninc n431 (ninc n430 (ninc n429 (ninc n428 nin0)))))))))))))
          have h441 : f283 dG = some (.inl (cI G, 60, .inl (nf gv))) := by rw [ef283, va_up_ne _ _ n439]; exact h427
          exact hp_iret (v := (gS (1 : Int32).toNatClampNeg)) B0 hw hS hr ⟨Nat.le_of_ble_eq_true rfl, Nat.le_of_ble_eq_true rfl⟩ dX5_close_61 (⟨⟨_, rfl⟩, ⟨_, ⟨h285, hND, ⟨_, _, _, _, _, _, _, _, _, _, _, _, _, h286, h284, h288, h289, h290, h291, h292, h293, h294, h295, h297, h299, h301, hHd9_n279, (hMn.mono hMn9_n279 (by omega))⟩, h318, h332, h339, h356, h373, h390, h407, h424, h441, hSA, hB9, hfl9⟩⟩, ((show hEq [mo, dW, dA, dQ, dM, dS, dL, dR, dT, dZ, dI, dH, dN, dK, dJ, dU, dO, dF, dP, dE, dX, dY, dG] f f246 from (by rw [ef246]; exact hEq.up List.mem_cons_self)).tr ((show hEq [mo, dW, dA, dQ, dM, dS, dL, dR, dT, dZ, dI, dH, dN, dK, dJ, dU, dO, dF, dP, dE, dX, dY, dG] f246 f278 from (hEq.mono k281 sub13)).tr (show hEq [mo, dW, dA, dQ, dM, dS, dL, dR, dT, dZ, dI, dH, dN, dK, dJ, dU, dO, dF, dP, dE, dX, dY, dG] f278 f283 from (by rw [ef283]; exact hEq.up (List.mem_cons_of_mem _ (List.mem_cons_of_mem _ (List.mem_cons_of_mem _ (List.mem_cons_of_mem _ (List.mem_cons_of_mem _ List.mem_cons_self)))))))))⟩)
      · refine lv_iconst (v := 2) hx hb dX5_close_21 (by decide) ?_
        refine lv_goto (tgt := 26) hx hb dX5_close_22 (by decide) ?_
        refine hp_put (fs1 := [.int 2, .ref dW, .ref dA, .ref dQ, .ref dM, .ref dS, .ref dL, .ref dR, .ref dT, .ref dZ, .ref dI, .ref dH, .ref dN, .ref dK, .ref dJ, .ref dU, .ref dO, .int (nI n), .int (nI a), .ref dF, .ref dP, .ref dE, .ref dX, .ref dY, .int (nI x), .int (nI cg), .ref dG]) (ty := .int) B0 hw hS 5 rfl in_X5 tyX5 tyX5_ok nmX5 k_mo 0 (by decide) qF_X5_77 rfl (by decide +kernel) rfl rfl (Nat.le_of_ble_eq_true rfl) rfl dX5_close_26 (fun H locs f442 ef442 hw hS => ?_)
        have h443 : f442 mo = some (.inr (5, [.int 2, .ref dW, .ref dA, .ref dQ, .ref dM, .ref dS, .ref dL, .ref dR, .ref dT, .ref dZ, .ref dI, .ref dH, .ref dN, .ref dK, .ref dJ, .ref dU, .ref dO, .int (nI n), .int (nI a), .ref dF, .ref dP, .ref dE, .ref dX, .ref dY, .int (nI x), .int (nI cg), .ref dG])) := by rw [ef442, va_up_self]
        refine lv_aload_n hx hb dX5_close_29 rfl (lv_at hl9 0 rfl) ?_
        refine hp_get B0 hw 5 rfl in_X5 h443 0 (by decide) qF_X5_77 rfl dX5_close_30 ?_
        refine lv_if_le (tgt := 38) hx hb dX5_close_33 (by decide) (fun c9 => absurd c9 (by decide)) (fun _ => ?_)
        refine lv_iconst (v := 0) hx hb dX5_close_36 (by decide) ?_
        have n445 : dQ ≠ mo := hne k_dQ k_mo (Nat.ne_of_beq_eq_false rfl)
        have h444 : f442 dQ = some (.inl (cI G, 12, .inl gQ)) := by rw [ef442, va_up_ne _ _ n445]; exact k_dQ
        have n447 : dS ≠ mo := hne k_dS k_mo (Nat.ne_of_beq_eq_false rfl)
        have h446 : f442 dS = some (.inl (cI G, 2, .inl gS)) := by rw [ef442, va_up_ne _ _ n447]; exact k_dS
        have n449 : dL ≠ mo := hne k_dL k_mo (Nat.ne_of_beq_eq_false rfl)
        have h448 : f442 dL = some (.inl (cI G, 2, .inl gL)) := by rw [ef442, va_up_ne _ _ n449]; exact k_dL
        have n451 : dR ≠ mo := hne k_dR k_mo (Nat.ne_of_beq_eq_false rfl)
        have h450 : f442 dR = some (.inl (cI G, 2, .inl gR)) := by rw [ef442, va_up_ne _ _ n451]; exact k_dR
        have n453 : dT ≠ mo := hne k_dT k_mo (Nat.ne_of_beq_eq_false rfl)
        have h452 : f442 dT = some (.inl (cI G, 2, .inl gT)) := by rw [ef442, va_up_ne _ _ n453]; exact k_dT
        have n455 : dZ ≠ mo := hne k_dZ k_mo (Nat.ne_of_beq_eq_false rfl)
        have h454 : f442 dZ = some (.inl (cZ G, 2, .inl gZ)) := by rw [ef442, va_up_ne _ _ n455]; exact k_dZ
        have n457 : dI ≠ mo := hne k_dI k_mo (Nat.ne_of_beq_eq_false rfl)
        have h456 : f442 dI = some (.inl (cI G, 2, .inl gI)) := by rw [ef442, va_up_ne _ _ n457]; exact k_dI
        have n459 : dH ≠ mo := hne k_dH k_mo (Nat.ne_of_beq_eq_false rfl)
        have h458 : f442 dH = some (.inl (cI G, 2, .inl gH)) := by rw [ef442, va_up_ne _ _ n459]; exact k_dH
        have n461 : dN ≠ mo := hne k_dN k_mo (Nat.ne_of_beq_eq_false rfl)
        have h460 : f442 dN = some (.inl (cI G, 2, .inl gN)) := by rw [ef442, va_up_ne _ _ n461]; exact k_dN
        have n463 : dK ≠ mo := hne k_dK k_mo (Nat.ne_of_beq_eq_false rfl)
        have h462 : f442 dK = some (.inl (cI G, 2048, .inl gK)) := by rw [ef442, va_up_ne _ _ n463]; exact k_dK
        have n465 : dJ ≠ mo := hne k_dJ k_mo (Nat.ne_of_beq_eq_false rfl)
        have h464 : f442 dJ = some (.inl (cI G, 2048, .inl gJ)) := by rw [ef442, va_up_ne _ _ n465]; exact k_dJ
        have n467 : dU ≠ mo := hne k_dU k_mo (Nat.ne_of_beq_eq_false rfl)
        have h466 : f442 dU = some (.inl (cI G, 2048, .inl gU)) := by rw [ef442, va_up_ne _ _ n467]; exact k_dU
        have n469 : dO ≠ mo := hne k_dO k_mo (Nat.ne_of_beq_eq_false rfl)
        have h468 : f442 dO = some (.inl (cI G, 2048, .inl gO)) := by rw [ef442, va_up_ne _ _ n469]; exact k_dO
        have n471 : dW ≠ mo := hne k_dW k_mo (Nat.ne_of_beq_eq_false rfl)
        have h470 : f442 dW = some (.inl (cI G, 12, .inl (jn gw0 gw1))) := by rw [ef442, va_up_ne _ _ n471]; exact k_dW
        have n473 : dA ≠ mo := hne k_dA k_mo (Nat.ne_of_beq_eq_false rfl)
        have h472 : f442 dA = some (.inl (cI G, 12, .inl (jn ga0 ga1))) := by rw [ef442, va_up_ne _ _ n473]; exact k_dA
        have n475 : dM ≠ mo := hne k_dM k_mo (Nat.ne_of_beq_eq_false rfl)
        have h474 : f442 dM = some (.inl (cI G, 2, .inl (mA2 mg0 mg1))) := by rw [ef442, va_up_ne _ _ n475]; exact k_dM
        have n477 : dF ≠ mo := hne k_dF k_mo (Nat.ne_of_beq_eq_false rfl)
        have h476 : f442 dF = some (.inl (cI G, 61, .inl (nf sa))) := by rw [ef442, va_up_ne _ _ n477]; exact k_dF
        have n479 : dP ≠ mo := hne k_dP k_mo (Nat.ne_of_beq_eq_false rfl)
        have h478 : f442 dP = some (.inl (cI G, 240, .inl (nf pk))) := by rw [ef442, va_up_ne _ _ n479]; exact k_dP
        have n481 : dE ≠ mo := hne k_dE k_mo (Nat.ne_of_beq_eq_false rfl)
        have h480 : f442 dE = some (.inl (cZ G, 240, .inl gh)) := by rw [ef442, va_up_ne _ _ n481]; exact k_dE
        have n483 : dX ≠ mo := hne k_dX k_mo (Nat.ne_of_beq_eq_false rfl)
        have h482 : f442 dX = some (.inl (cI G, 3, .inl (nf fl))) := by rw [ef442, va_up_ne _ _ n483]; exact k_dX
        have n485 : dY ≠ mo := hne k_dY k_mo (Nat.ne_of_beq_eq_false rfl)
        have h484 : f442 dY = some (.inl (cI G, 3, .inl gl)) := by rw [ef442, va_up_ne _ _ n485]; exact k_dY
        have n487 : dG ≠ mo := hne k_dG k_mo (Nat.ne_of_beq_eq_false rfl)
        have h486 : f442 dG = some (.inl (cI G, 60, .inl (nf gv))) := by rw [ef442, va_up_ne _ _ n487]; exact k_dG
        exact hp_iret (v := 0) B0 hw hS hr ⟨Nat.le_of_ble_eq_true rfl, Nat.le_of_ble_eq_true rfl⟩ dX5_close_37 (⟨⟨_, rfl⟩, ⟨_, ⟨h443, hND, ⟨_, _, _, _, _, _, _, _, _, _, _, _, _, h444, h446, h448, h450, h452, h454, h456, h458, h460, h462, h464, h466, h468, hHd9, (hMn.mono hMn9 (by omega))⟩, h470, h472, h474, h476, h478, h480, h482, h484, h486, hSA, hB9, hfl9⟩⟩, (show hEq [mo, dW, dA, dQ, dM, dS, dL, dR, dT, dZ, dI, dH, dN, dK, dJ, dU, dO, dF, dP, dE, dX, dY, dG] f f442 from (by rw [ef442]; exact hEq.up List.mem_cons_self))⟩)
    · subst ev9
      refine W.eq (g2 := F0 m 5 ls [.int 0, .ref mo]) rfl ?_
      refine lv_if_ne (tgt := 12) hx hb dX5_close_5 (by decide) (fun c9 => absurd (by decide) c9) (fun _ => ?_)
      refine lv_iconst (v := 1) hx hb dX5_close_8 (by decide) ?_
      refine lv_goto (tgt := 26) hx hb dX5_close_9 (by decide) ?_
      refine hp_put (fs1 := [.int 1, .ref dW, .ref dA, .ref dQ, .ref dM, .ref dS, .ref dL, .ref dR, .ref dT, .ref dZ, .ref dI, .ref dH, .ref dN, .ref dK, .ref dJ, .ref dU, .ref dO, .int (nI n), .int (nI a), .ref dF, .ref dP, .ref dE, .ref dX, .ref dY, .int (nI x), .int (nI cg), .ref dG]) (ty := .int) B0 hw hS 5 rfl in_X5 tyX5 tyX5_ok nmX5 k_mo 0 (by decide) qF_X5_77 rfl (by decide +kernel) rfl rfl (Nat.le_of_ble_eq_true rfl) rfl dX5_close_26 (fun H locs f488 ef488 hw hS => ?_)
      have h489 : f488 mo = some (.inr (5, [.int 1, .ref dW, .ref dA, .ref dQ, .ref dM, .ref dS, .ref dL, .ref dR, .ref dT, .ref dZ, .ref dI, .ref dH, .ref dN, .ref dK, .ref dJ, .ref dU, .ref dO, .int (nI n), .int (nI a), .ref dF, .ref dP, .ref dE, .ref dX, .ref dY, .int (nI x), .int (nI cg), .ref dG])) := by rw [ef488, va_up_self]
      refine lv_aload_n hx hb dX5_close_29 rfl (lv_at hl9 0 rfl) ?_
      refine hp_get B0 hw 5 rfl in_X5 h489 0 (by decide) qF_X5_77 rfl dX5_close_30 ?_
      refine lv_if_le (tgt := 38) hx hb dX5_close_33 (by decide) (fun c9 => absurd c9 (by decide)) (fun _ => ?_)
      refine lv_iconst (v := 0) hx hb dX5_close_36 (by decide) ?_
      have n491 : dQ ≠ mo := hne k_dQ k_mo (Nat.ne_of_beq_eq_false rfl)
      have h490 : f488 dQ = some (.inl (cI G, 12, .inl gQ)) := by rw [ef488, va_up_ne _ _ n491]; exact k_dQ
      have n493 : dS ≠ mo := hne k_dS k_mo (Nat.ne_of_beq_eq_false rfl)
      have h492 : f488 dS = some (.inl (cI G, 2, .inl gS)) := by rw [ef488, va_up_ne _ _ n493]; exact k_dS
      have n495 : dL ≠ mo := hne k_dL k_mo (Nat.ne_of_beq_eq_false rfl)
      have h494 : f488 dL = some (.inl (cI G, 2, .inl gL)) := by rw [ef488, va_up_ne _ _ n495]; exact k_dL
      have n497 : dR ≠ mo := hne k_dR k_mo (Nat.ne_of_beq_eq_false rfl)
      have h496 : f488 dR = some (.inl (cI G, 2, .inl gR)) := by rw [ef488, va_up_ne _ _ n497]; exact k_dR
      have n499 : dT ≠ mo := hne k_dT k_mo (Nat.ne_of_beq_eq_false rfl)
      have h498 : f488 dT = some (.inl (cI G, 2, .inl gT)) := by rw [ef488, va_up_ne _ _ n499]; exact k_dT
      have n501 : dZ ≠ mo := hne k_dZ k_mo (Nat.ne_of_beq_eq_false rfl)
      have h500 : f488 dZ = some (.inl (cZ G, 2, .inl gZ)) := by rw [ef488, va_up_ne _ _ n501]; exact k_dZ
      have n503 : dI ≠ mo := hne k_dI k_mo (Nat.ne_of_beq_eq_false rfl)
      have h502 : f488 dI = some (.inl (cI G, 2, .inl gI)) := by rw [ef488, va_up_ne _ _ n503]; exact k_dI
      have n505 : dH ≠ mo := hne k_dH k_mo (Nat.ne_of_beq_eq_false rfl)
      have h504 : f488 dH = some (.inl (cI G, 2, .inl gH)) := by rw [ef488, va_up_ne _ _ n505]; exact k_dH
      have n507 : dN ≠ mo := hne k_dN k_mo (Nat.ne_of_beq_eq_false rfl)
      have h506 : f488 dN = some (.inl (cI G, 2, .inl gN)) := by rw [ef488, va_up_ne _ _ n507]; exact k_dN
      have n509 : dK ≠ mo := hne k_dK k_mo (Nat.ne_of_beq_eq_false rfl)
      have h508 : f488 dK = some (.inl (cI G, 2048, .inl gK)) := by rw [ef488, va_up_ne _ _ n509]; exact k_dK
      have n511 : dJ ≠ mo := hne k_dJ k_mo (Nat.ne_of_beq_eq_false rfl)
      have h510 : f488 dJ = some (.inl (cI G, 2048, .inl gJ)) := by rw [ef488, va_up_ne _ _ n511]; exact k_dJ
      have n513 : dU ≠ mo := hne k_dU k_mo (Nat.ne_of_beq_eq_false rfl)
      have h512 : f488 dU = some (.inl (cI G, 2048, .inl gU)) := by rw [ef488, va_up_ne _ _ n513]; exact k_dU
      have n515 : dO ≠ mo := hne k_dO k_mo (Nat.ne_of_beq_eq_false rfl)
      have h514 : f488 dO = some (.inl (cI G, 2048, .inl gO)) := by rw [ef488, va_up_ne _ _ n515]; exact k_dO
      have n517 : dW ≠ mo := hne k_dW k_mo (Nat.ne_of_beq_eq_false rfl)
      have h516 : f488 dW = some (.inl (cI G, 12, .inl (jn gw0 gw1))) := by rw [ef488, va_up_ne _ _ n517]; exact k_dW
      have n519 : dA ≠ mo := hne k_dA k_mo (Nat.ne_of_beq_eq_false rfl)
      have h518 : f488 dA = some (.inl (cI G, 12, .inl (jn ga0 ga1))) := by rw [ef488, va_up_ne _ _ n519]; exact k_dA
      have n521 : dM ≠ mo := hne k_dM k_mo (Nat.ne_of_beq_eq_false rfl)
      have h520 : f488 dM = some (.inl (cI G, 2, .inl (mA2 mg0 mg1))) := by rw [ef488, va_up_ne _ _ n521]; exact k_dM
      have n523 : dF ≠ mo := hne k_dF k_mo (Nat.ne_of_beq_eq_false rfl)
      have h522 : f488 dF = some (.inl (cI G, 61, .inl (nf sa))) := by rw [ef488, va_up_ne _ _ n523]; exact k_dF
      have n525 : dP ≠ mo := hne k_dP k_mo (Nat.ne_of_beq_eq_false rfl)
      have h524 : f488 dP = some (.inl (cI G, 240, .inl (nf pk))) := by rw [ef488, va_up_ne _ _ n525]; exact k_dP
      have n527 : dE ≠ mo := hne k_dE k_mo (Nat.ne_of_beq_eq_false rfl)
      have h526 : f488 dE = some (.inl (cZ G, 240, .inl gh)) := by rw [ef488, va_up_ne _ _ n527]; exact k_dE
      have n529 : dX ≠ mo := hne k_dX k_mo (Nat.ne_of_beq_eq_false rfl)
      have h528 : f488 dX = some (.inl (cI G, 3, .inl (nf fl))) := by rw [ef488, va_up_ne _ _ n529]; exact k_dX
      have n531 : dY ≠ mo := hne k_dY k_mo (Nat.ne_of_beq_eq_false rfl)
      have h530 : f488 dY = some (.inl (cI G, 3, .inl gl)) := by rw [ef488, va_up_ne _ _ n531]; exact k_dY
      have n533 : dG ≠ mo := hne k_dG k_mo (Nat.ne_of_beq_eq_false rfl)
      have h532 : f488 dG = some (.inl (cI G, 60, .inl (nf gv))) := by rw [ef488, va_up_ne _ _ n533]; exact k_dG
      exact hp_iret (v := 0) B0 hw hS hr ⟨Nat.le_of_ble_eq_true rfl, Nat.le_of_ble_eq_true rfl⟩ dX5_close_37 (⟨⟨_, rfl⟩, ⟨_, ⟨h489, hND, ⟨_, _, _, _, _, _, _, _, _, _, _, _, _, h490, h492, h494, h496, h498, h500, h502, h504, h506, h508, h510, h512, h514, hHd9, (hMn.mono hMn9 (by omega))⟩, h516, h518, h520, h522, h524, h526, h528, h530, h532, hSA, hB9, hfl9⟩⟩, (show hEq [mo, dW, dA, dQ, dM, dS, dL, dR, dT, dZ, dI, dH, dN, dK, dJ, dU, dO, dF, dP, dE, dX, dY, dG] f f488 from (by rw [ef488]; exact hEq.up List.mem_cons_self))⟩)

set_option maxHeartbeats 4000000 in
set_option maxRecDepth 100000 in
theorem c_W5_lose {l : Launch} (hl : l.stackTraces = false) (G : hG) (f : hM) (mo dW dA dQ dM dS dL dR dT dZ dI dH dN dK dJ dU dO dF dP dE dX dY dG : Nat) (th : Int32) (B : Nat) (gw0 : Nat → Int32) (ga0 : Nat → Int32) (gw1 : Nat → Int32) (ga1 : Nat → Int32) (mg0 : Int32) (mg1 : Int32) (n : Nat) (a : Nat) (cg : Nat) (x : Nat) (sa : Nat → Nat) (pk : Nat → Nat) (fl : Nat → Nat) (gv : Nat → Nat) (gh : Nat → Int32) (gl : Nat → Int32) (hC : MW G f mo dW dA dQ dM dS dL dR dT dZ dI dH dN dK dJ dU dO dF dP dE dX dY dG th B gw0 ga0 gw1 ga1 mg0 mg1 n a cg x sa pk fl gv gh gl) (hBB : B + 100 < 100000) (i : Int32) : CT l yX5_lose (.code yX5_lose cX5_lose 2 (some .int)) 3 63 0 0 G [.ref mo, .int i] f (fun v f1 => (∃ r9 : Int32, v = some (.int r9)) ∧ (∃ t9 : Int32, MW G f1 mo dW dA dQ dM dS dL dR dT dZ dI dH dN dK dJ dU dO dF dP dE dX dY dG t9 (B + 100) gw0 ga0 gw1 ga1 mg0 mg1 n a cg x sa pk fl gv gh gl) ∧ hEq [mo, dW, dA, dQ, dM, dS, dL, dR, dT, dZ, dI, dH, dN, dK, dJ, dU, dO, dF, dP, dE, dX, dY, dG] f f1) (fun E f1 => False) := by
  refine hp_start hl (own := RX5) (by decide) rfl (Nat.le_of_ble_eq_true rfl) ?_
  intro p e s m args below meth c B0 hr hnm hout hw hS ls hl9
  have hx := B0.1
  have hb := B0.2.1
  have hl9 : lv_has ls 2 [(0, .ref mo), (1, .int i)] := hl9
  obtain ⟨k_mo, hND, hLM, k_dW, k_dA, k_dM, k_dF, k_dP, k_dE, k_dX, k_dY, k_dG, hSA, hB9, hfl9⟩ := id hC
  obtain ⟨nd_dW_dA, nd_dW_dQ, nd_dA_dQ, nd_dM_dS, nd_dM_dL, nd_dM_dR, nd_dM_dT, nd_dM_dZ, nd_dM_dI, nd_dM_dH, nd_dM_dN, nd_dS_dL, nd_dS_dR, nd_dS_dT, nd_dS_dZ, nd_dS_dI, nd_dS_dH, nd_dS_dN, nd_dL_dR, nd_dL_dT, nd_dL_dZ, nd_dL_dI, nd_dL_dH, nd_dL_dN, nd_dR_dT, nd_dR_dZ, nd_dR_dI, nd_dR_dH, nd_dR_dN, nd_dT_dZ, nd_dT_dI, nd_dT_dH, nd_dT_dN, nd_dZ_dI, nd_dZ_dH, nd_dZ_dN, nd_dI_dH, nd_dI_dN, nd_dH_dN, nd_dK_dJ, nd_dK_dU, nd_dK_dO, nd_dJ_dU, nd_dJ_dO, nd_dU_dO, nd_dP_dE, nd_dX_dY⟩ := id hND
  obtain ⟨gQ, gS, gL, gR, gT, gZ, gI, gH, gN, gK, gJ, gU, gO, k_dQ, k_dS, k_dL, k_dR, k_dT, k_dZ, k_dI, k_dH, k_dN, k_dK, k_dJ, k_dU, k_dO, hHd9, hMn9⟩ := id hLM
  refine lv_aload_n hx hb dX5_lose_0 rfl (lv_at hl9 0 rfl) ?_
  refine lv_iload_n hx hb dX5_lose_1 rfl (lv_at hl9 1 rfl) ?_
  refine hp_V (ci := 5) (As := [.int i]) (rest := []) B0 hw hS (c_W5_asksFrame hl G f mo dW dA dQ dM dS dL dR dT dZ dI dH dN dK dJ dU dO dF dP dE dX dY dG th (nI n) (nI a) (nI x) (nI cg) k_mo gN k_dN i) mV_X5_asksFrame qM_X5_120 rfl k_mo rfl rfl hl9.1 (Nat.le_of_ble_eq_true rfl) ⟨⟨Nat.le_of_ble_eq_true rfl, Nat.le_of_ble_eq_true rfl⟩, Nat.le_of_ble_eq_true rfl, Nat.le_of_ble_eq_true rfl⟩ dX5_lose_2 (fun E ce q9 f1 H locs hPX hw hS hce hcv hcl => ?_) (fun v f1 H locs hP hw hS => ?_)
  · exact hPX.elim
  · obtain ⟨t2, h3, hv9, k4⟩ := hP
    rcases hv9 with ⟨ev9, b9 | b9, h5⟩ | ev9
    · subst ev9
      subst b9
      refine W.eq (g2 := F0 m 5 ls [.int 1]) rfl ?_
      refine lv_if_ne (tgt := 10) hx hb dX5_lose_5 (by decide) (fun _ => ?_) (fun c9 => absurd c9 (by decide))
      refine lv_aload_n hx hb dX5_lose_10 rfl (lv_at hl9 0 rfl) ?_
      refine hp_get B0 hw 5 rfl in_X5 h3 10 (by decide) qF_X5_38 rfl dX5_lose_11 ?_
      refine lv_iload_n hx hb dX5_lose_14 rfl (lv_at hl9 1 rfl) ?_
      refine lv_dup2_11 hx hb dX5_lose_15 rfl rfl ?_
      have n7 : dI ≠ mo := hne k_dI k_mo (Nat.ne_of_beq_eq_false rfl)
      have h6 : f1 dI = some (.inl (cI G, 2, .inl gI)) := (hEq.k k4) _ _ k_dI (ninc n7 nin0)
      refine hp_iald B0 hw h6 (by unfold vp_in; decide) dX5_lose_16 ?_
      refine lv_iconst (v := 1) hx hb dX5_lose_17 (by decide) ?_
      refine lv_iadd hx hb dX5_lose_18 ?_
      refine hp_iast B0 hw hS h6 (by unfold vp_in; decide) dX5_lose_19 (fun H locs f8 ef8 hw hS => ?_)
      have h9 : f8 dI = some (.inl (cI G, 2, .inl (upd gI (0 : Int32).toNatClampNeg ((gI (0 : Int32).toNatClampNeg) + 1)))) := by rw [ef8, va_up_self]
      refine lv_aload_n hx hb dX5_lose_20 rfl (lv_at hl9 0 rfl) ?_
      have h10 : f8 mo = some (.inr (5, [.int t2, .ref dW, .ref dA, .ref dQ, .ref dM, .ref dS, .ref dL, .ref dR, .ref dT, .ref dZ, .ref dI, .ref dH, .ref dN, .ref dK, .ref dJ, .ref dU, .ref dO, .int (nI n), .int (nI a), .ref dF, .ref dP, .ref dE, .ref dX, .ref dY, .int (nI x), .int (nI cg), .ref dG])) := by rw [ef8, va_up_ne _ _ (Ne.symm n7)]; exact h3
      refine hp_get B0 hw 5 rfl in_X5 h10 13 (by decide) qF_X5_47 rfl dX5_lose_21 ?_
      refine lv_aload_n hx hb dX5_lose_24 rfl (lv_at hl9 0 rfl) ?_
      refine lv_iload_n hx hb dX5_lose_25 rfl (lv_at hl9 1 rfl) ?_
      have n12 : dM ≠ mo := hne k_dM k_mo (Nat.ne_of_beq_eq_false rfl)
      have h11 : f1 dM = some (.inl (cI G, 2, .inl (mA2 mg0 mg1))) := (hEq.k k4) _ _ k_dM (ninc n12 nin0)
      have h13 : f8 dM = some (.inl (cI G, 2, .inl (mA2 mg0 mg1))) := by rw [ef8, va_up_ne _ _ nd_dM_dI]; exact h11
      have n15 : dA ≠ mo := hne k_dA k_mo (Nat.ne_of_beq_eq_false rfl)
      have h14 : f1 dA = some (.inl (cI G, 12, .inl (jn ga0 ga1))) := (hEq.k k4) _ _ k_dA (ninc n15 nin0)
      have n17 : dA ≠ dI := hneL k_dA k_dI (Nat.ne_of_beq_eq_false rfl)
      have h16 : f8 dA = some (.inl (cI G, 12, .inl (jn ga0 ga1))) := by rw [ef8, va_up_ne _ _ n17]; exact h14
      have n19 : dQ ≠ mo := hne k_dQ k_mo (Nat.ne_of_beq_eq_false rfl)
      have h18 : f1 dQ = some (.inl (cI G, 12, .inl gQ)) := (hEq.k k4) _ _ k_dQ (ninc n19 nin0)
      have n21 : dQ ≠ dI := hneL k_dQ k_dI (Nat.ne_of_beq_eq_false rfl)
      have h20 : f8 dQ = some (.inl (cI G, 12, .inl gQ)) := by rw [ef8, va_up_ne _ _ n21]; exact h18
      have n23 : dS ≠ mo := hne k_dS k_mo (Nat.ne_of_beq_eq_false rfl)
      have h22 : f1 dS = some (.inl (cI G, 2, .inl gS)) := (hEq.k k4) _ _ k_dS (ninc n23 nin0)
      have h24 : f8 dS = some (.inl (cI G, 2, .inl gS)) := by rw [ef8, va_up_ne _ _ nd_dS_dI]; exact h22
      have n26 : dL ≠ mo := hne k_dL k_mo (Nat.ne_of_beq_eq_false rfl)
      have h25 : f1 dL = some (.inl (cI G, 2, .inl gL)) := (hEq.k k4) _ _ k_dL (ninc n26 nin0)
      have h27 : f8 dL = some (.inl (cI G, 2, .inl gL)) := by rw [ef8, va_up_ne _ _ nd_dL_dI]; exact h25
      have n29 : dR ≠ mo := hne k_dR k_mo (Nat.ne_of_beq_eq_false rfl)
      have h28 : f1 dR = some (.inl (cI G, 2, .inl gR)) := (hEq.k k4) _ _ k_dR (ninc n29 nin0)
      have h30 : f8 dR = some (.inl (cI G, 2, .inl gR)) := by rw [ef8, va_up_ne _ _ nd_dR_dI]; exact h28
      have n32 : dT ≠ mo := hne k_dT k_mo (Nat.ne_of_beq_eq_false rfl)
      have h31 : f1 dT = some (.inl (cI G, 2, .inl gT)) := (hEq.k k4) _ _ k_dT (ninc n32 nin0)
      have h33 : f8 dT = some (.inl (cI G, 2, .inl gT)) := by rw [ef8, va_up_ne _ _ nd_dT_dI]; exact h31
      have n35 : dZ ≠ mo := hne k_dZ k_mo (Nat.ne_of_beq_eq_false rfl)
      have h34 : f1 dZ = some (.inl (cZ G, 2, .inl gZ)) := (hEq.k k4) _ _ k_dZ (ninc n35 nin0)
      have h36 : f8 dZ = some (.inl (cZ G, 2, .inl gZ)) := by rw [ef8, va_up_ne _ _ nd_dZ_dI]; exact h34
      have n38 : dH ≠ mo := hne k_dH k_mo (Nat.ne_of_beq_eq_false rfl)
      have h37 : f1 dH = some (.inl (cI G, 2, .inl gH)) := (hEq.k k4) _ _ k_dH (ninc n38 nin0)
      have h39 : f8 dH = some (.inl (cI G, 2, .inl gH)) := by rw [ef8, va_up_ne _ _ (Ne.symm nd_dI_dH)]; exact h37
      have n41 : dN ≠ mo := hne k_dN k_mo (Nat.ne_of_beq_eq_false rfl)
      have h40 : f1 dN = some (.inl (cI G, 2, .inl gN)) := (hEq.k k4) _ _ k_dN (ninc n41 nin0)
      have h42 : f8 dN = some (.inl (cI G, 2, .inl gN)) := by rw [ef8, va_up_ne _ _ (Ne.symm nd_dI_dN)]; exact h40
      have n44 : dK ≠ mo := hne k_dK k_mo (Nat.ne_of_beq_eq_false rfl)
      have h43 : f1 dK = some (.inl (cI G, 2048, .inl gK)) := (hEq.k k4) _ _ k_dK (ninc n44 nin0)
      have n46 : dK ≠ dI := hneL k_dK k_dI (Nat.ne_of_beq_eq_false rfl)
      have h45 : f8 dK = some (.inl (cI G, 2048, .inl gK)) := by rw [ef8, va_up_ne _ _ n46]; exact h43
      have n48 : dJ ≠ mo := hne k_dJ k_mo (Nat.ne_of_beq_eq_false rfl)
      have h47 : f1 dJ = some (.inl (cI G, 2048, .inl gJ)) := (hEq.k k4) _ _ k_dJ (ninc n48 nin0)
      have n50 : dJ ≠ dI := hneL k_dJ k_dI (Nat.ne_of_beq_eq_false rfl)
      have h49 : f8 dJ = some (.inl (cI G, 2048, .inl gJ)) := by rw [ef8, va_up_ne _ _ n50]; exact h47
      have n52 : dU ≠ mo := hne k_dU k_mo (Nat.ne_of_beq_eq_false rfl)
      have h51 : f1 dU = some (.inl (cI G, 2048, .inl gU)) := (hEq.k k4) _ _ k_dU (ninc n52 nin0)
      have n54 : dU ≠ dI := hneL k_dU k_dI (Nat.ne_of_beq_eq_false rfl)
      have h53 : f8 dU = some (.inl (cI G, 2048, .inl gU)) := by rw [ef8, va_up_ne _ _ n54]; exact h51
      have n56 : dO ≠ mo := hne k_dO k_mo (Nat.ne_of_beq_eq_false rfl)
      have h55 : f1 dO = some (.inl (cI G, 2048, .inl gO)) := (hEq.k k4) _ _ k_dO (ninc n56 nin0)
      have n58 : dO ≠ dI := hneL k_dO k_dI (Nat.ne_of_beq_eq_false rfl)
      have h57 : f8 dO = some (.inl (cI G, 2048, .inl gO)) := by rw [ef8, va_up_ne _ _ n58]; exact h55
      refine hp_V (ci := 5) (As := [.int 0]) (rest := [.ref dK]) B0 hw hS (c_W5_takes hl G f8 mo dW dA dQ dM dS dL dR dT dZ dI dH dN dK dJ dU dO dF dP dE dX dY dG t2 (nI n) (nI a) (nI x) (nI cg) h10 hND (mA2 mg0 mg1) (jn ga0 ga1) h13 h16 hSA B ⟨_, _, _, _, _, _, _, _, _, _, _, _, _, h20, h24, h27, h30, h33, h36, h9, h39, h42, h45, h49, h53, h57, hHd9, (hMn.mono hMn9 (by omega))⟩ 0 (fun g9 h9 => by have h8 := h42.symm.trans h9; cases h8; exact h5) (Or.inl rfl)) mV_X5_takes qM_X5_123 rfl h10 rfl rfl hl9.1 (Nat.le_of_ble_eq_true rfl) ⟨⟨Nat.le_of_ble_eq_true rfl, Nat.le_of_ble_eq_true rfl⟩, Nat.le_of_ble_eq_true rfl, Nat.le_of_ble_eq_true rfl⟩ dX5_lose_26 (fun E ce q9 f59 H locs hPX hw hS hce hcv hcl => ?_) (fun v f59 H locs hP hw hS => ?_)
      · exact hPX.elim
      · obtain ⟨⟨r60, ev9, h61⟩, h63, k64⟩ := hP
        have h63L := h63
        obtain ⟨gQ_n62, gS_n62, gL_n62, gR_n62, gT_n62, gZ_n62, gI_n62, gH_n62, gN_n62, gK_n62, gJ_n62, gU_n62, gO_n62, k_dQ_n62, k_dS_n62, k_dL_n62, k_dR_n62, k_dT_n62, k_dZ_n62, k_dI_n62, k_dH_n62, k_dN_n62, k_dK_n62, k_dJ_n62, k_dU_n62, k_dO_n62, hHd9_n62, hMn9_n62⟩ := id h63
        subst ev9
        refine W.eq (g2 := F0 m 29 ls [.int r60, .ref dK]) rfl ?_
        refine hp_iald B0 hw k_dK_n62 h61 dX5_lose_29 ?_
        have h65 : f59 mo = some (.inr (5, [.int t2, .ref dW, .ref dA, .ref dQ, .ref dM, .ref dS, .ref dL, .ref dR, .ref dT, .ref dZ, .ref dI, .ref dH, .ref dN, .ref dK, .ref dJ, .ref dU, .ref dO, .int (nI n), .int (nI a), .ref dF, .ref dP, .ref dE, .ref dX, .ref dY, .int (nI x), .int (nI cg), .ref dG])) := (hEq.k k64) _ _ h10 (ninc (Ne.symm n19) (ninc (Ne.symm n23) (ninc (Ne.symm n26) (ninc (Ne.symm n29) (ninc (Ne.symm n32) (ninc (Ne.symm n35) (ninc (Ne.symm n7) (ninc (Ne.symm n38) (ninc (Ne.symm n41) (ninc (Ne.symm n44) (ninc (Ne.symm n48) (ninc (Ne.symm n52) (ninc (Ne.symm n56) nin0)))))))))))))
        have n67 : dW ≠ mo := hne k_dW k_mo (Nat.ne_of_beq_eq_false rfl)
        have h66 : f1 dW = some (.inl (cI G, 12, .inl (jn gw0 gw1))) := (hEq.k k4) _ _ k_dW (ninc n67 nin0)
        have n69 : dW ≠ dI := hneL k_dW k_dI (Nat.ne_of_beq_eq_false rfl)
        have h68 : f8 dW = some (.inl (cI G, 12, .inl (jn gw0 gw1))) := by rw [ef8, va_up_ne _ _ n69]; exact h66
        have n71 : dW ≠ dO := hneL k_dW k_dO (Nat.ne_of_beq_eq_false rfl)
        have n72 : dW ≠ dU := hneL k_dW k_dU (Nat.ne_of_beq_eq_false rfl)
        have n73 : dW ≠ dJ := hneL k_dW k_dJ (Nat.ne_of_beq_eq_false rfl)
        have n74 : dW ≠ dK := hneL k_dW k_dK (Nat.ne_of_beq_eq_false rfl)
        have n75 : dW ≠ dN := hneL k_dW k_dN (Nat.ne_of_beq_eq_false rfl)
        have n76 : dW ≠ dH := hneL k_dW k_dH (Nat.ne_of_beq_eq_false rfl)
        have n77 : dW ≠ dZ := hneL k_dW k_dZ (Nat.ne_of_beq_eq_false rfl)
        have n78 : dW ≠ dT := hneL k_dW k_dT (Nat.ne_of_beq_eq_false rfl)
        have n79 : dW ≠ dR := hneL k_dW k_dR (Nat.ne_of_beq_eq_false rfl)
        have n80 : dW ≠ dL := hneL k_dW k_dL (Nat.ne_of_beq_eq_false rfl)
        have n81 : dW ≠ dS := hneL k_dW k_dS (Nat.ne_of_beq_eq_false rfl)
        have h70 : f59 dW = some (.inl (cI G, 12, .inl (jn gw0 gw1))) := (hEq.k k64) _ _ h68 (ninc nd_dW_dQ (ninc n81 (ninc n80 (ninc n79 (ninc n78 (ninc n77 (ninc n69 (ninc n76 (ninc n75 (ninc n74 (ninc n73 (ninc n72 (ninc n71 nin0)))))))))))))
        have n83 : dA ≠ dO := hneL k_dA k_dO (Nat.ne_of_beq_eq_false rfl)
        have n84 : dA ≠ dU := hneL k_dA k_dU (Nat.ne_of_beq_eq_false rfl)
        have n85 : dA ≠ dJ := hneL k_dA k_dJ (Nat.ne_of_beq_eq_false rfl)
        have n86 : dA ≠ dK := hneL k_dA k_dK (Nat.ne_of_beq_eq_false rfl)
        have n87 : dA ≠ dN := hneL k_dA k_dN (Nat.ne_of_beq_eq_false rfl)
        have n88 : dA ≠ dH := hneL k_dA k_dH (Nat.ne_of_beq_eq_false rfl)
        have n89 : dA ≠ dZ := hneL k_dA k_dZ (Nat.ne_of_beq_eq_false rfl)
        have n90 : dA ≠ dT := hneL k_dA k_dT (Nat.ne_of_beq_eq_false rfl)
        have n91 : dA ≠ dR := hneL k_dA k_dR (Nat.ne_of_beq_eq_false rfl)
        have n92 : dA ≠ dL := hneL k_dA k_dL (Nat.ne_of_beq_eq_false rfl)
        have n93 : dA ≠ dS := hneL k_dA k_dS (Nat.ne_of_beq_eq_false rfl)
        have h82 : f59 dA = some (.inl (cI G, 12, .inl (jn ga0 ga1))) := (hEq.k k64) _ _ h16 (ninc nd_dA_dQ (ninc n93 (ninc n92 (ninc n91 (ninc n90 (ninc n89 (ninc n17 (ninc n88 (ninc n87 (ninc n86 (ninc n85 (ninc n84 (ninc n83 nin0)))))))))))))
        have n95 : dM ≠ dO := hneL k_dM k_dO (Nat.ne_of_beq_eq_false rfl)
        have n96 : dM ≠ dU := hneL k_dM k_dU (Nat.ne_of_beq_eq_false rfl)
        have n97 : dM ≠ dJ := hneL k_dM k_dJ (Nat.ne_of_beq_eq_false rfl)
        have n98 : dM ≠ dK := hneL k_dM k_dK (Nat.ne_of_beq_eq_false rfl)
        have n99 : dM ≠ dQ := hneL k_dM k_dQ (Nat.ne_of_beq_eq_false rfl)
        have h94 : f59 dM = some (.inl (cI G, 2, .inl (mA2 mg0 mg1))) := (hEq.k k64) _ _ h13 (ninc n99 (ninc nd_dM_dS (ninc nd_dM_dL (ninc nd_dM_dR (ninc nd_dM_dT (ninc nd_dM_dZ (ninc nd_dM_dI (ninc nd_dM_dH (ninc nd_dM_dN (ninc n98 (ninc n97 (ninc n96 (ninc n95 nin0)))))))))))))
        have n101 : dF ≠ mo := hne k_dF k_mo (Nat.ne_of_beq_eq_false rfl)
        have h100 : f1 dF = some (.inl (cI G, 61, .inl (nf sa))) := (hEq.k k4) _ _ k_dF (ninc n101 nin0)
        have n103 : dF ≠ dI := hneL k_dF k_dI (Nat.ne_of_beq_eq_false rfl)
        have h102 : f8 dF = some (.inl (cI G, 61, .inl (nf sa))) := by rw [ef8, va_up_ne _ _ n103]; exact h100
        have n105 : dF ≠ dO := hneL k_dF k_dO (Nat.ne_of_beq_eq_false rfl)
        have n106 : dF ≠ dU := hneL k_dF k_dU (Nat.ne_of_beq_eq_false rfl)
        have n107 : dF ≠ dJ := hneL k_dF k_dJ (Nat.ne_of_beq_eq_false rfl)
        have n108 : dF ≠ dK := hneL k_dF k_dK (Nat.ne_of_beq_eq_false rfl)
        have n109 : dF ≠ dN := hneL k_dF k_dN (Nat.ne_of_beq_eq_false rfl)
        have n110 : dF ≠ dH := hneL k_dF k_dH (Nat.ne_of_beq_eq_false rfl)
        have n111 : dF ≠ dZ := hneL k_dF k_dZ (Nat.ne_of_beq_eq_false rfl)
        have n112 : dF ≠ dT := hneL k_dF k_dT (Nat.ne_of_beq_eq_false rfl)
        have n113 : dF ≠ dR := hneL k_dF k_dR (Nat.ne_of_beq_eq_false rfl)
        have n114 : dF ≠ dL := hneL k_dF k_dL (Nat.ne_of_beq_eq_false rfl)
        have n115 : dF ≠ dS := hneL k_dF k_dS (Nat.ne_of_beq_eq_false rfl)
        have n116 : dF ≠ dQ := hneL k_dF k_dQ (Nat.ne_of_beq_eq_false rfl)
        have h104 : f59 dF = some (.inl (cI G, 61, .inl (nf sa))) := (hEq.k k64) _ _ h102 (ninc n116 (ninc n115 (ninc n114 (ninc n113 (ninc n112 (ninc n111 (ninc n103 (ninc n110 (ninc n109 (ninc n108 (ninc n107 (ninc n106 (ninc n105 nin0)))))))))))))
        have n118 : dP ≠ mo := hne k_dP k_mo (Nat.ne_of_beq_eq_false rfl)
        have h117 : f1 dP = some (.inl (cI G, 240, .inl (nf pk))) := (hEq.k k4) _ _ k_dP (ninc n118 nin0)
        have n120 : dP ≠ dI := hneL k_dP k_dI (Nat.ne_of_beq_eq_false rfl)
        have h119 : f8 dP = some (.inl (cI G, 240, .inl (nf pk))) := by rw [ef8, va_up_ne _ _ n120]; exact h117
        have n122 : dP ≠ dO := hneL k_dP k_dO (Nat.ne_of_beq_eq_false rfl)
        have n123 : dP ≠ dU := hneL k_dP k_dU (Nat.ne_of_beq_eq_false rfl)
        have n124 : dP ≠ dJ := hneL k_dP k_dJ (Nat.ne_of_beq_eq_false rfl)
        have n125 : dP ≠ dK := hneL k_dP k_dK (Nat.ne_of_beq_eq_false rfl)
        have n126 : dP ≠ dN := hneL k_dP k_dN (Nat.ne_of_beq_eq_false rfl)
        have n127 : dP ≠ dH := hneL k_dP k_dH (Nat.ne_of_beq_eq_false rfl)
        have n128 : dP ≠ dZ := hneL k_dP k_dZ (Nat.ne_of_beq_eq_false rfl)
        have n129 : dP ≠ dT := hneL k_dP k_dT (Nat.ne_of_beq_eq_false rfl)
        have n130 : dP ≠ dR := hneL k_dP k_dR (Nat.ne_of_beq_eq_false rfl)
        have n131 : dP ≠ dL := hneL k_dP k_dL (Nat.ne_of_beq_eq_false rfl)
        have n132 : dP ≠ dS := hneL k_dP k_dS (Nat.ne_of_beq_eq_false rfl)
        have n133 : dP ≠ dQ := hneL k_dP k_dQ (Nat.ne_of_beq_eq_false rfl)
        have h121 : f59 dP = some (.inl (cI G, 240, .inl (nf pk))) := (hEq.k k64) _ _ h119 (ninc n133 (ninc n132 (ninc n131 (ninc n130 (ninc n129 (ninc n128 (ninc n120 (ninc n127 (ninc n126 (ninc n125 (ninc n124 (ninc n123 (ninc n122 nin0)))))))))))))
        have n135 : dE ≠ mo := hne k_dE k_mo (Nat.ne_of_beq_eq_false rfl)
        have h134 : f1 dE = some (.inl (cZ G, 240, .inl gh)) := (hEq.k k4) _ _ k_dE (ninc n135 nin0)
        have n137 : dE ≠ dI := hneL k_dE k_dI (Nat.ne_of_beq_eq_false rfl)
        have h136 : f8 dE = some (.inl (cZ G, 240, .inl gh)) := by rw [ef8, va_up_ne _ _ n137]; exact h134
        have n139 : dE ≠ dO := hneL k_dE k_dO (Nat.ne_of_beq_eq_false rfl)
        have n140 : dE ≠ dU := hneL k_dE k_dU (Nat.ne_of_beq_eq_false rfl)
        have n141 : dE ≠ dJ := hneL k_dE k_dJ (Nat.ne_of_beq_eq_false rfl)
        have n142 : dE ≠ dK := hneL k_dE k_dK (Nat.ne_of_beq_eq_false rfl)
        have n143 : dE ≠ dN := hneL k_dE k_dN (Nat.ne_of_beq_eq_false rfl)
        have n144 : dE ≠ dH := hneL k_dE k_dH (Nat.ne_of_beq_eq_false rfl)
        have n145 : dE ≠ dZ := hneL k_dE k_dZ (Nat.ne_of_beq_eq_false rfl)
        have n146 : dE ≠ dT := hneL k_dE k_dT (Nat.ne_of_beq_eq_false rfl)
        have n147 : dE ≠ dR := hneL k_dE k_dR (Nat.ne_of_beq_eq_false rfl)
        have n148 : dE ≠ dL := hneL k_dE k_dL (Nat.ne_of_beq_eq_false rfl)
        have n149 : dE ≠ dS := hneL k_dE k_dS (Nat.ne_of_beq_eq_false rfl)
        have n150 : dE ≠ dQ := hneL k_dE k_dQ (Nat.ne_of_beq_eq_false rfl)
        have h138 : f59 dE = some (.inl (cZ G, 240, .inl gh)) := (hEq.k k64) _ _ h136 (ninc n150 (ninc n149 (ninc n148 (ninc n147 (ninc n146 (ninc n145 (ninc n137 (ninc n144 (ninc n143 (ninc n142 (ninc n141 (ninc n140 (ninc n139 nin0)))))))))))))
        have n152 : dX ≠ mo := hne k_dX k_mo (Nat.ne_of_beq_eq_false rfl)
        have h151 : f1 dX = some (.inl (cI G, 3, .inl (nf fl))) := (hEq.k k4) _ _ k_dX (ninc n152 nin0)
        have n154 : dX ≠ dI := hneL k_dX k_dI (Nat.ne_of_beq_eq_false rfl)
        have h153 : f8 dX = some (.inl (cI G, 3, .inl (nf fl))) := by rw [ef8, va_up_ne _ _ n154]; exact h151
        have n156 : dX ≠ dO := hneL k_dX k_dO (Nat.ne_of_beq_eq_false rfl)
        have n157 : dX ≠ dU := hneL k_dX k_dU (Nat.ne_of_beq_eq_false rfl)
        have n158 : dX ≠ dJ := hneL k_dX k_dJ (Nat.ne_of_beq_eq_false rfl)
        have n159 : dX ≠ dK := hneL k_dX k_dK (Nat.ne_of_beq_eq_false rfl)
        have n160 : dX ≠ dN := hneL k_dX k_dN (Nat.ne_of_beq_eq_false rfl)
        have n161 : dX ≠ dH := hneL k_dX k_dH (Nat.ne_of_beq_eq_false rfl)
        have n162 : dX ≠ dZ := hneL k_dX k_dZ (Nat.ne_of_beq_eq_false rfl)
        have n163 : dX ≠ dT := hneL k_dX k_dT (Nat.ne_of_beq_eq_false rfl)
        have n164 : dX ≠ dR := hneL k_dX k_dR (Nat.ne_of_beq_eq_false rfl)
        have n165 : dX ≠ dL := hneL k_dX k_dL (Nat.ne_of_beq_eq_false rfl)
        have n166 : dX ≠ dS := hneL k_dX k_dS (Nat.ne_of_beq_eq_false rfl)
        have n167 : dX ≠ dQ := hneL k_dX k_dQ (Nat.ne_of_beq_eq_false rfl)
        have h155 : f59 dX = some (.inl (cI G, 3, .inl (nf fl))) := (hEq.k k64) _ _ h153 (ninc n167 (ninc n166 (ninc n165 (ninc n164 (ninc n163 (ninc n162 (ninc n154 (ninc n161 (ninc n160 (ninc n159 (ninc n158 (ninc n157 (ninc n156 nin0)))))))))))))
        have n169 : dY ≠ mo := hne k_dY k_mo (Nat.ne_of_beq_eq_false rfl)
        have h168 : f1 dY = some (.inl (cI G, 3, .inl gl)) := (hEq.k k4) _ _ k_dY (ninc n169 nin0)
        have n171 : dY ≠ dI := hneL k_dY k_dI (Nat.ne_of_beq_eq_false rfl)
        have h170 : f8 dY = some (.inl (cI G, 3, .inl gl)) := by rw [ef8, va_up_ne _ _ n171]; exact h168
        have n173 : dY ≠ dO := hneL k_dY k_dO (Nat.ne_of_beq_eq_false rfl)
        have n174 : dY ≠ dU := hneL k_dY k_dU (Nat.ne_of_beq_eq_false rfl)
        have n175 : dY ≠ dJ := hneL k_dY k_dJ (Nat.ne_of_beq_eq_false rfl)
        have n176 : dY ≠ dK := hneL k_dY k_dK (Nat.ne_of_beq_eq_false rfl)
        have n177 : dY ≠ dN := hneL k_dY k_dN (Nat.ne_of_beq_eq_false rfl)
        have n178 : dY ≠ dH := hneL k_dY k_dH (Nat.ne_of_beq_eq_false rfl)
        have n179 : dY ≠ dZ := hneL k_dY k_dZ (Nat.ne_of_beq_eq_false rfl)
        have n180 : dY ≠ dT := hneL k_dY k_dT (Nat.ne_of_beq_eq_false rfl)
        have n181 : dY ≠ dR := hneL k_dY k_dR (Nat.ne_of_beq_eq_false rfl)
        have n182 : dY ≠ dL := hneL k_dY k_dL (Nat.ne_of_beq_eq_false rfl)
        have n183 : dY ≠ dS := hneL k_dY k_dS (Nat.ne_of_beq_eq_false rfl)
        have n184 : dY ≠ dQ := hneL k_dY k_dQ (Nat.ne_of_beq_eq_false rfl)
        have h172 : f59 dY = some (.inl (cI G, 3, .inl gl)) := (hEq.k k64) _ _ h170 (ninc n184 (ninc n183 (ninc n182 (ninc n181 (ninc n180 (ninc n179 (ninc n171 (ninc n178 (ninc n177 (ninc n176 (ninc n175 (ninc n174 (ninc n173 nin0)))))))))))))
        have n186 : dG ≠ mo := hne k_dG k_mo (Nat.ne_of_beq_eq_false rfl)
        have h185 : f1 dG = some (.inl (cI G, 60, .inl (nf gv))) := (hEq.k k4) _ _ k_dG (ninc n186 nin0)
        have n188 : dG ≠ dI := hneL k_dG k_dI (Nat.ne_of_beq_eq_false rfl)
        have h187 : f8 dG = some (.inl (cI G, 60, .inl (nf gv))) := by rw [ef8, va_up_ne _ _ n188]; exact h185
        have n190 : dG ≠ dO := hneL k_dG k_dO (Nat.ne_of_beq_eq_false rfl)
        have n191 : dG ≠ dU := hneL k_dG k_dU (Nat.ne_of_beq_eq_false rfl)
        have n192 : dG ≠ dJ := hneL k_dG k_dJ (Nat.ne_of_beq_eq_false rfl)
        have n193 : dG ≠ dK := hneL k_dG k_dK (Nat.ne_of_beq_eq_false rfl)
        have n194 : dG ≠ dN := hneL k_dG k_dN (Nat.ne_of_beq_eq_false rfl)
        have n195 : dG ≠ dH := hneL k_dG k_dH (Nat.ne_of_beq_eq_false rfl)
        have n196 : dG ≠ dZ := hneL k_dG k_dZ (Nat.ne_of_beq_eq_false rfl)
        have n197 : dG ≠ dT := hneL k_dG k_dT (Nat.ne_of_beq_eq_false rfl)
        have n198 : dG ≠ dR := hneL k_dG k_dR (Nat.ne_of_beq_eq_false rfl)
        have n199 : dG ≠ dL := hneL k_dG k_dL (Nat.ne_of_beq_eq_false rfl)
        have n200 : dG ≠ dS := hneL k_dG k_dS (Nat.ne_of_beq_eq_false rfl)
        have n201 : dG ≠ dQ := hneL k_dG k_dQ (Nat.ne_of_beq_eq_false rfl)
        have h189 : f59 dG = some (.inl (cI G, 60, .inl (nf gv))) := (hEq.k k64) _ _ h187 (ninc n201 (ninc n200 (ninc n199 (ninc n198 (ninc n197 (ninc n196 (ninc n188 (ninc n195 (ninc n194 (ninc n193 (ninc n192 (ninc n191 (ninc n190 nin0)))))))))))))
        exact hp_iret (v := (gK_n62 (r60 : Int32).toNatClampNeg)) B0 hw hS hr ⟨Nat.le_of_ble_eq_true rfl, Nat.le_of_ble_eq_true rfl⟩ dX5_lose_30 (⟨⟨_, rfl⟩, ⟨_, ⟨h65, hND, ⟨_, _, _, _, _, _, _, _, _, _, _, _, _, k_dQ_n62, k_dS_n62, k_dL_n62, k_dR_n62, k_dT_n62, k_dZ_n62, k_dI_n62, k_dH_n62, k_dN_n62, k_dK_n62, k_dJ_n62, k_dU_n62, k_dO_n62, hHd9_n62, (hMn.mono hMn9_n62 (by omega))⟩, h70, h82, h94, h104, h121, h138, h155, h172, h189, hSA, hB9, hfl9⟩⟩, ((show hEq [mo, dW, dA, dQ, dM, dS, dL, dR, dT, dZ, dI, dH, dN, dK, dJ, dU, dO, dF, dP, dE, dX, dY, dG] f f1 from (hEq.mono k4 (sub_cons List.mem_cons_self sub_nil))).tr ((show hEq [mo, dW, dA, dQ, dM, dS, dL, dR, dT, dZ, dI, dH, dN, dK, dJ, dU, dO, dF, dP, dE, dX, dY, dG] f1 f8 from (by rw [ef8]; exact hEq.up (List.mem_cons_of_mem _ (List.mem_cons_of_mem _ (List.mem_cons_of_mem _ (List.mem_cons_of_mem _ (List.mem_cons_of_mem _ (List.mem_cons_of_mem _ (List.mem_cons_of_mem _ (List.mem_cons_of_mem _ (List.mem_cons_of_mem _ (List.mem_cons_of_mem _ List.mem_cons_self)))))))))))).tr (show hEq [mo, dW, dA, dQ, dM, dS, dL, dR, dT, dZ, dI, dH, dN, dK, dJ, dU, dO, dF, dP, dE, dX, dY, dG] f8 f59 from (hEq.mono k64 sub13))))⟩)
    · subst ev9
      subst b9
      refine W.eq (g2 := F0 m 5 ls [.int 1]) rfl ?_
      refine lv_if_ne (tgt := 10) hx hb dX5_lose_5 (by decide) (fun _ => ?_) (fun c9 => absurd c9 (by decide))
      refine lv_aload_n hx hb dX5_lose_10 rfl (lv_at hl9 0 rfl) ?_
      refine hp_get B0 hw 5 rfl in_X5 h3 10 (by decide) qF_X5_38 rfl dX5_lose_11 ?_
      refine lv_iload_n hx hb dX5_lose_14 rfl (lv_at hl9 1 rfl) ?_
      refine lv_dup2_11 hx hb dX5_lose_15 rfl rfl ?_
      have n203 : dI ≠ mo := hne k_dI k_mo (Nat.ne_of_beq_eq_false rfl)
      have h202 : f1 dI = some (.inl (cI G, 2, .inl gI)) := (hEq.k k4) _ _ k_dI (ninc n203 nin0)
      refine hp_iald B0 hw h202 (by unfold vp_in; decide) dX5_lose_16 ?_
      refine lv_iconst (v := 1) hx hb dX5_lose_17 (by decide) ?_
      refine lv_iadd hx hb dX5_lose_18 ?_
      refine hp_iast B0 hw hS h202 (by unfold vp_in; decide) dX5_lose_19 (fun H locs f204 ef204 hw hS => ?_)
      have h205 : f204 dI = some (.inl (cI G, 2, .inl (upd gI (1 : Int32).toNatClampNeg ((gI (1 : Int32).toNatClampNeg) + 1)))) := by rw [ef204, va_up_self]
      refine lv_aload_n hx hb dX5_lose_20 rfl (lv_at hl9 0 rfl) ?_
      have h206 : f204 mo = some (.inr (5, [.int t2, .ref dW, .ref dA, .ref dQ, .ref dM, .ref dS, .ref dL, .ref dR, .ref dT, .ref dZ, .ref dI, .ref dH, .ref dN, .ref dK, .ref dJ, .ref dU, .ref dO, .int (nI n), .int (nI a), .ref dF, .ref dP, .ref dE, .ref dX, .ref dY, .int (nI x), .int (nI cg), .ref dG])) := by rw [ef204, va_up_ne _ _ (Ne.symm n203)]; exact h3
      refine hp_get B0 hw 5 rfl in_X5 h206 13 (by decide) qF_X5_47 rfl dX5_lose_21 ?_
      refine lv_aload_n hx hb dX5_lose_24 rfl (lv_at hl9 0 rfl) ?_
      refine lv_iload_n hx hb dX5_lose_25 rfl (lv_at hl9 1 rfl) ?_
      have n208 : dM ≠ mo := hne k_dM k_mo (Nat.ne_of_beq_eq_false rfl)
      have h207 : f1 dM = some (.inl (cI G, 2, .inl (mA2 mg0 mg1))) := (hEq.k k4) _ _ k_dM (ninc n208 nin0)
      have h209 : f204 dM = some (.inl (cI G, 2, .inl (mA2 mg0 mg1))) := by rw [ef204, va_up_ne _ _ nd_dM_dI]; exact h207
      have n211 : dA ≠ mo := hne k_dA k_mo (Nat.ne_of_beq_eq_false rfl)
      have h210 : f1 dA = some (.inl (cI G, 12, .inl (jn ga0 ga1))) := (hEq.k k4) _ _ k_dA (ninc n211 nin0)
      have n213 : dA ≠ dI := hneL k_dA k_dI (Nat.ne_of_beq_eq_false rfl)
      have h212 : f204 dA = some (.inl (cI G, 12, .inl (jn ga0 ga1))) := by rw [ef204, va_up_ne _ _ n213]; exact h210
      have n215 : dQ ≠ mo := hne k_dQ k_mo (Nat.ne_of_beq_eq_false rfl)
      have h214 : f1 dQ = some (.inl (cI G, 12, .inl gQ)) := (hEq.k k4) _ _ k_dQ (ninc n215 nin0)
      have n217 : dQ ≠ dI := hneL k_dQ k_dI (Nat.ne_of_beq_eq_false rfl)
      have h216 : f204 dQ = some (.inl (cI G, 12, .inl gQ)) := by rw [ef204, va_up_ne _ _ n217]; exact h214
      have n219 : dS ≠ mo := hne k_dS k_mo (Nat.ne_of_beq_eq_false rfl)
      have h218 : f1 dS = some (.inl (cI G, 2, .inl gS)) := (hEq.k k4) _ _ k_dS (ninc n219 nin0)
      have h220 : f204 dS = some (.inl (cI G, 2, .inl gS)) := by rw [ef204, va_up_ne _ _ nd_dS_dI]; exact h218
      have n222 : dL ≠ mo := hne k_dL k_mo (Nat.ne_of_beq_eq_false rfl)
      have h221 : f1 dL = some (.inl (cI G, 2, .inl gL)) := (hEq.k k4) _ _ k_dL (ninc n222 nin0)
      have h223 : f204 dL = some (.inl (cI G, 2, .inl gL)) := by rw [ef204, va_up_ne _ _ nd_dL_dI]; exact h221
      have n225 : dR ≠ mo := hne k_dR k_mo (Nat.ne_of_beq_eq_false rfl)
      have h224 : f1 dR = some (.inl (cI G, 2, .inl gR)) := (hEq.k k4) _ _ k_dR (ninc n225 nin0)
      have h226 : f204 dR = some (.inl (cI G, 2, .inl gR)) := by rw [ef204, va_up_ne _ _ nd_dR_dI]; exact h224
      have n228 : dT ≠ mo := hne k_dT k_mo (Nat.ne_of_beq_eq_false rfl)
      have h227 : f1 dT = some (.inl (cI G, 2, .inl gT)) := (hEq.k k4) _ _ k_dT (ninc n228 nin0)
      have h229 : f204 dT = some (.inl (cI G, 2, .inl gT)) := by rw [ef204, va_up_ne _ _ nd_dT_dI]; exact h227
      have n231 : dZ ≠ mo := hne k_dZ k_mo (Nat.ne_of_beq_eq_false rfl)
      have h230 : f1 dZ = some (.inl (cZ G, 2, .inl gZ)) := (hEq.k k4) _ _ k_dZ (ninc n231 nin0)
      have h232 : f204 dZ = some (.inl (cZ G, 2, .inl gZ)) := by rw [ef204, va_up_ne _ _ nd_dZ_dI]; exact h230
      have n234 : dH ≠ mo := hne k_dH k_mo (Nat.ne_of_beq_eq_false rfl)
      have h233 : f1 dH = some (.inl (cI G, 2, .inl gH)) := (hEq.k k4) _ _ k_dH (ninc n234 nin0)
      have h235 : f204 dH = some (.inl (cI G, 2, .inl gH)) := by rw [ef204, va_up_ne _ _ (Ne.symm nd_dI_dH)]; exact h233
      have n237 : dN ≠ mo := hne k_dN k_mo (Nat.ne_of_beq_eq_false rfl)
      have h236 : f1 dN = some (.inl (cI G, 2, .inl gN)) := (hEq.k k4) _ _ k_dN (ninc n237 nin0)
      have h238 : f204 dN = some (.inl (cI G, 2, .inl gN)) := by rw [ef204, va_up_ne _ _ (Ne.symm nd_dI_dN)]; exact h236
      have n240 : dK ≠ mo := hne k_dK k_mo (Nat.ne_of_beq_eq_false rfl)
      have h239 : f1 dK = some (.inl (cI G, 2048, .inl gK)) := (hEq.k k4) _ _ k_dK (ninc n240 nin0)
      have n242 : dK ≠ dI := hneL k_dK k_dI (Nat.ne_of_beq_eq_false rfl)
      have h241 : f204 dK = some (.inl (cI G, 2048, .inl gK)) := by rw [ef204, va_up_ne _ _ n242]; exact h239
      have n244 : dJ ≠ mo := hne k_dJ k_mo (Nat.ne_of_beq_eq_false rfl)
      have h243 : f1 dJ = some (.inl (cI G, 2048, .inl gJ)) := (hEq.k k4) _ _ k_dJ (ninc n244 nin0)
      have n246 : dJ ≠ dI := hneL k_dJ k_dI (Nat.ne_of_beq_eq_false rfl)
      have h245 : f204 dJ = some (.inl (cI G, 2048, .inl gJ)) := by rw [ef204, va_up_ne _ _ n246]; exact h243
      have n248 : dU ≠ mo := hne k_dU k_mo (Nat.ne_of_beq_eq_false rfl)
      have h247 : f1 dU = some (.inl (cI G, 2048, .inl gU)) := (hEq.k k4) _ _ k_dU (ninc n248 nin0)
      have n250 : dU ≠ dI := hneL k_dU k_dI (Nat.ne_of_beq_eq_false rfl)
      have h249 : f204 dU = some (.inl (cI G, 2048, .inl gU)) := by rw [ef204, va_up_ne _ _ n250]; exact h247
      have n252 : dO ≠ mo := hne k_dO k_mo (Nat.ne_of_beq_eq_false rfl)
      have h251 : f1 dO = some (.inl (cI G, 2048, .inl gO)) := (hEq.k k4) _ _ k_dO (ninc n252 nin0)
      have n254 : dO ≠ dI := hneL k_dO k_dI (Nat.ne_of_beq_eq_false rfl)
      have h253 : f204 dO = some (.inl (cI G, 2048, .inl gO)) := by rw [ef204, va_up_ne _ _ n254]; exact h251
      refine hp_V (ci := 5) (As := [.int 1]) (rest := [.ref dK]) B0 hw hS (c_W5_takes hl G f204 mo dW dA dQ dM dS dL dR dT dZ dI dH dN dK dJ dU dO dF dP dE dX dY dG t2 (nI n) (nI a) (nI x) (nI cg) h206 hND (mA2 mg0 mg1) (jn ga0 ga1) h209 h212 hSA B ⟨_, _, _, _, _, _, _, _, _, _, _, _, _, h216, h220, h223, h226, h229, h232, h205, h235, h238, h241, h245, h249, h253, hHd9, (hMn.mono hMn9 (by omega))⟩ 1 (fun g9 h9 => by have h8 := h238.symm.trans h9; cases h8; exact h5) (Or.inr rfl)) mV_X5_takes qM_X5_123 rfl h206 rfl rfl hl9.1 (Nat.le_of_ble_eq_true rfl) ⟨⟨Nat.le_of_ble_eq_true rfl, Nat.le_of_ble_eq_true rfl⟩, Nat.le_of_ble_eq_true rfl, Nat.le_of_ble_eq_true rfl⟩ dX5_lose_26 (fun E ce q9 f255 H locs hPX hw hS hce hcv hcl => ?_) (fun v f255 H locs hP hw hS => ?_)
      · exact hPX.elim
      · obtain ⟨⟨r256, ev9, h257⟩, h259, k260⟩ := hP
        have h259L := h259
        obtain ⟨gQ_n258, gS_n258, gL_n258, gR_n258, gT_n258, gZ_n258, gI_n258, gH_n258, gN_n258, gK_n258, gJ_n258, gU_n258, gO_n258, k_dQ_n258, k_dS_n258, k_dL_n258, k_dR_n258, k_dT_n258, k_dZ_n258, k_dI_n258, k_dH_n258, k_dN_n258, k_dK_n258, k_dJ_n258, k_dU_n258, k_dO_n258, hHd9_n258, hMn9_n258⟩ := id h259
        subst ev9
        refine W.eq (g2 := F0 m 29 ls [.int r256, .ref dK]) rfl ?_
        refine hp_iald B0 hw k_dK_n258 h257 dX5_lose_29 ?_
        have h261 : f255 mo = some (.inr (5, [.int t2, .ref dW, .ref dA, .ref dQ, .ref dM, .ref dS, .ref dL, .ref dR, .ref dT, .ref dZ, .ref dI, .ref dH, .ref dN, .ref dK, .ref dJ, .ref dU, .ref dO, .int (nI n), .int (nI a), .ref dF, .ref dP, .ref dE, .ref dX, .ref dY, .int (nI x), .int (nI cg), .ref dG])) := (hEq.k k260) _ _ h206 (ninc (Ne.symm n215) (ninc (Ne.symm n219) (ninc (Ne.symm n222) (ninc (Ne.symm n225) (ninc (Ne.symm n228) (ninc (Ne.symm n231) (ninc (Ne.symm n203) (ninc (Ne.symm n234) (ninc (Ne.symm n237) (ninc (Ne.symm n240) (ninc (Ne.symm n244) (ninc (Ne.symm n248) (ninc (Ne.symm n252) nin0)))))))))))))
        have n263 : dW ≠ mo := hne k_dW k_mo (Nat.ne_of_beq_eq_false rfl)
        have h262 : f1 dW = some (.inl (cI G, 12, .inl (jn gw0 gw1))) := (hEq.k k4) _ _ k_dW (ninc n263 nin0)
        have n265 : dW ≠ dI := hneL k_dW k_dI (Nat.ne_of_beq_eq_false rfl)
        have h264 : f204 dW = some (.inl (cI G, 12, .inl (jn gw0 gw1))) := by rw [ef204, va_up_ne _ _ n265]; exact h262
        have n267 : dW ≠ dO := hneL k_dW k_dO (Nat.ne_of_beq_eq_false rfl)
        have n268 : dW ≠ dU := hneL k_dW k_dU (Nat.ne_of_beq_eq_false rfl)
        have n269 : dW ≠ dJ := hneL k_dW k_dJ (Nat.ne_of_beq_eq_false rfl)
        have n270 : dW ≠ dK := hneL k_dW k_dK (Nat.ne_of_beq_eq_false rfl)
        have n271 : dW ≠ dN := hneL k_dW k_dN (Nat.ne_of_beq_eq_false rfl)
        have n272 : dW ≠ dH := hneL k_dW k_dH (Nat.ne_of_beq_eq_false rfl)
        have n273 : dW ≠ dZ := hneL k_dW k_dZ (Nat.ne_of_beq_eq_false rfl)
        have n274 : dW ≠ dT := hneL k_dW k_dT (Nat.ne_of_beq_eq_false rfl)
        have n275 : dW ≠ dR := hneL k_dW k_dR (Nat.ne_of_beq_eq_false rfl)
        have n276 : dW ≠ dL := hneL k_dW k_dL (Nat.ne_of_beq_eq_false rfl)
        have n277 : dW ≠ dS := hneL k_dW k_dS (Nat.ne_of_beq_eq_false rfl)
        have h266 : f255 dW = some (.inl (cI G, 12, .inl (jn gw0 gw1))) := (hEq.k k260) _ _ h264 (ninc nd_dW_dQ (ninc n277 (ninc n276 (ninc n275 (ninc n274 (ninc n273 (ninc n265 (ninc n272 (ninc n271 (ninc n270 (ninc n269 (ninc n268 (ninc n267 nin0)))))))))))))
        have n279 : dA ≠ dO := hneL k_dA k_dO (Nat.ne_of_beq_eq_false rfl)
        have n280 : dA ≠ dU := hneL k_dA k_dU (Nat.ne_of_beq_eq_false rfl)
        have n281 : dA ≠ dJ := hneL k_dA k_dJ (Nat.ne_of_beq_eq_false rfl)
        have n282 : dA ≠ dK := hneL k_dA k_dK (Nat.ne_of_beq_eq_false rfl)
        have n283 : dA ≠ dN := hneL k_dA k_dN (Nat.ne_of_beq_eq_false rfl)
        have n284 : dA ≠ dH := hneL k_dA k_dH (Nat.ne_of_beq_eq_false rfl)
        have n285 : dA ≠ dZ := hneL k_dA k_dZ (Nat.ne_of_beq_eq_false rfl)
        have n286 : dA ≠ dT := hneL k_dA k_dT (Nat.ne_of_beq_eq_false rfl)
        have n287 : dA ≠ dR := hneL k_dA k_dR (Nat.ne_of_beq_eq_false rfl)
        have n288 : dA ≠ dL := hneL k_dA k_dL (Nat.ne_of_beq_eq_false rfl)
        have n289 : dA ≠ dS := hneL k_dA k_dS (Nat.ne_of_beq_eq_false rfl)
        have h278 : f255 dA = some (.inl (cI G, 12, .inl (jn ga0 ga1))) := (hEq.k k260) _ _ h212 (ninc nd_dA_dQ (ninc n289 (ninc n288 (ninc n287 (ninc n286 (ninc n285 (ninc n213 (ninc n284 (ninc n283 (ninc n282 (ninc n281 (ninc n280 (ninc n279 nin0)))))))))))))
        have n291 : dM ≠ dO := hneL k_dM k_dO (Nat.ne_of_beq_eq_false rfl)
        have n292 : dM ≠ dU := hneL k_dM k_dU (Nat.ne_of_beq_eq_false rfl)
        have n293 : dM ≠ dJ := hneL k_dM k_dJ (Nat.ne_of_beq_eq_false rfl)
        have n294 : dM ≠ dK := hneL k_dM k_dK (Nat.ne_of_beq_eq_false rfl)
        have n295 : dM ≠ dQ := hneL k_dM k_dQ (Nat.ne_of_beq_eq_false rfl)
        have h290 : f255 dM = some (.inl (cI G, 2, .inl (mA2 mg0 mg1))) := (hEq.k k260) _ _ h209 (ninc n295 (ninc nd_dM_dS (ninc nd_dM_dL (ninc nd_dM_dR (ninc nd_dM_dT (ninc nd_dM_dZ (ninc nd_dM_dI (ninc nd_dM_dH (ninc nd_dM_dN (ninc n294 (ninc n293 (ninc n292 (ninc n291 nin0)))))))))))))
        have n297 : dF ≠ mo := hne k_dF k_mo (Nat.ne_of_beq_eq_false rfl)
        have h296 : f1 dF = some (.inl (cI G, 61, .inl (nf sa))) := (hEq.k k4) _ _ k_dF (ninc n297 nin0)
        have n299 : dF ≠ dI := hneL k_dF k_dI (Nat.ne_of_beq_eq_false rfl)
        have h298 : f204 dF = some (.inl (cI G, 61, .inl (nf sa))) := by rw [ef204, va_up_ne _ _ n299]; exact h296
        have n301 : dF ≠ dO := hneL k_dF k_dO (Nat.ne_of_beq_eq_false rfl)
        have n302 : dF ≠ dU := hneL k_dF k_dU (Nat.ne_of_beq_eq_false rfl)
        have n303 : dF ≠ dJ := hneL k_dF k_dJ (Nat.ne_of_beq_eq_false rfl)
        have n304 : dF ≠ dK := hneL k_dF k_dK (Nat.ne_of_beq_eq_false rfl)
        have n305 : dF ≠ dN := hneL k_dF k_dN (Nat.ne_of_beq_eq_false rfl)
        have n306 : dF ≠ dH := hneL k_dF k_dH (Nat.ne_of_beq_eq_false rfl)
        have n307 : dF ≠ dZ := hneL k_dF k_dZ (Nat.ne_of_beq_eq_false rfl)
        have n308 : dF ≠ dT := hneL k_dF k_dT (Nat.ne_of_beq_eq_false rfl)
        have n309 : dF ≠ dR := hneL k_dF k_dR (Nat.ne_of_beq_eq_false rfl)
        have n310 : dF ≠ dL := hneL k_dF k_dL (Nat.ne_of_beq_eq_false rfl)
        have n311 : dF ≠ dS := hneL k_dF k_dS (Nat.ne_of_beq_eq_false rfl)
        have n312 : dF ≠ dQ := hneL k_dF k_dQ (Nat.ne_of_beq_eq_false rfl)
        have h300 : f255 dF = some (.inl (cI G, 61, .inl (nf sa))) := (hEq.k k260) _ _ h298 (ninc n312 (ninc n311 (ninc n310 (ninc n309 (ninc n308 (ninc n307 (ninc n299 (ninc n306 (ninc n305 (ninc n304 (ninc n303 (ninc n302 (ninc n301 nin0)))))))))))))
        have n314 : dP ≠ mo := hne k_dP k_mo (Nat.ne_of_beq_eq_false rfl)
        have h313 : f1 dP = some (.inl (cI G, 240, .inl (nf pk))) := (hEq.k k4) _ _ k_dP (ninc n314 nin0)
        have n316 : dP ≠ dI := hneL k_dP k_dI (Nat.ne_of_beq_eq_false rfl)
        have h315 : f204 dP = some (.inl (cI G, 240, .inl (nf pk))) := by rw [ef204, va_up_ne _ _ n316]; exact h313
        have n318 : dP ≠ dO := hneL k_dP k_dO (Nat.ne_of_beq_eq_false rfl)
        have n319 : dP ≠ dU := hneL k_dP k_dU (Nat.ne_of_beq_eq_false rfl)
        have n320 : dP ≠ dJ := hneL k_dP k_dJ (Nat.ne_of_beq_eq_false rfl)
        have n321 : dP ≠ dK := hneL k_dP k_dK (Nat.ne_of_beq_eq_false rfl)
        have n322 : dP ≠ dN := hneL k_dP k_dN (Nat.ne_of_beq_eq_false rfl)
        have n323 : dP ≠ dH := hneL k_dP k_dH (Nat.ne_of_beq_eq_false rfl)
        have n324 : dP ≠ dZ := hneL k_dP k_dZ (Nat.ne_of_beq_eq_false rfl)
        have n325 : dP ≠ dT := hneL k_dP k_dT (Nat.ne_of_beq_eq_false rfl)
        have n326 : dP ≠ dR := hneL k_dP k_dR (Nat.ne_of_beq_eq_false rfl)
        have n327 : dP ≠ dL := hneL k_dP k_dL (Nat.ne_of_beq_eq_false rfl)
        have n328 : dP ≠ dS := hneL k_dP k_dS (Nat.ne_of_beq_eq_false rfl)
        have n329 : dP ≠ dQ := hneL k_dP k_dQ (Nat.ne_of_beq_eq_false rfl)
        have h317 : f255 dP = some (.inl (cI G, 240, .inl (nf pk))) := (hEq.k k260) _ _ h315 (ninc n329 (ninc n328 (ninc n327 (ninc n326 (ninc n325 (ninc n324 (ninc n316 (ninc n323 (ninc n322 (ninc n321 (ninc n320 (ninc n319 (ninc n318 nin0)))))))))))))
        have n331 : dE ≠ mo := hne k_dE k_mo (Nat.ne_of_beq_eq_false rfl)
        have h330 : f1 dE = some (.inl (cZ G, 240, .inl gh)) := (hEq.k k4) _ _ k_dE (ninc n331 nin0)
        have n333 : dE ≠ dI := hneL k_dE k_dI (Nat.ne_of_beq_eq_false rfl)
        have h332 : f204 dE = some (.inl (cZ G, 240, .inl gh)) := by rw [ef204, va_up_ne _ _ n333]; exact h330
        have n335 : dE ≠ dO := hneL k_dE k_dO (Nat.ne_of_beq_eq_false rfl)
        have n336 : dE ≠ dU := hneL k_dE k_dU (Nat.ne_of_beq_eq_false rfl)
        have n337 : dE ≠ dJ := hneL k_dE k_dJ (Nat.ne_of_beq_eq_false rfl)
        have n338 : dE ≠ dK := hneL k_dE k_dK (Nat.ne_of_beq_eq_false rfl)
        have n339 : dE ≠ dN := hneL k_dE k_dN (Nat.ne_of_beq_eq_false rfl)
        have n340 : dE ≠ dH := hneL k_dE k_dH (Nat.ne_of_beq_eq_false rfl)
        have n341 : dE ≠ dZ := hneL k_dE k_dZ (Nat.ne_of_beq_eq_false rfl)
        have n342 : dE ≠ dT := hneL k_dE k_dT (Nat.ne_of_beq_eq_false rfl)
        have n343 : dE ≠ dR := hneL k_dE k_dR (Nat.ne_of_beq_eq_false rfl)
        have n344 : dE ≠ dL := hneL k_dE k_dL (Nat.ne_of_beq_eq_false rfl)
        have n345 : dE ≠ dS := hneL k_dE k_dS (Nat.ne_of_beq_eq_false rfl)
        have n346 : dE ≠ dQ := hneL k_dE k_dQ (Nat.ne_of_beq_eq_false rfl)
        have h334 : f255 dE = some (.inl (cZ G, 240, .inl gh)) := (hEq.k k260) _ _ h332 (ninc n346 (ninc n345 (ninc n344 (ninc n343 (ninc n342 (ninc n341 (ninc n333 (ninc n340 (ninc n339 (ninc n338 (ninc n337 (ninc n336 (ninc n335 nin0)))))))))))))
        have n348 : dX ≠ mo := hne k_dX k_mo (Nat.ne_of_beq_eq_false rfl)
        have h347 : f1 dX = some (.inl (cI G, 3, .inl (nf fl))) := (hEq.k k4) _ _ k_dX (ninc n348 nin0)
        have n350 : dX ≠ dI := hneL k_dX k_dI (Nat.ne_of_beq_eq_false rfl)
        have h349 : f204 dX = some (.inl (cI G, 3, .inl (nf fl))) := by rw [ef204, va_up_ne _ _ n350]; exact h347
        have n352 : dX ≠ dO := hneL k_dX k_dO (Nat.ne_of_beq_eq_false rfl)
        have n353 : dX ≠ dU := hneL k_dX k_dU (Nat.ne_of_beq_eq_false rfl)
        have n354 : dX ≠ dJ := hneL k_dX k_dJ (Nat.ne_of_beq_eq_false rfl)
        have n355 : dX ≠ dK := hneL k_dX k_dK (Nat.ne_of_beq_eq_false rfl)
        have n356 : dX ≠ dN := hneL k_dX k_dN (Nat.ne_of_beq_eq_false rfl)
        have n357 : dX ≠ dH := hneL k_dX k_dH (Nat.ne_of_beq_eq_false rfl)
        have n358 : dX ≠ dZ := hneL k_dX k_dZ (Nat.ne_of_beq_eq_false rfl)
        have n359 : dX ≠ dT := hneL k_dX k_dT (Nat.ne_of_beq_eq_false rfl)
        have n360 : dX ≠ dR := hneL k_dX k_dR (Nat.ne_of_beq_eq_false rfl)
        have n361 : dX ≠ dL := hneL k_dX k_dL (Nat.ne_of_beq_eq_false rfl)
        have n362 : dX ≠ dS := hneL k_dX k_dS (Nat.ne_of_beq_eq_false rfl)
        have n363 : dX ≠ dQ := hneL k_dX k_dQ (Nat.ne_of_beq_eq_false rfl)
        have h351 : f255 dX = some (.inl (cI G, 3, .inl (nf fl))) := (hEq.k k260) _ _ h349 (ninc n363 (ninc n362 (ninc n361 (ninc n360 (ninc n359 (ninc n358 (ninc n350 (ninc n357 (ninc n356 (ninc n355 (ninc n354 (ninc n353 (ninc n352 nin0)))))))))))))
        have n365 : dY ≠ mo := hne k_dY k_mo (Nat.ne_of_beq_eq_false rfl)
        have h364 : f1 dY = some (.inl (cI G, 3, .inl gl)) := (hEq.k k4) _ _ k_dY (ninc n365 nin0)
        have n367 : dY ≠ dI := hneL k_dY k_dI (Nat.ne_of_beq_eq_false rfl)
        have h366 : f204 dY = some (.inl (cI G, 3, .inl gl)) := by rw [ef204, va_up_ne _ _ n367]; exact h364
        have n369 : dY ≠ dO := hneL k_dY k_dO (Nat.ne_of_beq_eq_false rfl)
        have n370 : dY ≠ dU := hneL k_dY k_dU (Nat.ne_of_beq_eq_false rfl)
        have n371 : dY ≠ dJ := hneL k_dY k_dJ (Nat.ne_of_beq_eq_false rfl)
        have n372 : dY ≠ dK := hneL k_dY k_dK (Nat.ne_of_beq_eq_false rfl)
        have n373 : dY ≠ dN := hneL k_dY k_dN (Nat.ne_of_beq_eq_false rfl)
        have n374 : dY ≠ dH := hneL k_dY k_dH (Nat.ne_of_beq_eq_false rfl)
        have n375 : dY ≠ dZ := hneL k_dY k_dZ (Nat.ne_of_beq_eq_false rfl)
        have n376 : dY ≠ dT := hneL k_dY k_dT (Nat.ne_of_beq_eq_false rfl)
        have n377 : dY ≠ dR := hneL k_dY k_dR (Nat.ne_of_beq_eq_false rfl)
        have n378 : dY ≠ dL := hneL k_dY k_dL (Nat.ne_of_beq_eq_false rfl)
        have n379 : dY ≠ dS := hneL k_dY k_dS (Nat.ne_of_beq_eq_false rfl)
        have n380 : dY ≠ dQ := hneL k_dY k_dQ (Nat.ne_of_beq_eq_false rfl)
        have h368 : f255 dY = some (.inl (cI G, 3, .inl gl)) := (hEq.k k260) _ _ h366 (ninc n380 (ninc n379 (ninc n378 (ninc n377 (ninc n376 (ninc n375 (ninc n367 (ninc n374 (ninc n373 (ninc n372 (ninc n371 (ninc n370 (ninc n369 nin0)))))))))))))
        have n382 : dG ≠ mo := hne k_dG k_mo (Nat.ne_of_beq_eq_false rfl)
        have h381 : f1 dG = some (.inl (cI G, 60, .inl (nf gv))) := (hEq.k k4) _ _ k_dG (ninc n382 nin0)
        have n384 : dG ≠ dI := hneL k_dG k_dI (Nat.ne_of_beq_eq_false rfl)
        have h383 : f204 dG = some (.inl (cI G, 60, .inl (nf gv))) := by rw [ef204, va_up_ne _ _ n384]; exact h381
        have n386 : dG ≠ dO := hneL k_dG k_dO (Nat.ne_of_beq_eq_false rfl)
        have n387 : dG ≠ dU := hneL k_dG k_dU (Nat.ne_of_beq_eq_false rfl)
        have n388 : dG ≠ dJ := hneL k_dG k_dJ (Nat.ne_of_beq_eq_false rfl)
        have n389 : dG ≠ dK := hneL k_dG k_dK (Nat.ne_of_beq_eq_false rfl)
        have n390 : dG ≠ dN := hneL k_dG k_dN (Nat.ne_of_beq_eq_false rfl)
        have n391 : dG ≠ dH := hneL k_dG k_dH (Nat.ne_of_beq_eq_false rfl)
        have n392 : dG ≠ dZ := hneL k_dG k_dZ (Nat.ne_of_beq_eq_false rfl)
        have n393 : dG ≠ dT := hneL k_dG k_dT (Nat.ne_of_beq_eq_false rfl)
        have n394 : dG ≠ dR := hneL k_dG k_dR (Nat.ne_of_beq_eq_false rfl)
        have n395 : dG ≠ dL := hneL k_dG k_dL (Nat.ne_of_beq_eq_false rfl)
        have n396 : dG ≠ dS := hneL k_dG k_dS (Nat.ne_of_beq_eq_false rfl)
        have n397 : dG ≠ dQ := hneL k_dG k_dQ (Nat.ne_of_beq_eq_false rfl)
        have h385 : f255 dG = some (.inl (cI G, 60, .inl (nf gv))) := (hEq.k k260) _ _ h383 (ninc n397 (ninc n396 (ninc n395 (ninc n394 (ninc n393 (ninc n392 (ninc n384 (ninc n391 (ninc n390 (ninc n389 (ninc n388 (ninc n387 (ninc n386 nin0)))))))))))))
        exact hp_iret (v := (gK_n258 (r256 : Int32).toNatClampNeg)) B0 hw hS hr ⟨Nat.le_of_ble_eq_true rfl, Nat.le_of_ble_eq_true rfl⟩ dX5_lose_30 (⟨⟨_, rfl⟩, ⟨_, ⟨h261, hND, ⟨_, _, _, _, _, _, _, _, _, _, _, _, _, k_dQ_n258, k_dS_n258, k_dL_n258, k_dR_n258, k_dT_n258, k_dZ_n258, k_dI_n258, k_dH_n258, k_dN_n258, k_dK_n258, k_dJ_n258, k_dU_n258, k_dO_n258, hHd9_n258, (hMn.mono hMn9_n258 (by omega))⟩, h266, h278, h290, h300, h317, h334, h351, h368, h385, hSA, hB9, hfl9⟩⟩, ((show hEq [mo, dW, dA, dQ, dM, dS, dL, dR, dT, dZ, dI, dH, dN, dK, dJ, dU, dO, dF, dP, dE, dX, dY, dG] f f1 from (hEq.mono k4 (sub_cons List.mem_cons_self sub_nil))).tr ((show hEq [mo, dW, dA, dQ, dM, dS, dL, dR, dT, dZ, dI, dH, dN, dK, dJ, dU, dO, dF, dP, dE, dX, dY, dG] f1 f204 from (by rw [ef204]; exact hEq.up (List.mem_cons_of_mem _ (List.mem_cons_of_mem _ (List.mem_cons_of_mem _ (List.mem_cons_of_mem _ (List.mem_cons_of_mem _ (List.mem_cons_of_mem _ (List.mem_cons_of_mem _ (List.mem_cons_of_mem _ (List.mem_cons_of_mem _ (List.mem_cons_of_mem _ List.mem_cons_self)))))))))))).tr (show hEq [mo, dW, dA, dQ, dM, dS, dL, dR, dT, dZ, dI, dH, dN, dK, dJ, dU, dO, dF, dP, dE, dX, dY, dG] f204 f255 from (hEq.mono k260 sub13))))⟩)
    · subst ev9
      refine W.eq (g2 := F0 m 5 ls [.int 0]) rfl ?_
      refine lv_if_ne (tgt := 10) hx hb dX5_lose_5 (by decide) (fun c9 => absurd (by decide) c9) (fun _ => ?_)
      refine lv_iconst (v := 0) hx hb dX5_lose_8 (by decide) ?_
      have n399 : dQ ≠ mo := hne k_dQ k_mo (Nat.ne_of_beq_eq_false rfl)
      have h398 : f1 dQ = some (.inl (cI G, 12, .inl gQ)) := (hEq.k k4) _ _ k_dQ (ninc n399 nin0)
      have n401 : dS ≠ mo := hne k_dS k_mo (Nat.ne_of_beq_eq_false rfl)
      have h400 : f1 dS = some (.inl (cI G, 2, .inl gS)) := (hEq.k k4) _ _ k_dS (ninc n401 nin0)
      have n403 : dL ≠ mo := hne k_dL k_mo (Nat.ne_of_beq_eq_false rfl)
      have h402 : f1 dL = some (.inl (cI G, 2, .inl gL)) := (hEq.k k4) _ _ k_dL (ninc n403 nin0)
      have n405 : dR ≠ mo := hne k_dR k_mo (Nat.ne_of_beq_eq_false rfl)
      have h404 : f1 dR = some (.inl (cI G, 2, .inl gR)) := (hEq.k k4) _ _ k_dR (ninc n405 nin0)
      have n407 : dT ≠ mo := hne k_dT k_mo (Nat.ne_of_beq_eq_false rfl)
      have h406 : f1 dT = some (.inl (cI G, 2, .inl gT)) := (hEq.k k4) _ _ k_dT (ninc n407 nin0)
      have n409 : dZ ≠ mo := hne k_dZ k_mo (Nat.ne_of_beq_eq_false rfl)
      have h408 : f1 dZ = some (.inl (cZ G, 2, .inl gZ)) := (hEq.k k4) _ _ k_dZ (ninc n409 nin0)
      have n411 : dI ≠ mo := hne k_dI k_mo (Nat.ne_of_beq_eq_false rfl)
      have h410 : f1 dI = some (.inl (cI G, 2, .inl gI)) := (hEq.k k4) _ _ k_dI (ninc n411 nin0)
      have n413 : dH ≠ mo := hne k_dH k_mo (Nat.ne_of_beq_eq_false rfl)
      have h412 : f1 dH = some (.inl (cI G, 2, .inl gH)) := (hEq.k k4) _ _ k_dH (ninc n413 nin0)
      have n415 : dN ≠ mo := hne k_dN k_mo (Nat.ne_of_beq_eq_false rfl)
      have h414 : f1 dN = some (.inl (cI G, 2, .inl gN)) := (hEq.k k4) _ _ k_dN (ninc n415 nin0)
      have n417 : dK ≠ mo := hne k_dK k_mo (Nat.ne_of_beq_eq_false rfl)
      have h416 : f1 dK = some (.inl (cI G, 2048, .inl gK)) := (hEq.k k4) _ _ k_dK (ninc n417 nin0)
      have n419 : dJ ≠ mo := hne k_dJ k_mo (Nat.ne_of_beq_eq_false rfl)
      have h418 : f1 dJ = some (.inl (cI G, 2048, .inl gJ)) := (hEq.k k4) _ _ k_dJ (ninc n419 nin0)
      have n421 : dU ≠ mo := hne k_dU k_mo (Nat.ne_of_beq_eq_false rfl)
      have h420 : f1 dU = some (.inl (cI G, 2048, .inl gU)) := (hEq.k k4) _ _ k_dU (ninc n421 nin0)
      have n423 : dO ≠ mo := hne k_dO k_mo (Nat.ne_of_beq_eq_false rfl)
      have h422 : f1 dO = some (.inl (cI G, 2048, .inl gO)) := (hEq.k k4) _ _ k_dO (ninc n423 nin0)
      have n425 : dW ≠ mo := hne k_dW k_mo (Nat.ne_of_beq_eq_false rfl)
      have h424 : f1 dW = some (.inl (cI G, 12, .inl (jn gw0 gw1))) := (hEq.k k4) _ _ k_dW (ninc n425 nin0)
      have n427 : dA ≠ mo := hne k_dA k_mo (Nat.ne_of_beq_eq_false rfl)
      have h426 : f1 dA = some (.inl (cI G, 12, .inl (jn ga0 ga1))) := (hEq.k k4) _ _ k_dA (ninc n427 nin0)
      have n429 : dM ≠ mo := hne k_dM k_mo (Nat.ne_of_beq_eq_false rfl)
      have h428 : f1 dM = some (.inl (cI G, 2, .inl (mA2 mg0 mg1))) := (hEq.k k4) _ _ k_dM (ninc n429 nin0)
      have n431 : dF ≠ mo := hne k_dF k_mo (Nat.ne_of_beq_eq_false rfl)
      have h430 : f1 dF = some (.inl (cI G, 61, .inl (nf sa))) := (hEq.k k4) _ _ k_dF (ninc n431 nin0)
      have n433 : dP ≠ mo := hne k_dP k_mo (Nat.ne_of_beq_eq_false rfl)
      have h432 : f1 dP = some (.inl (cI G, 240, .inl (nf pk))) := (hEq.k k4) _ _ k_dP (ninc n433 nin0)
      have n435 : dE ≠ mo := hne k_dE k_mo (Nat.ne_of_beq_eq_false rfl)
      have h434 : f1 dE = some (.inl (cZ G, 240, .inl gh)) := (hEq.k k4) _ _ k_dE (ninc n435 nin0)
      have n437 : dX ≠ mo := hne k_dX k_mo (Nat.ne_of_beq_eq_false rfl)
      have h436 : f1 dX = some (.inl (cI G, 3, .inl (nf fl))) := (hEq.k k4) _ _ k_dX (ninc n437 nin0)
      have n439 : dY ≠ mo := hne k_dY k_mo (Nat.ne_of_beq_eq_false rfl)
      have h438 : f1 dY = some (.inl (cI G, 3, .inl gl)) := (hEq.k k4) _ _ k_dY (ninc n439 nin0)
      have n441 : dG ≠ mo := hne k_dG k_mo (Nat.ne_of_beq_eq_false rfl)
      have h440 : f1 dG = some (.inl (cI G, 60, .inl (nf gv))) := (hEq.k k4) _ _ k_dG (ninc n441 nin0)
      exact hp_iret (v := 0) B0 hw hS hr ⟨Nat.le_of_ble_eq_true rfl, Nat.le_of_ble_eq_true rfl⟩ dX5_lose_9 (⟨⟨_, rfl⟩, ⟨_, ⟨h3, hND, ⟨_, _, _, _, _, _, _, _, _, _, _, _, _, h398, h400, h402, h404, h406, h408, h410, h412, h414, h416, h418, h420, h422, hHd9, (hMn.mono hMn9 (by omega))⟩, h424, h426, h428, h430, h432, h434, h436, h438, h440, hSA, hB9, hfl9⟩⟩, (show hEq [mo, dW, dA, dQ, dM, dS, dL, dR, dT, dZ, dI, dH, dN, dK, dJ, dU, dO, dF, dP, dE, dX, dY, dG] f f1 from (hEq.mono k4 (sub_cons List.mem_cons_self sub_nil)))⟩)

set_option maxHeartbeats 4000000 in
set_option maxRecDepth 100000 in
theorem c_W5_deliver {l : Launch} (hl : l.stackTraces = false) (G : hG) (f : hM) (mo dW dA dQ dM dS dL dR dT dZ dI dH dN dK dJ dU dO dF dP dE dX dY dG : Nat) (th : Int32) (B : Nat) (gw0 : Nat → Int32) (ga0 : Nat → Int32) (gw1 : Nat → Int32) (ga1 : Nat → Int32) (mg0 : Int32) (mg1 : Int32) (n : Nat) (a : Nat) (cg : Nat) (x : Nat) (sa : Nat → Nat) (pk : Nat → Nat) (fl : Nat → Nat) (gv : Nat → Nat) (gh : Nat → Int32) (gl : Nat → Int32) (hC : MW G f mo dW dA dQ dM dS dL dR dT dZ dI dH dN dK dJ dU dO dF dP dE dX dY dG th B gw0 ga0 gw1 ga1 mg0 mg1 n a cg x sa pk fl gv gh gl) (hBB : B + 100 < 100000) (i : Int32) : CT l yX5_deliver (.code yX5_deliver cX5_deliver 3 (some .int)) 5 117 0 0 G [.ref mo, .int i] f (fun v f1 => (∃ r9 : Int32, v = some (.int r9)) ∧ (∃ t9 : Int32, MW G f1 mo dW dA dQ dM dS dL dR dT dZ dI dH dN dK dJ dU dO dF dP dE dX dY dG t9 (B + 100) gw0 ga0 gw1 ga1 mg0 mg1 n a cg x sa pk fl gv gh gl) ∧ hEq [mo, dW, dA, dQ, dM, dS, dL, dR, dT, dZ, dI, dH, dN, dK, dJ, dU, dO, dF, dP, dE, dX, dY, dG] f f1) (fun E f1 => False) := by
  refine hp_start hl (own := RX5) (by decide) rfl (Nat.le_of_ble_eq_true rfl) ?_
  intro p e s m args below meth c B0 hr hnm hout hw hS ls hl9
  have hx := B0.1
  have hb := B0.2.1
  have hl9 : lv_has ls 3 [(0, .ref mo), (1, .int i)] := hl9
  obtain ⟨k_mo, hND, hLM, k_dW, k_dA, k_dM, k_dF, k_dP, k_dE, k_dX, k_dY, k_dG, hSA, hB9, hfl9⟩ := id hC
  obtain ⟨nd_dW_dA, nd_dW_dQ, nd_dA_dQ, nd_dM_dS, nd_dM_dL, nd_dM_dR, nd_dM_dT, nd_dM_dZ, nd_dM_dI, nd_dM_dH, nd_dM_dN, nd_dS_dL, nd_dS_dR, nd_dS_dT, nd_dS_dZ, nd_dS_dI, nd_dS_dH, nd_dS_dN, nd_dL_dR, nd_dL_dT, nd_dL_dZ, nd_dL_dI, nd_dL_dH, nd_dL_dN, nd_dR_dT, nd_dR_dZ, nd_dR_dI, nd_dR_dH, nd_dR_dN, nd_dT_dZ, nd_dT_dI, nd_dT_dH, nd_dT_dN, nd_dZ_dI, nd_dZ_dH, nd_dZ_dN, nd_dI_dH, nd_dI_dN, nd_dH_dN, nd_dK_dJ, nd_dK_dU, nd_dK_dO, nd_dJ_dU, nd_dJ_dO, nd_dU_dO, nd_dP_dE, nd_dX_dY⟩ := id hND
  obtain ⟨gQ, gS, gL, gR, gT, gZ, gI, gH, gN, gK, gJ, gU, gO, k_dQ, k_dS, k_dL, k_dR, k_dT, k_dZ, k_dI, k_dH, k_dN, k_dK, k_dJ, k_dU, k_dO, hHd9, hMn9⟩ := id hLM
  refine lv_aload_n hx hb dX5_deliver_0 rfl (lv_at hl9 0 rfl) ?_
  refine lv_iload_n hx hb dX5_deliver_1 rfl (lv_at hl9 1 rfl) ?_
  refine hp_V (ci := 5) (As := [.int i]) (rest := []) B0 hw hS (c_W5_asksFrame hl G f mo dW dA dQ dM dS dL dR dT dZ dI dH dN dK dJ dU dO dF dP dE dX dY dG th (nI n) (nI a) (nI x) (nI cg) k_mo gN k_dN i) mV_X5_asksFrame qM_X5_120 rfl k_mo rfl rfl hl9.1 (Nat.le_of_ble_eq_true rfl) ⟨⟨Nat.le_of_ble_eq_true rfl, Nat.le_of_ble_eq_true rfl⟩, Nat.le_of_ble_eq_true rfl, Nat.le_of_ble_eq_true rfl⟩ dX5_deliver_2 (fun E ce q9 f1 H locs hPX hw hS hce hcv hcl => ?_) (fun v f1 H locs hP hw hS => ?_)
  · exact hPX.elim
  · obtain ⟨t2, h3, hv9, k4⟩ := hP
    rcases hv9 with ⟨ev9, b9 | b9, h5⟩ | ev9
    · subst ev9
      subst b9
      refine W.eq (g2 := F0 m 5 ls [.int 1]) rfl ?_
      refine lv_if_ne (tgt := 10) hx hb dX5_deliver_5 (by decide) (fun _ => ?_) (fun c9 => absurd c9 (by decide))
      refine lv_aload_n hx hb dX5_deliver_10 rfl (lv_at hl9 0 rfl) ?_
      refine lv_iload_n hx hb dX5_deliver_11 rfl (lv_at hl9 1 rfl) ?_
      have n7 : dM ≠ mo := hne k_dM k_mo (Nat.ne_of_beq_eq_false rfl)
      have h6 : f1 dM = some (.inl (cI G, 2, .inl (mA2 mg0 mg1))) := (hEq.k k4) _ _ k_dM (ninc n7 nin0)
      have n9 : dA ≠ mo := hne k_dA k_mo (Nat.ne_of_beq_eq_false rfl)
      have h8 : f1 dA = some (.inl (cI G, 12, .inl (jn ga0 ga1))) := (hEq.k k4) _ _ k_dA (ninc n9 nin0)
      have n11 : dQ ≠ mo := hne k_dQ k_mo (Nat.ne_of_beq_eq_false rfl)
      have h10 : f1 dQ = some (.inl (cI G, 12, .inl gQ)) := (hEq.k k4) _ _ k_dQ (ninc n11 nin0)
      have n13 : dS ≠ mo := hne k_dS k_mo (Nat.ne_of_beq_eq_false rfl)
      have h12 : f1 dS = some (.inl (cI G, 2, .inl gS)) := (hEq.k k4) _ _ k_dS (ninc n13 nin0)
      have n15 : dL ≠ mo := hne k_dL k_mo (Nat.ne_of_beq_eq_false rfl)
      have h14 : f1 dL = some (.inl (cI G, 2, .inl gL)) := (hEq.k k4) _ _ k_dL (ninc n15 nin0)
      have n17 : dR ≠ mo := hne k_dR k_mo (Nat.ne_of_beq_eq_false rfl)
      have h16 : f1 dR = some (.inl (cI G, 2, .inl gR)) := (hEq.k k4) _ _ k_dR (ninc n17 nin0)
      have n19 : dT ≠ mo := hne k_dT k_mo (Nat.ne_of_beq_eq_false rfl)
      have h18 : f1 dT = some (.inl (cI G, 2, .inl gT)) := (hEq.k k4) _ _ k_dT (ninc n19 nin0)
      have n21 : dZ ≠ mo := hne k_dZ k_mo (Nat.ne_of_beq_eq_false rfl)
      have h20 : f1 dZ = some (.inl (cZ G, 2, .inl gZ)) := (hEq.k k4) _ _ k_dZ (ninc n21 nin0)
      have n23 : dI ≠ mo := hne k_dI k_mo (Nat.ne_of_beq_eq_false rfl)
      have h22 : f1 dI = some (.inl (cI G, 2, .inl gI)) := (hEq.k k4) _ _ k_dI (ninc n23 nin0)
      have n25 : dH ≠ mo := hne k_dH k_mo (Nat.ne_of_beq_eq_false rfl)
      have h24 : f1 dH = some (.inl (cI G, 2, .inl gH)) := (hEq.k k4) _ _ k_dH (ninc n25 nin0)
      have n27 : dN ≠ mo := hne k_dN k_mo (Nat.ne_of_beq_eq_false rfl)
      have h26 : f1 dN = some (.inl (cI G, 2, .inl gN)) := (hEq.k k4) _ _ k_dN (ninc n27 nin0)
      have n29 : dK ≠ mo := hne k_dK k_mo (Nat.ne_of_beq_eq_false rfl)
      have h28 : f1 dK = some (.inl (cI G, 2048, .inl gK)) := (hEq.k k4) _ _ k_dK (ninc n29 nin0)
      have n31 : dJ ≠ mo := hne k_dJ k_mo (Nat.ne_of_beq_eq_false rfl)
      have h30 : f1 dJ = some (.inl (cI G, 2048, .inl gJ)) := (hEq.k k4) _ _ k_dJ (ninc n31 nin0)
      have n33 : dU ≠ mo := hne k_dU k_mo (Nat.ne_of_beq_eq_false rfl)
      have h32 : f1 dU = some (.inl (cI G, 2048, .inl gU)) := (hEq.k k4) _ _ k_dU (ninc n33 nin0)
      have n35 : dO ≠ mo := hne k_dO k_mo (Nat.ne_of_beq_eq_false rfl)
      have h34 : f1 dO = some (.inl (cI G, 2048, .inl gO)) := (hEq.k k4) _ _ k_dO (ninc n35 nin0)
      refine hp_V (ci := 5) (As := [.int 0]) (rest := []) B0 hw hS (c_W5_takes hl G f1 mo dW dA dQ dM dS dL dR dT dZ dI dH dN dK dJ dU dO dF dP dE dX dY dG t2 (nI n) (nI a) (nI x) (nI cg) h3 hND (mA2 mg0 mg1) (jn ga0 ga1) h6 h8 hSA B ⟨_, _, _, _, _, _, _, _, _, _, _, _, _, h10, h12, h14, h16, h18, h20, h22, h24, h26, h28, h30, h32, h34, hHd9, (hMn.mono hMn9 (by omega))⟩ 0 (fun g9 h9 => by have h8 := h26.symm.trans h9; cases h8; exact h5) (Or.inl rfl)) mV_X5_takes qM_X5_123 rfl h3 rfl rfl hl9.1 (Nat.le_of_ble_eq_true rfl) ⟨⟨Nat.le_of_ble_eq_true rfl, Nat.le_of_ble_eq_true rfl⟩, Nat.le_of_ble_eq_true rfl, Nat.le_of_ble_eq_true rfl⟩ dX5_deliver_12 (fun E ce q9 f36 H locs hPX hw hS hce hcv hcl => ?_) (fun v f36 H locs hP hw hS => ?_)
      · exact hPX.elim
      · obtain ⟨⟨r37, ev9, h38⟩, h40, k41⟩ := hP
        have h40L := h40
        obtain ⟨gQ_n39, gS_n39, gL_n39, gR_n39, gT_n39, gZ_n39, gI_n39, gH_n39, gN_n39, gK_n39, gJ_n39, gU_n39, gO_n39, k_dQ_n39, k_dS_n39, k_dL_n39, k_dR_n39, k_dT_n39, k_dZ_n39, k_dI_n39, k_dH_n39, k_dN_n39, k_dK_n39, k_dJ_n39, k_dU_n39, k_dO_n39, hHd9_n39, hMn9_n39⟩ := id h40
        subst ev9
        refine W.eq (g2 := F0 m 15 ls [.int r37]) rfl ?_
        refine lv_istore_n (lv' := [(2, .int r37), (0, .ref mo), (1, .int 0)]) hx hb dX5_deliver_15 rfl hl9 (by decide) rfl (fun ls hl9 => ?_)
        refine lv_aload_n hx hb dX5_deliver_16 rfl (lv_at hl9 1 rfl) ?_
        refine lv_iconst (v := 1) hx hb dX5_deliver_17 (by decide) ?_
        refine lv_iload_n hx hb dX5_deliver_18 rfl (lv_at hl9 2 rfl) ?_
        refine lv_isub hx hb dX5_deliver_19 ?_
        refine hp_c (v := 1) (by decide) ?_
        refine lv_iload_n hx hb dX5_deliver_20 rfl (lv_at hl9 0 rfl) ?_
        have h42 : f36 mo = some (.inr (5, [.int t2, .ref dW, .ref dA, .ref dQ, .ref dM, .ref dS, .ref dL, .ref dR, .ref dT, .ref dZ, .ref dI, .ref dH, .ref dN, .ref dK, .ref dJ, .ref dU, .ref dO, .int (nI n), .int (nI a), .ref dF, .ref dP, .ref dE, .ref dX, .ref dY, .int (nI x), .int (nI cg), .ref dG])) := (hEq.k k41) _ _ h3 (ninc (Ne.symm n11) (ninc (Ne.symm n13) (ninc (Ne.symm n15) (ninc (Ne.symm n17) (ninc (Ne.symm n19) (ninc (Ne.symm n21) (ninc (Ne.symm n23) (ninc (Ne.symm n25) (ninc (Ne.symm n27) (ninc (Ne.symm n29) (ninc (Ne.symm n31) (ninc (Ne.symm n33) (ninc (Ne.symm n35) nin0)))))))))))))
        have n44 : dM ≠ dO := hneL k_dM k_dO (Nat.ne_of_beq_eq_false rfl)
        have n45 : dM ≠ dU := hneL k_dM k_dU (Nat.ne_of_beq_eq_false rfl)
        have n46 : dM ≠ dJ := hneL k_dM k_dJ (Nat.ne_of_beq_eq_false rfl)
        have n47 : dM ≠ dK := hneL k_dM k_dK (Nat.ne_of_beq_eq_false rfl)
        have n48 : dM ≠ dQ := hneL k_dM k_dQ (Nat.ne_of_beq_eq_false rfl)
        have h43 : f36 dM = some (.inl (cI G, 2, .inl (mA2 mg0 mg1))) := (hEq.k k41) _ _ h6 (ninc n48 (ninc nd_dM_dS (ninc nd_dM_dL (ninc nd_dM_dR (ninc nd_dM_dT (ninc nd_dM_dZ (ninc nd_dM_dI (ninc nd_dM_dH (ninc nd_dM_dN (ninc n47 (ninc n46 (ninc n45 (ninc n44 nin0)))))))))))))
        have n50 : dA ≠ dO := hneL k_dA k_dO (Nat.ne_of_beq_eq_false rfl)
        have n51 : dA ≠ dU := hneL k_dA k_dU (Nat.ne_of_beq_eq_false rfl)
        have n52 : dA ≠ dJ := hneL k_dA k_dJ (Nat.ne_of_beq_eq_false rfl)
        have n53 : dA ≠ dK := hneL k_dA k_dK (Nat.ne_of_beq_eq_false rfl)
        have n54 : dA ≠ dN := hneL k_dA k_dN (Nat.ne_of_beq_eq_false rfl)
        have n55 : dA ≠ dH := hneL k_dA k_dH (Nat.ne_of_beq_eq_false rfl)
        have n56 : dA ≠ dI := hneL k_dA k_dI (Nat.ne_of_beq_eq_false rfl)
        have n57 : dA ≠ dZ := hneL k_dA k_dZ (Nat.ne_of_beq_eq_false rfl)
        have n58 : dA ≠ dT := hneL k_dA k_dT (Nat.ne_of_beq_eq_false rfl)
        have n59 : dA ≠ dR := hneL k_dA k_dR (Nat.ne_of_beq_eq_false rfl)
        have n60 : dA ≠ dL := hneL k_dA k_dL (Nat.ne_of_beq_eq_false rfl)
        have n61 : dA ≠ dS := hneL k_dA k_dS (Nat.ne_of_beq_eq_false rfl)
        have h49 : f36 dA = some (.inl (cI G, 12, .inl (jn ga0 ga1))) := (hEq.k k41) _ _ h8 (ninc nd_dA_dQ (ninc n61 (ninc n60 (ninc n59 (ninc n58 (ninc n57 (ninc n56 (ninc n55 (ninc n54 (ninc n53 (ninc n52 (ninc n51 (ninc n50 nin0)))))))))))))
        refine hp_V (ci := 5) (As := [.int 1, .int r37]) (rest := []) B0 hw hS (c_W5_comes hl G f36 mo dW dA dQ dM dS dL dR dT dZ dI dH dN dK dJ dU dO dF dP dE dX dY dG t2 (nI n) (nI a) (nI x) (nI cg) h42 hND (mA2 mg0 mg1) (jn ga0 ga1) h43 h49 hSA (B + 0) ⟨_, _, _, _, _, _, _, _, _, _, _, _, _, k_dQ_n39, k_dS_n39, k_dL_n39, k_dR_n39, k_dT_n39, k_dZ_n39, k_dI_n39, k_dH_n39, k_dN_n39, k_dK_n39, k_dJ_n39, k_dU_n39, k_dO_n39, hHd9_n39, (hMn.mono hMn9_n39 (by omega))⟩ (by omega) 1 r37 h38 (Or.inr rfl)) mV_X5_comes qM_X5_126 rfl h42 rfl rfl hl9.1 (Nat.le_of_ble_eq_true rfl) ⟨⟨Nat.le_of_ble_eq_true rfl, Nat.le_of_ble_eq_true rfl⟩, Nat.le_of_ble_eq_true rfl, Nat.le_of_ble_eq_true rfl⟩ dX5_deliver_21 (fun E ce q9 f62 H locs hPX hw hS hce hcv hcl => ?_) (fun v f62 H locs hP hw hS => ?_)
        · exact hPX.elim
        · obtain ⟨ev9, h64, k65⟩ := hP
          have h64L := h64
          obtain ⟨gQ_n63, gS_n63, gL_n63, gR_n63, gT_n63, gZ_n63, gI_n63, gH_n63, gN_n63, gK_n63, gJ_n63, gU_n63, gO_n63, k_dQ_n63, k_dS_n63, k_dL_n63, k_dR_n63, k_dT_n63, k_dZ_n63, k_dI_n63, k_dH_n63, k_dN_n63, k_dK_n63, k_dJ_n63, k_dU_n63, k_dO_n63, hHd9_n63, hMn9_n63⟩ := id h64
          subst ev9
          refine W.eq (g2 := F0 m 24 ls []) rfl ?_
          refine lv_aload_n hx hb dX5_deliver_24 rfl (lv_at hl9 1 rfl) ?_
          have h66 : f62 mo = some (.inr (5, [.int t2, .ref dW, .ref dA, .ref dQ, .ref dM, .ref dS, .ref dL, .ref dR, .ref dT, .ref dZ, .ref dI, .ref dH, .ref dN, .ref dK, .ref dJ, .ref dU, .ref dO, .int (nI n), .int (nI a), .ref dF, .ref dP, .ref dE, .ref dX, .ref dY, .int (nI x), .int (nI cg), .ref dG])) := (hEq.k k65) _ _ h42 (ninc (Ne.symm n11) (ninc (Ne.symm n13) (ninc (Ne.symm n15) (ninc (Ne.symm n17) (ninc (Ne.symm n19) (ninc (Ne.symm n21) (ninc (Ne.symm n23) (ninc (Ne.symm n25) (ninc (Ne.symm n27) (ninc (Ne.symm n29) (ninc (Ne.symm n31) (ninc (Ne.symm n33) (ninc (Ne.symm n35) nin0)))))))))))))
          refine hp_get B0 hw 5 rfl in_X5 h66 13 (by decide) qF_X5_47 rfl dX5_deliver_25 ?_
          refine lv_iload_n hx hb dX5_deliver_28 rfl (lv_at hl9 0 rfl) ?_
          refine hp_iald B0 hw k_dK_n63 h38 dX5_deliver_29 ?_
          have n68 : dW ≠ mo := hne k_dW k_mo (Nat.ne_of_beq_eq_false rfl)
          have h67 : f1 dW = some (.inl (cI G, 12, .inl (jn gw0 gw1))) := (hEq.k k4) _ _ k_dW (ninc n68 nin0)
          have n70 : dW ≠ dO := hneL k_dW k_dO (Nat.ne_of_beq_eq_false rfl)
          have n71 : dW ≠ dU := hneL k_dW k_dU (Nat.ne_of_beq_eq_false rfl)
          have n72 : dW ≠ dJ := hneL k_dW k_dJ (Nat.ne_of_beq_eq_false rfl)
          have n73 : dW ≠ dK := hneL k_dW k_dK (Nat.ne_of_beq_eq_false rfl)
          have n74 : dW ≠ dN := hneL k_dW k_dN (Nat.ne_of_beq_eq_false rfl)
          have n75 : dW ≠ dH := hneL k_dW k_dH (Nat.ne_of_beq_eq_false rfl)
          have n76 : dW ≠ dI := hneL k_dW k_dI (Nat.ne_of_beq_eq_false rfl)
          have n77 : dW ≠ dZ := hneL k_dW k_dZ (Nat.ne_of_beq_eq_false rfl)
          have n78 : dW ≠ dT := hneL k_dW k_dT (Nat.ne_of_beq_eq_false rfl)
          have n79 : dW ≠ dR := hneL k_dW k_dR (Nat.ne_of_beq_eq_false rfl)
          have n80 : dW ≠ dL := hneL k_dW k_dL (Nat.ne_of_beq_eq_false rfl)
          have n81 : dW ≠ dS := hneL k_dW k_dS (Nat.ne_of_beq_eq_false rfl)
          have h69 : f36 dW = some (.inl (cI G, 12, .inl (jn gw0 gw1))) := (hEq.k k41) _ _ h67 (ninc nd_dW_dQ (ninc n81 (ninc n80 (ninc n79 (ninc n78 (ninc n77 (ninc n76 (ninc n75 (ninc n74 (ninc n73 (ninc n72 (ninc n71 (ninc n70 nin0)))))))))))))
          have h82 : f62 dW = some (.inl (cI G, 12, .inl (jn gw0 gw1))) := (hEq.k k65) _ _ h69 (ninc nd_dW_dQ (ninc n81 (ninc n80 (ninc n79 (ninc n78 (ninc n77 (ninc n76 (ninc n75 (ninc n74 (ninc n73 (ninc n72 (ninc n71 (ninc n70 nin0)))))))))))))
          have h83 : f62 dA = some (.inl (cI G, 12, .inl (jn ga0 ga1))) := (hEq.k k65) _ _ h49 (ninc nd_dA_dQ (ninc n61 (ninc n60 (ninc n59 (ninc n58 (ninc n57 (ninc n56 (ninc n55 (ninc n54 (ninc n53 (ninc n52 (ninc n51 (ninc n50 nin0)))))))))))))
          have h84 : f62 dM = some (.inl (cI G, 2, .inl (mA2 mg0 mg1))) := (hEq.k k65) _ _ h43 (ninc n48 (ninc nd_dM_dS (ninc nd_dM_dL (ninc nd_dM_dR (ninc nd_dM_dT (ninc nd_dM_dZ (ninc nd_dM_dI (ninc nd_dM_dH (ninc nd_dM_dN (ninc n47 (ninc n46 (ninc n45 (ninc n44 nin0)))))))))))))
          have n86 : dF ≠ mo := hne k_dF k_mo (Nat.ne_of_beq_eq_false rfl)
          have h85 : f1 dF = some (.inl (cI G, 61, .inl (nf sa))) := (hEq.k k4) _ _ k_dF (ninc n86 nin0)
          have n88 : dF ≠ dO := hneL k_dF k_dO (Nat.ne_of_beq_eq_false rfl)
          have n89 : dF ≠ dU := hneL k_dF k_dU (Nat.ne_of_beq_eq_false rfl)
          have n90 : dF ≠ dJ := hneL k_dF k_dJ (Nat.ne_of_beq_eq_false rfl)
          have n91 : dF ≠ dK := hneL k_dF k_dK (Nat.ne_of_beq_eq_false rfl)
          have n92 : dF ≠ dN := hneL k_dF k_dN (Nat.ne_of_beq_eq_false rfl)
          have n93 : dF ≠ dH := hneL k_dF k_dH (Nat.ne_of_beq_eq_false rfl)
          have n94 : dF ≠ dI := hneL k_dF k_dI (Nat.ne_of_beq_eq_false rfl)
          have n95 : dF ≠ dZ := hneL k_dF k_dZ (Nat.ne_of_beq_eq_false rfl)
          have n96 : dF ≠ dT := hneL k_dF k_dT (Nat.ne_of_beq_eq_false rfl)
          have n97 : dF ≠ dR := hneL k_dF k_dR (Nat.ne_of_beq_eq_false rfl)
          have n98 : dF ≠ dL := hneL k_dF k_dL (Nat.ne_of_beq_eq_false rfl)
          have n99 : dF ≠ dS := hneL k_dF k_dS (Nat.ne_of_beq_eq_false rfl)
          have n100 : dF ≠ dQ := hneL k_dF k_dQ (Nat.ne_of_beq_eq_false rfl)
          have h87 : f36 dF = some (.inl (cI G, 61, .inl (nf sa))) := (hEq.k k41) _ _ h85 (ninc n100 (ninc n99 (ninc n98 (ninc n97 (ninc n96 (ninc n95 (ninc n94 (ninc n93 (ninc n92 (ninc n91 (ninc n90 (ninc n89 (ninc n88 nin0)))))))))))))
          have h101 : f62 dF = some (.inl (cI G, 61, .inl (nf sa))) := (hEq.k k65) _ _ h87 (ninc n100 (ninc n99 (ninc n98 (ninc n97 (ninc n96 (ninc n95 (ninc n94 (ninc n93 (ninc n92 (ninc n91 (ninc n90 (ninc n89 (ninc n88 nin0)))))))))))))
          have n103 : dP ≠ mo := hne k_dP k_mo (Nat.ne_of_beq_eq_false rfl)
          have h102 : f1 dP = some (.inl (cI G, 240, .inl (nf pk))) := (hEq.k k4) _ _ k_dP (ninc n103 nin0)
          have n105 : dP ≠ dO := hneL k_dP k_dO (Nat.ne_of_beq_eq_false rfl)
          have n106 : dP ≠ dU := hneL k_dP k_dU (Nat.ne_of_beq_eq_false rfl)
          have n107 : dP ≠ dJ := hneL k_dP k_dJ (Nat.ne_of_beq_eq_false rfl)
          have n108 : dP ≠ dK := hneL k_dP k_dK (Nat.ne_of_beq_eq_false rfl)
          have n109 : dP ≠ dN := hneL k_dP k_dN (Nat.ne_of_beq_eq_false rfl)
          have n110 : dP ≠ dH := hneL k_dP k_dH (Nat.ne_of_beq_eq_false rfl)
          have n111 : dP ≠ dI := hneL k_dP k_dI (Nat.ne_of_beq_eq_false rfl)
          have n112 : dP ≠ dZ := hneL k_dP k_dZ (Nat.ne_of_beq_eq_false rfl)
          have n113 : dP ≠ dT := hneL k_dP k_dT (Nat.ne_of_beq_eq_false rfl)
          have n114 : dP ≠ dR := hneL k_dP k_dR (Nat.ne_of_beq_eq_false rfl)
          have n115 : dP ≠ dL := hneL k_dP k_dL (Nat.ne_of_beq_eq_false rfl)
          have n116 : dP ≠ dS := hneL k_dP k_dS (Nat.ne_of_beq_eq_false rfl)
          have n117 : dP ≠ dQ := hneL k_dP k_dQ (Nat.ne_of_beq_eq_false rfl)
          have h104 : f36 dP = some (.inl (cI G, 240, .inl (nf pk))) := (hEq.k k41) _ _ h102 (ninc n117 (ninc n116 (ninc n115 (ninc n114 (ninc n113 (ninc n112 (ninc n111 (ninc n110 (ninc n109 (ninc n108 (ninc n107 (ninc n106 (ninc n105 nin0)))))))))))))
          have h118 : f62 dP = some (.inl (cI G, 240, .inl (nf pk))) := (hEq.k k65) _ _ h104 (ninc n117 (ninc n116 (ninc n115 (ninc n114 (ninc n113 (ninc n112 (ninc n111 (ninc n110 (ninc n109 (ninc n108 (ninc n107 (ninc n106 (ninc n105 nin0)))))))))))))
          have n120 : dE ≠ mo := hne k_dE k_mo (Nat.ne_of_beq_eq_false rfl)
          have h119 : f1 dE = some (.inl (cZ G, 240, .inl gh)) := (hEq.k k4) _ _ k_dE (ninc n120 nin0)
          have n122 : dE ≠ dO := hneL k_dE k_dO (Nat.ne_of_beq_eq_false rfl)
          have n123 : dE ≠ dU := hneL k_dE k_dU (Nat.ne_of_beq_eq_false rfl)
          have n124 : dE ≠ dJ := hneL k_dE k_dJ (Nat.ne_of_beq_eq_false rfl)
          have n125 : dE ≠ dK := hneL k_dE k_dK (Nat.ne_of_beq_eq_false rfl)
          have n126 : dE ≠ dN := hneL k_dE k_dN (Nat.ne_of_beq_eq_false rfl)
          have n127 : dE ≠ dH := hneL k_dE k_dH (Nat.ne_of_beq_eq_false rfl)
          have n128 : dE ≠ dI := hneL k_dE k_dI (Nat.ne_of_beq_eq_false rfl)
          have n129 : dE ≠ dZ := hneL k_dE k_dZ (Nat.ne_of_beq_eq_false rfl)
          have n130 : dE ≠ dT := hneL k_dE k_dT (Nat.ne_of_beq_eq_false rfl)
          have n131 : dE ≠ dR := hneL k_dE k_dR (Nat.ne_of_beq_eq_false rfl)
          have n132 : dE ≠ dL := hneL k_dE k_dL (Nat.ne_of_beq_eq_false rfl)
          have n133 : dE ≠ dS := hneL k_dE k_dS (Nat.ne_of_beq_eq_false rfl)
          have n134 : dE ≠ dQ := hneL k_dE k_dQ (Nat.ne_of_beq_eq_false rfl)
          have h121 : f36 dE = some (.inl (cZ G, 240, .inl gh)) := (hEq.k k41) _ _ h119 (ninc n134 (ninc n133 (ninc n132 (ninc n131 (ninc n130 (ninc n129 (ninc n128 (ninc n127 (ninc n126 (ninc n125 (ninc n124 (ninc n123 (ninc n122 nin0)))))))))))))
          have h135 : f62 dE = some (.inl (cZ G, 240, .inl gh)) := (hEq.k k65) _ _ h121 (ninc n134 (ninc n133 (ninc n132 (ninc n131 (ninc n130 (ninc n129 (ninc n128 (ninc n127 (ninc n126 (ninc n125 (ninc n124 (ninc n123 (ninc n122 nin0)))))))))))))
          have n137 : dX ≠ mo := hne k_dX k_mo (Nat.ne_of_beq_eq_false rfl)
          have h136 : f1 dX = some (.inl (cI G, 3, .inl (nf fl))) := (hEq.k k4) _ _ k_dX (ninc n137 nin0)
          have n139 : dX ≠ dO := hneL k_dX k_dO (Nat.ne_of_beq_eq_false rfl)
          have n140 : dX ≠ dU := hneL k_dX k_dU (Nat.ne_of_beq_eq_false rfl)
          have n141 : dX ≠ dJ := hneL k_dX k_dJ (Nat.ne_of_beq_eq_false rfl)
          have n142 : dX ≠ dK := hneL k_dX k_dK (Nat.ne_of_beq_eq_false rfl)
          have n143 : dX ≠ dN := hneL k_dX k_dN (Nat.ne_of_beq_eq_false rfl)
          have n144 : dX ≠ dH := hneL k_dX k_dH (Nat.ne_of_beq_eq_false rfl)
          have n145 : dX ≠ dI := hneL k_dX k_dI (Nat.ne_of_beq_eq_false rfl)
          have n146 : dX ≠ dZ := hneL k_dX k_dZ (Nat.ne_of_beq_eq_false rfl)
          have n147 : dX ≠ dT := hneL k_dX k_dT (Nat.ne_of_beq_eq_false rfl)
          have n148 : dX ≠ dR := hneL k_dX k_dR (Nat.ne_of_beq_eq_false rfl)
          have n149 : dX ≠ dL := hneL k_dX k_dL (Nat.ne_of_beq_eq_false rfl)
          have n150 : dX ≠ dS := hneL k_dX k_dS (Nat.ne_of_beq_eq_false rfl)
          have n151 : dX ≠ dQ := hneL k_dX k_dQ (Nat.ne_of_beq_eq_false rfl)
          have h138 : f36 dX = some (.inl (cI G, 3, .inl (nf fl))) := (hEq.k k41) _ _ h136 (ninc n151 (ninc n150 (ninc n149 (ninc n148 (ninc n147 (ninc n146 (ninc n145 (ninc n144 (ninc n143 (ninc n142 (ninc n141 (ninc n140 (ninc n139 nin0)))))))))))))
          have h152 : f62 dX = some (.inl (cI G, 3, .inl (nf fl))) := (hEq.k k65) _ _ h138 (ninc n151 (ninc n150 (ninc n149 (ninc n148 (ninc n147 (ninc n146 (ninc n145 (ninc n144 (ninc n143 (ninc n142 (ninc n141 (ninc n140 (ninc n139 nin0)))))))))))))
          have n154 : dY ≠ mo := hne k_dY k_mo (Nat.ne_of_beq_eq_false rfl)
          have h153 : f1 dY = some (.inl (cI G, 3, .inl gl)) := (hEq.k k4) _ _ k_dY (ninc n154 nin0)
          have n156 : dY ≠ dO := hneL k_dY k_dO (Nat.ne_of_beq_eq_false rfl)
          have n157 : dY ≠ dU := hneL k_dY k_dU (Nat.ne_of_beq_eq_false rfl)
          have n158 : dY ≠ dJ := hneL k_dY k_dJ (Nat.ne_of_beq_eq_false rfl)
          have n159 : dY ≠ dK := hneL k_dY k_dK (Nat.ne_of_beq_eq_false rfl)
          have n160 : dY ≠ dN := hneL k_dY k_dN (Nat.ne_of_beq_eq_false rfl)
          have n161 : dY ≠ dH := hneL k_dY k_dH (Nat.ne_of_beq_eq_false rfl)
          have n162 : dY ≠ dI := hneL k_dY k_dI (Nat.ne_of_beq_eq_false rfl)
          have n163 : dY ≠ dZ := hneL k_dY k_dZ (Nat.ne_of_beq_eq_false rfl)
          have n164 : dY ≠ dT := hneL k_dY k_dT (Nat.ne_of_beq_eq_false rfl)
          have n165 : dY ≠ dR := hneL k_dY k_dR (Nat.ne_of_beq_eq_false rfl)
          have n166 : dY ≠ dL := hneL k_dY k_dL (Nat.ne_of_beq_eq_false rfl)
          have n167 : dY ≠ dS := hneL k_dY k_dS (Nat.ne_of_beq_eq_false rfl)
          have n168 : dY ≠ dQ := hneL k_dY k_dQ (Nat.ne_of_beq_eq_false rfl)
          have h155 : f36 dY = some (.inl (cI G, 3, .inl gl)) := (hEq.k k41) _ _ h153 (ninc n168 (ninc n167 (ninc n166 (ninc n165 (ninc n164 (ninc n163 (ninc n162 (ninc n161 (ninc n160 (ninc n159 (ninc n158 (ninc n157 (ninc n156 nin0)))))))))))))
          have h169 : f62 dY = some (.inl (cI G, 3, .inl gl)) := (hEq.k k65) _ _ h155 (ninc n168 (ninc n167 (ninc n166 (ninc n165 (ninc n164 (ninc n163 (ninc n162 (ninc n161 (ninc n160 (ninc n159 (ninc n158 (ninc n157 (ninc n156 nin0)))))))))))))
          have n171 : dG ≠ mo := hne k_dG k_mo (Nat.ne_of_beq_eq_false rfl)
          have h170 : f1 dG = some (.inl (cI G, 60, .inl (nf gv))) := (hEq.k k4) _ _ k_dG (ninc n171 nin0)
          have n173 : dG ≠ dO := hneL k_dG k_dO (Nat.ne_of_beq_eq_false rfl)
          have n174 : dG ≠ dU := hneL k_dG k_dU (Nat.ne_of_beq_eq_false rfl)
          have n175 : dG ≠ dJ := hneL k_dG k_dJ (Nat.ne_of_beq_eq_false rfl)
          have n176 : dG ≠ dK := hneL k_dG k_dK (Nat.ne_of_beq_eq_false rfl)
          have n177 : dG ≠ dN := hneL k_dG k_dN (Nat.ne_of_beq_eq_false rfl)
          have n178 : dG ≠ dH := hneL k_dG k_dH (Nat.ne_of_beq_eq_false rfl)
          have n179 : dG ≠ dI := hneL k_dG k_dI (Nat.ne_of_beq_eq_false rfl)
          have n180 : dG ≠ dZ := hneL k_dG k_dZ (Nat.ne_of_beq_eq_false rfl)
          have n181 : dG ≠ dT := hneL k_dG k_dT (Nat.ne_of_beq_eq_false rfl)
          have n182 : dG ≠ dR := hneL k_dG k_dR (Nat.ne_of_beq_eq_false rfl)
          have n183 : dG ≠ dL := hneL k_dG k_dL (Nat.ne_of_beq_eq_false rfl)
          have n184 : dG ≠ dS := hneL k_dG k_dS (Nat.ne_of_beq_eq_false rfl)
          have n185 : dG ≠ dQ := hneL k_dG k_dQ (Nat.ne_of_beq_eq_false rfl)
          have h172 : f36 dG = some (.inl (cI G, 60, .inl (nf gv))) := (hEq.k k41) _ _ h170 (ninc n185 (ninc n184 (ninc n183 (ninc n182 (ninc n181 (ninc n180 (ninc n179 (ninc n178 (ninc n177 (ninc n176 (ninc n175 (ninc n174 (ninc n173 nin0)))))))))))))
          have h186 : f62 dG = some (.inl (cI G, 60, .inl (nf gv))) := (hEq.k k65) _ _ h172 (ninc n185 (ninc n184 (ninc n183 (ninc n182 (ninc n181 (ninc n180 (ninc n179 (ninc n178 (ninc n177 (ninc n176 (ninc n175 (ninc n174 (ninc n173 nin0)))))))))))))
          exact hp_iret (v := (gK_n63 (r37 : Int32).toNatClampNeg)) B0 hw hS hr ⟨Nat.le_of_ble_eq_true rfl, Nat.le_of_ble_eq_true rfl⟩ dX5_deliver_30 (⟨⟨_, rfl⟩, ⟨_, ⟨h66, hND, ⟨_, _, _, _, _, _, _, _, _, _, _, _, _, k_dQ_n63, k_dS_n63, k_dL_n63, k_dR_n63, k_dT_n63, k_dZ_n63, k_dI_n63, k_dH_n63, k_dN_n63, k_dK_n63, k_dJ_n63, k_dU_n63, k_dO_n63, hHd9_n63, (hMn.mono hMn9_n63 (by omega))⟩, h82, h83, h84, h101, h118, h135, h152, h169, h186, hSA, hB9, hfl9⟩⟩, ((show hEq [mo, dW, dA, dQ, dM, dS, dL, dR, dT, dZ, dI, dH, dN, dK, dJ, dU, dO, dF, dP, dE, dX, dY, dG] f f1 from (hEq.mono k4 (sub_cons List.mem_cons_self sub_nil))).tr ((show hEq [mo, dW, dA, dQ, dM, dS, dL, dR, dT, dZ, dI, dH, dN, dK, dJ, dU, dO, dF, dP, dE, dX, dY, dG] f1 f36 from (hEq.mono k41 sub13)).tr (show hEq [mo, dW, dA, dQ, dM, dS, dL, dR, dT, dZ, dI, dH, dN, dK, dJ, dU, dO, dF, dP, dE, dX, dY, dG] f36 f62 from (hEq.mono k65 sub13))))⟩)
    · subst ev9
      subst b9
      refine W.eq (g2 := F0 m 5 ls [.int 1]) rfl ?_
      refine lv_if_ne (tgt := 10) hx hb dX5_deliver_5 (by decide) (fun _ => ?_) (fun c9 => absurd c9 (by decide))
      refine lv_aload_n hx hb dX5_deliver_10 rfl (lv_at hl9 0 rfl) ?_
      refine lv_iload_n hx hb dX5_deliver_11 rfl (lv_at hl9 1 rfl) ?_
      have n188 : dM ≠ mo := hne k_dM k_mo (Nat.ne_of_beq_eq_false rfl)
      have h187 : f1 dM = some (.inl (cI G, 2, .inl (mA2 mg0 mg1))) := (hEq.k k4) _ _ k_dM (ninc n188 nin0)
      have n190 : dA ≠ mo := hne k_dA k_mo (Nat.ne_of_beq_eq_false rfl)
      have h189 : f1 dA = some (.inl (cI G, 12, .inl (jn ga0 ga1))) := (hEq.k k4) _ _ k_dA (ninc n190 nin0)
      have n192 : dQ ≠ mo := hne k_dQ k_mo (Nat.ne_of_beq_eq_false rfl)
      have h191 : f1 dQ = some (.inl (cI G, 12, .inl gQ)) := (hEq.k k4) _ _ k_dQ (ninc n192 nin0)
      have n194 : dS ≠ mo := hne k_dS k_mo (Nat.ne_of_beq_eq_false rfl)
      have h193 : f1 dS = some (.inl (cI G, 2, .inl gS)) := (hEq.k k4) _ _ k_dS (ninc n194 nin0)
      have n196 : dL ≠ mo := hne k_dL k_mo (Nat.ne_of_beq_eq_false rfl)
      have h195 : f1 dL = some (.inl (cI G, 2, .inl gL)) := (hEq.k k4) _ _ k_dL (ninc n196 nin0)
      have n198 : dR ≠ mo := hne k_dR k_mo (Nat.ne_of_beq_eq_false rfl)
      have h197 : f1 dR = some (.inl (cI G, 2, .inl gR)) := (hEq.k k4) _ _ k_dR (ninc n198 nin0)
      have n200 : dT ≠ mo := hne k_dT k_mo (Nat.ne_of_beq_eq_false rfl)
      have h199 : f1 dT = some (.inl (cI G, 2, .inl gT)) := (hEq.k k4) _ _ k_dT (ninc n200 nin0)
      have n202 : dZ ≠ mo := hne k_dZ k_mo (Nat.ne_of_beq_eq_false rfl)
      have h201 : f1 dZ = some (.inl (cZ G, 2, .inl gZ)) := (hEq.k k4) _ _ k_dZ (ninc n202 nin0)
      have n204 : dI ≠ mo := hne k_dI k_mo (Nat.ne_of_beq_eq_false rfl)
      have h203 : f1 dI = some (.inl (cI G, 2, .inl gI)) := (hEq.k k4) _ _ k_dI (ninc n204 nin0)
      have n206 : dH ≠ mo := hne k_dH k_mo (Nat.ne_of_beq_eq_false rfl)
      have h205 : f1 dH = some (.inl (cI G, 2, .inl gH)) := (hEq.k k4) _ _ k_dH (ninc n206 nin0)
      have n208 : dN ≠ mo := hne k_dN k_mo (Nat.ne_of_beq_eq_false rfl)
      have h207 : f1 dN = some (.inl (cI G, 2, .inl gN)) := (hEq.k k4) _ _ k_dN (ninc n208 nin0)
      have n210 : dK ≠ mo := hne k_dK k_mo (Nat.ne_of_beq_eq_false rfl)
      have h209 : f1 dK = some (.inl (cI G, 2048, .inl gK)) := (hEq.k k4) _ _ k_dK (ninc n210 nin0)
      have n212 : dJ ≠ mo := hne k_dJ k_mo (Nat.ne_of_beq_eq_false rfl)
      have h211 : f1 dJ = some (.inl (cI G, 2048, .inl gJ)) := (hEq.k k4) _ _ k_dJ (ninc n212 nin0)
      have n214 : dU ≠ mo := hne k_dU k_mo (Nat.ne_of_beq_eq_false rfl)
      have h213 : f1 dU = some (.inl (cI G, 2048, .inl gU)) := (hEq.k k4) _ _ k_dU (ninc n214 nin0)
      have n216 : dO ≠ mo := hne k_dO k_mo (Nat.ne_of_beq_eq_false rfl)
      have h215 : f1 dO = some (.inl (cI G, 2048, .inl gO)) := (hEq.k k4) _ _ k_dO (ninc n216 nin0)
      refine hp_V (ci := 5) (As := [.int 1]) (rest := []) B0 hw hS (c_W5_takes hl G f1 mo dW dA dQ dM dS dL dR dT dZ dI dH dN dK dJ dU dO dF dP dE dX dY dG t2 (nI n) (nI a) (nI x) (nI cg) h3 hND (mA2 mg0 mg1) (jn ga0 ga1) h187 h189 hSA B ⟨_, _, _, _, _, _, _, _, _, _, _, _, _, h191, h193, h195, h197, h199, h201, h203, h205, h207, h209, h211, h213, h215, hHd9, (hMn.mono hMn9 (by omega))⟩ 1 (fun g9 h9 => by have h8 := h207.symm.trans h9; cases h8; exact h5) (Or.inr rfl)) mV_X5_takes qM_X5_123 rfl h3 rfl rfl hl9.1 (Nat.le_of_ble_eq_true rfl) ⟨⟨Nat.le_of_ble_eq_true rfl, Nat.le_of_ble_eq_true rfl⟩, Nat.le_of_ble_eq_true rfl, Nat.le_of_ble_eq_true rfl⟩ dX5_deliver_12 (fun E ce q9 f217 H locs hPX hw hS hce hcv hcl => ?_) (fun v f217 H locs hP hw hS => ?_)
      · exact hPX.elim
      · obtain ⟨⟨r218, ev9, h219⟩, h221, k222⟩ := hP
        have h221L := h221
        obtain ⟨gQ_n220, gS_n220, gL_n220, gR_n220, gT_n220, gZ_n220, gI_n220, gH_n220, gN_n220, gK_n220, gJ_n220, gU_n220, gO_n220, k_dQ_n220, k_dS_n220, k_dL_n220, k_dR_n220, k_dT_n220, k_dZ_n220, k_dI_n220, k_dH_n220, k_dN_n220, k_dK_n220, k_dJ_n220, k_dU_n220, k_dO_n220, hHd9_n220, hMn9_n220⟩ := id h221
        subst ev9
        refine W.eq (g2 := F0 m 15 ls [.int r218]) rfl ?_
        refine lv_istore_n (lv' := [(2, .int r218), (0, .ref mo), (1, .int 1)]) hx hb dX5_deliver_15 rfl hl9 (by decide) rfl (fun ls hl9 => ?_)
        refine lv_aload_n hx hb dX5_deliver_16 rfl (lv_at hl9 1 rfl) ?_
        refine lv_iconst (v := 1) hx hb dX5_deliver_17 (by decide) ?_
        refine lv_iload_n hx hb dX5_deliver_18 rfl (lv_at hl9 2 rfl) ?_
        refine lv_isub hx hb dX5_deliver_19 ?_
        refine hp_c (v := 0) (by decide) ?_
        refine lv_iload_n hx hb dX5_deliver_20 rfl (lv_at hl9 0 rfl) ?_
        have h223 : f217 mo = some (.inr (5, [.int t2, .ref dW, .ref dA, .ref dQ, .ref dM, .ref dS, .ref dL, .ref dR, .ref dT, .ref dZ, .ref dI, .ref dH, .ref dN, .ref dK, .ref dJ, .ref dU, .ref dO, .int (nI n), .int (nI a), .ref dF, .ref dP, .ref dE, .ref dX, .ref dY, .int (nI x), .int (nI cg), .ref dG])) := (hEq.k k222) _ _ h3 (ninc (Ne.symm n192) (ninc (Ne.symm n194) (ninc (Ne.symm n196) (ninc (Ne.symm n198) (ninc (Ne.symm n200) (ninc (Ne.symm n202) (ninc (Ne.symm n204) (ninc (Ne.symm n206) (ninc (Ne.symm n208) (ninc (Ne.symm n210) (ninc (Ne.symm n212) (ninc (Ne.symm n214) (ninc (Ne.symm n216) nin0)))))))))))))
        have n225 : dM ≠ dO := hneL k_dM k_dO (Nat.ne_of_beq_eq_false rfl)
        have n226 : dM ≠ dU := hneL k_dM k_dU (Nat.ne_of_beq_eq_false rfl)
        have n227 : dM ≠ dJ := hneL k_dM k_dJ (Nat.ne_of_beq_eq_false rfl)
        have n228 : dM ≠ dK := hneL k_dM k_dK (Nat.ne_of_beq_eq_false rfl)
        have n229 : dM ≠ dQ := hneL k_dM k_dQ (Nat.ne_of_beq_eq_false rfl)
        have h224 : f217 dM = some (.inl (cI G, 2, .inl (mA2 mg0 mg1))) := (hEq.k k222) _ _ h187 (ninc n229 (ninc nd_dM_dS (ninc nd_dM_dL (ninc nd_dM_dR (ninc nd_dM_dT (ninc nd_dM_dZ (ninc nd_dM_dI (ninc nd_dM_dH (ninc nd_dM_dN (ninc n228 (ninc n227 (ninc n226 (ninc n225 nin0)))))))))))))
        have n231 : dA ≠ dO := hneL k_dA k_dO (Nat.ne_of_beq_eq_false rfl)
        have n232 : dA ≠ dU := hneL k_dA k_dU (Nat.ne_of_beq_eq_false rfl)
        have n233 : dA ≠ dJ := hneL k_dA k_dJ (Nat.ne_of_beq_eq_false rfl)
        have n234 : dA ≠ dK := hneL k_dA k_dK (Nat.ne_of_beq_eq_false rfl)
        have n235 : dA ≠ dN := hneL k_dA k_dN (Nat.ne_of_beq_eq_false rfl)
        have n236 : dA ≠ dH := hneL k_dA k_dH (Nat.ne_of_beq_eq_false rfl)
        have n237 : dA ≠ dI := hneL k_dA k_dI (Nat.ne_of_beq_eq_false rfl)
        have n238 : dA ≠ dZ := hneL k_dA k_dZ (Nat.ne_of_beq_eq_false rfl)
        have n239 : dA ≠ dT := hneL k_dA k_dT (Nat.ne_of_beq_eq_false rfl)
        have n240 : dA ≠ dR := hneL k_dA k_dR (Nat.ne_of_beq_eq_false rfl)
        have n241 : dA ≠ dL := hneL k_dA k_dL (Nat.ne_of_beq_eq_false rfl)
        have n242 : dA ≠ dS := hneL k_dA k_dS (Nat.ne_of_beq_eq_false rfl)
        have h230 : f217 dA = some (.inl (cI G, 12, .inl (jn ga0 ga1))) := (hEq.k k222) _ _ h189 (ninc nd_dA_dQ (ninc n242 (ninc n241 (ninc n240 (ninc n239 (ninc n238 (ninc n237 (ninc n236 (ninc n235 (ninc n234 (ninc n233 (ninc n232 (ninc n231 nin0)))))))))))))
        refine hp_V (ci := 5) (As := [.int 0, .int r218]) (rest := []) B0 hw hS (c_W5_comes hl G f217 mo dW dA dQ dM dS dL dR dT dZ dI dH dN dK dJ dU dO dF dP dE dX dY dG t2 (nI n) (nI a) (nI x) (nI cg) h223 hND (mA2 mg0 mg1) (jn ga0 ga1) h224 h230 hSA (B + 0) ⟨_, _, _, _, _, _, _, _, _, _, _, _, _, k_dQ_n220, k_dS_n220, k_dL_n220, k_dR_n220, k_dT_n220, k_dZ_n220, k_dI_n220, k_dH_n220, k_dN_n220, k_dK_n220, k_dJ_n220, k_dU_n220, k_dO_n220, hHd9_n220, (hMn.mono hMn9_n220 (by omega))⟩ (by omega) 0 r218 h219 (Or.inl rfl)) mV_X5_comes qM_X5_126 rfl h223 rfl rfl hl9.1 (Nat.le_of_ble_eq_true rfl) ⟨⟨Nat.le_of_ble_eq_true rfl, Nat.le_of_ble_eq_true rfl⟩, Nat.le_of_ble_eq_true rfl, Nat.le_of_ble_eq_true rfl⟩ dX5_deliver_21 (fun E ce q9 f243 H locs hPX hw hS hce hcv hcl => ?_) (fun v f243 H locs hP hw hS => ?_)
        · exact hPX.elim
        · obtain ⟨ev9, h245, k246⟩ := hP
          have h245L := h245
          obtain ⟨gQ_n244, gS_n244, gL_n244, gR_n244, gT_n244, gZ_n244, gI_n244, gH_n244, gN_n244, gK_n244, gJ_n244, gU_n244, gO_n244, k_dQ_n244, k_dS_n244, k_dL_n244, k_dR_n244, k_dT_n244, k_dZ_n244, k_dI_n244, k_dH_n244, k_dN_n244, k_dK_n244, k_dJ_n244, k_dU_n244, k_dO_n244, hHd9_n244, hMn9_n244⟩ := id h245
          subst ev9
          refine W.eq (g2 := F0 m 24 ls []) rfl ?_
          refine lv_aload_n hx hb dX5_deliver_24 rfl (lv_at hl9 1 rfl) ?_
          have h247 : f243 mo = some (.inr (5, [.int t2, .ref dW, .ref dA, .ref dQ, .ref dM, .ref dS, .ref dL, .ref dR, .ref dT, .ref dZ, .ref dI, .ref dH, .ref dN, .ref dK, .ref dJ, .ref dU, .ref dO, .int (nI n), .int (nI a), .ref dF, .ref dP, .ref dE, .ref dX, .ref dY, .int (nI x), .int (nI cg), .ref dG])) := (hEq.k k246) _ _ h223 (ninc (Ne.symm n192) (ninc (Ne.symm n194) (ninc (Ne.symm n196) (ninc (Ne.symm n198) (ninc (Ne.symm n200) (ninc (Ne.symm n202) (ninc (Ne.symm n204) (ninc (Ne.symm n206) (ninc (Ne.symm n208) (ninc (Ne.symm n210) (ninc (Ne.symm n212) (ninc (Ne.symm n214) (ninc (Ne.symm n216) nin0)))))))))))))
          refine hp_get B0 hw 5 rfl in_X5 h247 13 (by decide) qF_X5_47 rfl dX5_deliver_25 ?_
          refine lv_iload_n hx hb dX5_deliver_28 rfl (lv_at hl9 0 rfl) ?_
          refine hp_iald B0 hw k_dK_n244 h219 dX5_deliver_29 ?_
          have n249 : dW ≠ mo := hne k_dW k_mo (Nat.ne_of_beq_eq_false rfl)
          have h248 : f1 dW = some (.inl (cI G, 12, .inl (jn gw0 gw1))) := (hEq.k k4) _ _ k_dW (ninc n249 nin0)
          have n251 : dW ≠ dO := hneL k_dW k_dO (Nat.ne_of_beq_eq_false rfl)
          have n252 : dW ≠ dU := hneL k_dW k_dU (Nat.ne_of_beq_eq_false rfl)
          have n253 : dW ≠ dJ := hneL k_dW k_dJ (Nat.ne_of_beq_eq_false rfl)
          have n254 : dW ≠ dK := hneL k_dW k_dK (Nat.ne_of_beq_eq_false rfl)
          have n255 : dW ≠ dN := hneL k_dW k_dN (Nat.ne_of_beq_eq_false rfl)
          have n256 : dW ≠ dH := hneL k_dW k_dH (Nat.ne_of_beq_eq_false rfl)
          have n257 : dW ≠ dI := hneL k_dW k_dI (Nat.ne_of_beq_eq_false rfl)
          have n258 : dW ≠ dZ := hneL k_dW k_dZ (Nat.ne_of_beq_eq_false rfl)
          have n259 : dW ≠ dT := hneL k_dW k_dT (Nat.ne_of_beq_eq_false rfl)
          have n260 : dW ≠ dR := hneL k_dW k_dR (Nat.ne_of_beq_eq_false rfl)
          have n261 : dW ≠ dL := hneL k_dW k_dL (Nat.ne_of_beq_eq_false rfl)
          have n262 : dW ≠ dS := hneL k_dW k_dS (Nat.ne_of_beq_eq_false rfl)
          have h250 : f217 dW = some (.inl (cI G, 12, .inl (jn gw0 gw1))) := (hEq.k k222) _ _ h248 (ninc nd_dW_dQ (ninc n262 (ninc n261 (ninc n260 (ninc n259 (ninc n258 (ninc n257 (ninc n256 (ninc n255 (ninc n254 (ninc n253 (ninc n252 (ninc n251 nin0)))))))))))))
          have h263 : f243 dW = some (.inl (cI G, 12, .inl (jn gw0 gw1))) := (hEq.k k246) _ _ h250 (ninc nd_dW_dQ (ninc n262 (ninc n261 (ninc n260 (ninc n259 (ninc n258 (ninc n257 (ninc n256 (ninc n255 (ninc n254 (ninc n253 (ninc n252 (ninc n251 nin0)))))))))))))
          have h264 : f243 dA = some (.inl (cI G, 12, .inl (jn ga0 ga1))) := (hEq.k k246) _ _ h230 (ninc nd_dA_dQ (ninc n242 (ninc n241 (ninc n240 (ninc n239 (ninc n238 (ninc n237 (ninc n236 (ninc n235 (ninc n234 (ninc n233 (ninc n232 (ninc n231 nin0)))))))))))))
          have h265 : f243 dM = some (.inl (cI G, 2, .inl (mA2 mg0 mg1))) := (hEq.k k246) _ _ h224 (ninc n229 (ninc nd_dM_dS (ninc nd_dM_dL (ninc nd_dM_dR (ninc nd_dM_dT (ninc nd_dM_dZ (ninc nd_dM_dI (ninc nd_dM_dH (ninc nd_dM_dN (ninc n228 (ninc n227 (ninc n226 (ninc n225 nin0)))))))))))))
          have n267 : dF ≠ mo := hne k_dF k_mo (Nat.ne_of_beq_eq_false rfl)
          have h266 : f1 dF = some (.inl (cI G, 61, .inl (nf sa))) := (hEq.k k4) _ _ k_dF (ninc n267 nin0)
          have n269 : dF ≠ dO := hneL k_dF k_dO (Nat.ne_of_beq_eq_false rfl)
          have n270 : dF ≠ dU := hneL k_dF k_dU (Nat.ne_of_beq_eq_false rfl)
          have n271 : dF ≠ dJ := hneL k_dF k_dJ (Nat.ne_of_beq_eq_false rfl)
          have n272 : dF ≠ dK := hneL k_dF k_dK (Nat.ne_of_beq_eq_false rfl)
          have n273 : dF ≠ dN := hneL k_dF k_dN (Nat.ne_of_beq_eq_false rfl)
          have n274 : dF ≠ dH := hneL k_dF k_dH (Nat.ne_of_beq_eq_false rfl)
          have n275 : dF ≠ dI := hneL k_dF k_dI (Nat.ne_of_beq_eq_false rfl)
          have n276 : dF ≠ dZ := hneL k_dF k_dZ (Nat.ne_of_beq_eq_false rfl)
          have n277 : dF ≠ dT := hneL k_dF k_dT (Nat.ne_of_beq_eq_false rfl)
          have n278 : dF ≠ dR := hneL k_dF k_dR (Nat.ne_of_beq_eq_false rfl)
          have n279 : dF ≠ dL := hneL k_dF k_dL (Nat.ne_of_beq_eq_false rfl)
          have n280 : dF ≠ dS := hneL k_dF k_dS (Nat.ne_of_beq_eq_false rfl)
          have n281 : dF ≠ dQ := hneL k_dF k_dQ (Nat.ne_of_beq_eq_false rfl)
          have h268 : f217 dF = some (.inl (cI G, 61, .inl (nf sa))) := (hEq.k k222) _ _ h266 (ninc n281 (ninc n280 (ninc n279 (ninc n278 (ninc n277 (ninc n276 (ninc n275 (ninc n274 (ninc n273 (ninc n272 (ninc n271 (ninc n270 (ninc n269 nin0)))))))))))))
          have h282 : f243 dF = some (.inl (cI G, 61, .inl (nf sa))) := (hEq.k k246) _ _ h268 (ninc n281 (ninc n280 (ninc n279 (ninc n278 (ninc n277 (ninc n276 (ninc n275 (ninc n274 (ninc n273 (ninc n272 (ninc n271 (ninc n270 (ninc n269 nin0)))))))))))))
          have n284 : dP ≠ mo := hne k_dP k_mo (Nat.ne_of_beq_eq_false rfl)
          have h283 : f1 dP = some (.inl (cI G, 240, .inl (nf pk))) := (hEq.k k4) _ _ k_dP (ninc n284 nin0)
          have n286 : dP ≠ dO := hneL k_dP k_dO (Nat.ne_of_beq_eq_false rfl)
          have n287 : dP ≠ dU := hneL k_dP k_dU (Nat.ne_of_beq_eq_false rfl)
          have n288 : dP ≠ dJ := hneL k_dP k_dJ (Nat.ne_of_beq_eq_false rfl)
          have n289 : dP ≠ dK := hneL k_dP k_dK (Nat.ne_of_beq_eq_false rfl)
          have n290 : dP ≠ dN := hneL k_dP k_dN (Nat.ne_of_beq_eq_false rfl)
          have n291 : dP ≠ dH := hneL k_dP k_dH (Nat.ne_of_beq_eq_false rfl)
          have n292 : dP ≠ dI := hneL k_dP k_dI (Nat.ne_of_beq_eq_false rfl)
          have n293 : dP ≠ dZ := hneL k_dP k_dZ (Nat.ne_of_beq_eq_false rfl)
          have n294 : dP ≠ dT := hneL k_dP k_dT (Nat.ne_of_beq_eq_false rfl)
          have n295 : dP ≠ dR := hneL k_dP k_dR (Nat.ne_of_beq_eq_false rfl)
          have n296 : dP ≠ dL := hneL k_dP k_dL (Nat.ne_of_beq_eq_false rfl)
          have n297 : dP ≠ dS := hneL k_dP k_dS (Nat.ne_of_beq_eq_false rfl)
          have n298 : dP ≠ dQ := hneL k_dP k_dQ (Nat.ne_of_beq_eq_false rfl)
          have h285 : f217 dP = some (.inl (cI G, 240, .inl (nf pk))) := (hEq.k k222) _ _ h283 (ninc n298 (ninc n297 (ninc n296 (ninc n295 (ninc n294 (ninc n293 (ninc n292 (ninc n291 (ninc n290 (ninc n289 (ninc n288 (ninc n287 (ninc n286 nin0)))))))))))))
          have h299 : f243 dP = some (.inl (cI G, 240, .inl (nf pk))) := (hEq.k k246) _ _ h285 (ninc n298 (ninc n297 (ninc n296 (ninc n295 (ninc n294 (ninc n293 (ninc n292 (ninc n291 (ninc n290 (ninc n289 (ninc n288 (ninc n287 (ninc n286 nin0)))))))))))))
          have n301 : dE ≠ mo := hne k_dE k_mo (Nat.ne_of_beq_eq_false rfl)
          have h300 : f1 dE = some (.inl (cZ G, 240, .inl gh)) := (hEq.k k4) _ _ k_dE (ninc n301 nin0)
          have n303 : dE ≠ dO := hneL k_dE k_dO (Nat.ne_of_beq_eq_false rfl)
          have n304 : dE ≠ dU := hneL k_dE k_dU (Nat.ne_of_beq_eq_false rfl)
          have n305 : dE ≠ dJ := hneL k_dE k_dJ (Nat.ne_of_beq_eq_false rfl)
          have n306 : dE ≠ dK := hneL k_dE k_dK (Nat.ne_of_beq_eq_false rfl)
          have n307 : dE ≠ dN := hneL k_dE k_dN (Nat.ne_of_beq_eq_false rfl)
          have n308 : dE ≠ dH := hneL k_dE k_dH (Nat.ne_of_beq_eq_false rfl)
          have n309 : dE ≠ dI := hneL k_dE k_dI (Nat.ne_of_beq_eq_false rfl)
          have n310 : dE ≠ dZ := hneL k_dE k_dZ (Nat.ne_of_beq_eq_false rfl)
          have n311 : dE ≠ dT := hneL k_dE k_dT (Nat.ne_of_beq_eq_false rfl)
          have n312 : dE ≠ dR := hneL k_dE k_dR (Nat.ne_of_beq_eq_false rfl)
          have n313 : dE ≠ dL := hneL k_dE k_dL (Nat.ne_of_beq_eq_false rfl)
          have n314 : dE ≠ dS := hneL k_dE k_dS (Nat.ne_of_beq_eq_false rfl)
          have n315 : dE ≠ dQ := hneL k_dE k_dQ (Nat.ne_of_beq_eq_false rfl)
          have h302 : f217 dE = some (.inl (cZ G, 240, .inl gh)) := (hEq.k k222) _ _ h300 (ninc n315 (ninc n314 (ninc n313 (ninc n312 (ninc n311 (ninc n310 (ninc n309 (ninc n308 (ninc n307 (ninc n306 (ninc n305 (ninc n304 (ninc n303 nin0)))))))))))))
          have h316 : f243 dE = some (.inl (cZ G, 240, .inl gh)) := (hEq.k k246) _ _ h302 (ninc n315 (ninc n314 (ninc n313 (ninc n312 (ninc n311 (ninc n310 (ninc n309 (ninc n308 (ninc n307 (ninc n306 (ninc n305 (ninc n304 (ninc n303 nin0)))))))))))))
          have n318 : dX ≠ mo := hne k_dX k_mo (Nat.ne_of_beq_eq_false rfl)
          have h317 : f1 dX = some (.inl (cI G, 3, .inl (nf fl))) := (hEq.k k4) _ _ k_dX (ninc n318 nin0)
          have n320 : dX ≠ dO := hneL k_dX k_dO (Nat.ne_of_beq_eq_false rfl)
          have n321 : dX ≠ dU := hneL k_dX k_dU (Nat.ne_of_beq_eq_false rfl)
          have n322 : dX ≠ dJ := hneL k_dX k_dJ (Nat.ne_of_beq_eq_false rfl)
          have n323 : dX ≠ dK := hneL k_dX k_dK (Nat.ne_of_beq_eq_false rfl)
          have n324 : dX ≠ dN := hneL k_dX k_dN (Nat.ne_of_beq_eq_false rfl)
          have n325 : dX ≠ dH := hneL k_dX k_dH (Nat.ne_of_beq_eq_false rfl)
          have n326 : dX ≠ dI := hneL k_dX k_dI (Nat.ne_of_beq_eq_false rfl)
          have n327 : dX ≠ dZ := hneL k_dX k_dZ (Nat.ne_of_beq_eq_false rfl)
          have n328 : dX ≠ dT := hneL k_dX k_dT (Nat.ne_of_beq_eq_false rfl)
          have n329 : dX ≠ dR := hneL k_dX k_dR (Nat.ne_of_beq_eq_false rfl)
          have n330 : dX ≠ dL := hneL k_dX k_dL (Nat.ne_of_beq_eq_false rfl)
          have n331 : dX ≠ dS := hneL k_dX k_dS (Nat.ne_of_beq_eq_false rfl)
          have n332 : dX ≠ dQ := hneL k_dX k_dQ (Nat.ne_of_beq_eq_false rfl)
          have h319 : f217 dX = some (.inl (cI G, 3, .inl (nf fl))) := (hEq.k k222) _ _ h317 (ninc n332 (ninc n331 (ninc n330 (ninc n329 (ninc n328 (ninc n327 (ninc n326 (ninc n325 (ninc n324 (ninc n323 (ninc n322 (ninc n321 (ninc n320 nin0)))))))))))))
          have h333 : f243 dX = some (.inl (cI G, 3, .inl (nf fl))) := (hEq.k k246) _ _ h319 (ninc n332 (ninc n331 (ninc n330 (ninc n329 (ninc n328 (ninc n327 (ninc n326 (ninc n325 (ninc n324 (ninc n323 (ninc n322 (ninc n321 (ninc n320 nin0)))))))))))))
          have n335 : dY ≠ mo := hne k_dY k_mo (Nat.ne_of_beq_eq_false rfl)
          have h334 : f1 dY = some (.inl (cI G, 3, .inl gl)) := (hEq.k k4) _ _ k_dY (ninc n335 nin0)
          have n337 : dY ≠ dO := hneL k_dY k_dO (Nat.ne_of_beq_eq_false rfl)
          have n338 : dY ≠ dU := hneL k_dY k_dU (Nat.ne_of_beq_eq_false rfl)
          have n339 : dY ≠ dJ := hneL k_dY k_dJ (Nat.ne_of_beq_eq_false rfl)
          have n340 : dY ≠ dK := hneL k_dY k_dK (Nat.ne_of_beq_eq_false rfl)
          have n341 : dY ≠ dN := hneL k_dY k_dN (Nat.ne_of_beq_eq_false rfl)
          have n342 : dY ≠ dH := hneL k_dY k_dH (Nat.ne_of_beq_eq_false rfl)
          have n343 : dY ≠ dI := hneL k_dY k_dI (Nat.ne_of_beq_eq_false rfl)
          have n344 : dY ≠ dZ := hneL k_dY k_dZ (Nat.ne_of_beq_eq_false rfl)
          have n345 : dY ≠ dT := hneL k_dY k_dT (Nat.ne_of_beq_eq_false rfl)
          have n346 : dY ≠ dR := hneL k_dY k_dR (Nat.ne_of_beq_eq_false rfl)
          have n347 : dY ≠ dL := hneL k_dY k_dL (Nat.ne_of_beq_eq_false rfl)
          have n348 : dY ≠ dS := hneL k_dY k_dS (Nat.ne_of_beq_eq_false rfl)
          have n349 : dY ≠ dQ := hneL k_dY k_dQ (Nat.ne_of_beq_eq_false rfl)
          have h336 : f217 dY = some (.inl (cI G, 3, .inl gl)) := (hEq.k k222) _ _ h334 (ninc n349 (ninc n348 (ninc n347 (ninc n346 (ninc n345 (ninc n344 (ninc n343 (ninc n342 (ninc n341 (ninc n340 (ninc n339 (ninc n338 (ninc n337 nin0)))))))))))))
          have h350 : f243 dY = some (.inl (cI G, 3, .inl gl)) := (hEq.k k246) _ _ h336 (ninc n349 (ninc n348 (ninc n347 (ninc n346 (ninc n345 (ninc n344 (ninc n343 (ninc n342 (ninc n341 (ninc n340 (ninc n339 (ninc n338 (ninc n337 nin0)))))))))))))
          have n352 : dG ≠ mo := hne k_dG k_mo (Nat.ne_of_beq_eq_false rfl)
          have h351 : f1 dG = some (.inl (cI G, 60, .inl (nf gv))) := (hEq.k k4) _ _ k_dG (ninc n352 nin0)
          have n354 : dG ≠ dO := hneL k_dG k_dO (Nat.ne_of_beq_eq_false rfl)
          have n355 : dG ≠ dU := hneL k_dG k_dU (Nat.ne_of_beq_eq_false rfl)
          have n356 : dG ≠ dJ := hneL k_dG k_dJ (Nat.ne_of_beq_eq_false rfl)
          have n357 : dG ≠ dK := hneL k_dG k_dK (Nat.ne_of_beq_eq_false rfl)
          have n358 : dG ≠ dN := hneL k_dG k_dN (Nat.ne_of_beq_eq_false rfl)
          have n359 : dG ≠ dH := hneL k_dG k_dH (Nat.ne_of_beq_eq_false rfl)
          have n360 : dG ≠ dI := hneL k_dG k_dI (Nat.ne_of_beq_eq_false rfl)
          have n361 : dG ≠ dZ := hneL k_dG k_dZ (Nat.ne_of_beq_eq_false rfl)
          have n362 : dG ≠ dT := hneL k_dG k_dT (Nat.ne_of_beq_eq_false rfl)
          have n363 : dG ≠ dR := hneL k_dG k_dR (Nat.ne_of_beq_eq_false rfl)
          have n364 : dG ≠ dL := hneL k_dG k_dL (Nat.ne_of_beq_eq_false rfl)
          have n365 : dG ≠ dS := hneL k_dG k_dS (Nat.ne_of_beq_eq_false rfl)
          have n366 : dG ≠ dQ := hneL k_dG k_dQ (Nat.ne_of_beq_eq_false rfl)
          have h353 : f217 dG = some (.inl (cI G, 60, .inl (nf gv))) := (hEq.k k222) _ _ h351 (ninc n366 (ninc n365 (ninc n364 (ninc n363 (ninc n362 (ninc n361 (ninc n360 (ninc n359 (ninc n358 (ninc n357 (ninc n356 (ninc n355 (ninc n354 nin0)))))))))))))
          have h367 : f243 dG = some (.inl (cI G, 60, .inl (nf gv))) := (hEq.k k246) _ _ h353 (ninc n366 (ninc n365 (ninc n364 (ninc n363 (ninc n362 (ninc n361 (ninc n360 (ninc n359 (ninc n358 (ninc n357 (ninc n356 (ninc n355 (ninc n354 nin0)))))))))))))
          exact hp_iret (v := (gK_n244 (r218 : Int32).toNatClampNeg)) B0 hw hS hr ⟨Nat.le_of_ble_eq_true rfl, Nat.le_of_ble_eq_true rfl⟩ dX5_deliver_30 (⟨⟨_, rfl⟩, ⟨_, ⟨h247, hND, ⟨_, _, _, _, _, _, _, _, _, _, _, _, _, k_dQ_n244, k_dS_n244, k_dL_n244, k_dR_n244, k_dT_n244, k_dZ_n244, k_dI_n244, k_dH_n244, k_dN_n244, k_dK_n244, k_dJ_n244, k_dU_n244, k_dO_n244, hHd9_n244, (hMn.mono hMn9_n244 (by omega))⟩, h263, h264, h265, h282, h299, h316, h333, h350, h367, hSA, hB9, hfl9⟩⟩, ((show hEq [mo, dW, dA, dQ, dM, dS, dL, dR, dT, dZ, dI, dH, dN, dK, dJ, dU, dO, dF, dP, dE, dX, dY, dG] f f1 from (hEq.mono k4 (sub_cons List.mem_cons_self sub_nil))).tr ((show hEq [mo, dW, dA, dQ, dM, dS, dL, dR, dT, dZ, dI, dH, dN, dK, dJ, dU, dO, dF, dP, dE, dX, dY, dG] f1 f217 from (hEq.mono k222 sub13)).tr (show hEq [mo, dW, dA, dQ, dM, dS, dL, dR, dT, dZ, dI, dH, dN, dK, dJ, dU, dO, dF, dP, dE, dX, dY, dG] f217 f243 from (hEq.mono k246 sub13))))⟩)
    · subst ev9
      refine W.eq (g2 := F0 m 5 ls [.int 0]) rfl ?_
      refine lv_if_ne (tgt := 10) hx hb dX5_deliver_5 (by decide) (fun c9 => absurd (by decide) c9) (fun _ => ?_)
      refine lv_iconst (v := 0) hx hb dX5_deliver_8 (by decide) ?_
      have n369 : dQ ≠ mo := hne k_dQ k_mo (Nat.ne_of_beq_eq_false rfl)
      have h368 : f1 dQ = some (.inl (cI G, 12, .inl gQ)) := (hEq.k k4) _ _ k_dQ (ninc n369 nin0)
      have n371 : dS ≠ mo := hne k_dS k_mo (Nat.ne_of_beq_eq_false rfl)
      have h370 : f1 dS = some (.inl (cI G, 2, .inl gS)) := (hEq.k k4) _ _ k_dS (ninc n371 nin0)
      have n373 : dL ≠ mo := hne k_dL k_mo (Nat.ne_of_beq_eq_false rfl)
      have h372 : f1 dL = some (.inl (cI G, 2, .inl gL)) := (hEq.k k4) _ _ k_dL (ninc n373 nin0)
      have n375 : dR ≠ mo := hne k_dR k_mo (Nat.ne_of_beq_eq_false rfl)
      have h374 : f1 dR = some (.inl (cI G, 2, .inl gR)) := (hEq.k k4) _ _ k_dR (ninc n375 nin0)
      have n377 : dT ≠ mo := hne k_dT k_mo (Nat.ne_of_beq_eq_false rfl)
      have h376 : f1 dT = some (.inl (cI G, 2, .inl gT)) := (hEq.k k4) _ _ k_dT (ninc n377 nin0)
      have n379 : dZ ≠ mo := hne k_dZ k_mo (Nat.ne_of_beq_eq_false rfl)
      have h378 : f1 dZ = some (.inl (cZ G, 2, .inl gZ)) := (hEq.k k4) _ _ k_dZ (ninc n379 nin0)
      have n381 : dI ≠ mo := hne k_dI k_mo (Nat.ne_of_beq_eq_false rfl)
      have h380 : f1 dI = some (.inl (cI G, 2, .inl gI)) := (hEq.k k4) _ _ k_dI (ninc n381 nin0)
      have n383 : dH ≠ mo := hne k_dH k_mo (Nat.ne_of_beq_eq_false rfl)
      have h382 : f1 dH = some (.inl (cI G, 2, .inl gH)) := (hEq.k k4) _ _ k_dH (ninc n383 nin0)
      have n385 : dN ≠ mo := hne k_dN k_mo (Nat.ne_of_beq_eq_false rfl)
      have h384 : f1 dN = some (.inl (cI G, 2, .inl gN)) := (hEq.k k4) _ _ k_dN (ninc n385 nin0)
      have n387 : dK ≠ mo := hne k_dK k_mo (Nat.ne_of_beq_eq_false rfl)
      have h386 : f1 dK = some (.inl (cI G, 2048, .inl gK)) := (hEq.k k4) _ _ k_dK (ninc n387 nin0)
      have n389 : dJ ≠ mo := hne k_dJ k_mo (Nat.ne_of_beq_eq_false rfl)
      have h388 : f1 dJ = some (.inl (cI G, 2048, .inl gJ)) := (hEq.k k4) _ _ k_dJ (ninc n389 nin0)
      have n391 : dU ≠ mo := hne k_dU k_mo (Nat.ne_of_beq_eq_false rfl)
      have h390 : f1 dU = some (.inl (cI G, 2048, .inl gU)) := (hEq.k k4) _ _ k_dU (ninc n391 nin0)
      have n393 : dO ≠ mo := hne k_dO k_mo (Nat.ne_of_beq_eq_false rfl)
      have h392 : f1 dO = some (.inl (cI G, 2048, .inl gO)) := (hEq.k k4) _ _ k_dO (ninc n393 nin0)
      have n395 : dW ≠ mo := hne k_dW k_mo (Nat.ne_of_beq_eq_false rfl)
      have h394 : f1 dW = some (.inl (cI G, 12, .inl (jn gw0 gw1))) := (hEq.k k4) _ _ k_dW (ninc n395 nin0)
      have n397 : dA ≠ mo := hne k_dA k_mo (Nat.ne_of_beq_eq_false rfl)
      have h396 : f1 dA = some (.inl (cI G, 12, .inl (jn ga0 ga1))) := (hEq.k k4) _ _ k_dA (ninc n397 nin0)
      have n399 : dM ≠ mo := hne k_dM k_mo (Nat.ne_of_beq_eq_false rfl)
      have h398 : f1 dM = some (.inl (cI G, 2, .inl (mA2 mg0 mg1))) := (hEq.k k4) _ _ k_dM (ninc n399 nin0)
      have n401 : dF ≠ mo := hne k_dF k_mo (Nat.ne_of_beq_eq_false rfl)
      have h400 : f1 dF = some (.inl (cI G, 61, .inl (nf sa))) := (hEq.k k4) _ _ k_dF (ninc n401 nin0)
      have n403 : dP ≠ mo := hne k_dP k_mo (Nat.ne_of_beq_eq_false rfl)
      have h402 : f1 dP = some (.inl (cI G, 240, .inl (nf pk))) := (hEq.k k4) _ _ k_dP (ninc n403 nin0)
      have n405 : dE ≠ mo := hne k_dE k_mo (Nat.ne_of_beq_eq_false rfl)
      have h404 : f1 dE = some (.inl (cZ G, 240, .inl gh)) := (hEq.k k4) _ _ k_dE (ninc n405 nin0)
      have n407 : dX ≠ mo := hne k_dX k_mo (Nat.ne_of_beq_eq_false rfl)
      have h406 : f1 dX = some (.inl (cI G, 3, .inl (nf fl))) := (hEq.k k4) _ _ k_dX (ninc n407 nin0)
      have n409 : dY ≠ mo := hne k_dY k_mo (Nat.ne_of_beq_eq_false rfl)
      have h408 : f1 dY = some (.inl (cI G, 3, .inl gl)) := (hEq.k k4) _ _ k_dY (ninc n409 nin0)
      have n411 : dG ≠ mo := hne k_dG k_mo (Nat.ne_of_beq_eq_false rfl)
      have h410 : f1 dG = some (.inl (cI G, 60, .inl (nf gv))) := (hEq.k k4) _ _ k_dG (ninc n411 nin0)
      exact hp_iret (v := 0) B0 hw hS hr ⟨Nat.le_of_ble_eq_true rfl, Nat.le_of_ble_eq_true rfl⟩ dX5_deliver_9 (⟨⟨_, rfl⟩, ⟨_, ⟨h3, hND, ⟨_, _, _, _, _, _, _, _, _, _, _, _, _, h368, h370, h372, h374, h376, h378, h380, h382, h384, h386, h388, h390, h392, hHd9, (hMn.mono hMn9 (by omega))⟩, h394, h396, h398, h400, h402, h404, h406, h408, h410, hSA, hB9, hfl9⟩⟩, (show hEq [mo, dW, dA, dQ, dM, dS, dL, dR, dT, dZ, dI, dH, dN, dK, dJ, dU, dO, dF, dP, dE, dX, dY, dG] f f1 from (hEq.mono k4 (sub_cons List.mem_cons_self sub_nil)))⟩)

set_option maxHeartbeats 4000000 in
set_option maxRecDepth 100000 in
theorem c_W5_loop {l : Launch} (hl : l.stackTraces = false) (G : hG) (f : hM) (mo dW dA dQ dM dS dL dR dT dZ dI dH dN dK dJ dU dO dF dP dE dX dY dG : Nat) (th : Int32) (B : Nat) (gw0 : Nat → Int32) (ga0 : Nat → Int32) (gw1 : Nat → Int32) (ga1 : Nat → Int32) (mg0 : Int32) (mg1 : Int32) (n : Nat) (a : Nat) (cg : Nat) (x : Nat) (sa : Nat → Nat) (pk : Nat → Nat) (fl : Nat → Nat) (gv : Nat → Nat) (gh : Nat → Int32) (gl : Nat → Int32) (hC : MW G f mo dW dA dQ dM dS dL dR dT dZ dI dH dN dK dJ dU dO dF dP dE dX dY dG th B gw0 ga0 gw1 ga1 mg0 mg1 n a cg x sa pk fl gv gh gl) (hBB : B + 100 < 100000) (i : Int32) : CT l yX5_loop (.code yX5_loop cX5_loop 3 (some .int)) 5 117 0 0 G [.ref mo, .int i] f (fun v f1 => (∃ r9 : Int32, v = some (.int r9)) ∧ (∃ t9 : Int32, MW G f1 mo dW dA dQ dM dS dL dR dT dZ dI dH dN dK dJ dU dO dF dP dE dX dY dG t9 (B + 100) gw0 ga0 gw1 ga1 mg0 mg1 n a cg x sa pk fl gv gh gl) ∧ hEq [mo, dW, dA, dQ, dM, dS, dL, dR, dT, dZ, dI, dH, dN, dK, dJ, dU, dO, dF, dP, dE, dX, dY, dG] f f1) (fun E f1 => False) := by
  refine hp_start hl (own := RX5) (by decide) rfl (Nat.le_of_ble_eq_true rfl) ?_
  intro p e s m args below meth c B0 hr hnm hout hw hS ls hl9
  have hx := B0.1
  have hb := B0.2.1
  have hl9 : lv_has ls 3 [(0, .ref mo), (1, .int i)] := hl9
  obtain ⟨k_mo, hND, hLM, k_dW, k_dA, k_dM, k_dF, k_dP, k_dE, k_dX, k_dY, k_dG, hSA, hB9, hfl9⟩ := id hC
  obtain ⟨nd_dW_dA, nd_dW_dQ, nd_dA_dQ, nd_dM_dS, nd_dM_dL, nd_dM_dR, nd_dM_dT, nd_dM_dZ, nd_dM_dI, nd_dM_dH, nd_dM_dN, nd_dS_dL, nd_dS_dR, nd_dS_dT, nd_dS_dZ, nd_dS_dI, nd_dS_dH, nd_dS_dN, nd_dL_dR, nd_dL_dT, nd_dL_dZ, nd_dL_dI, nd_dL_dH, nd_dL_dN, nd_dR_dT, nd_dR_dZ, nd_dR_dI, nd_dR_dH, nd_dR_dN, nd_dT_dZ, nd_dT_dI, nd_dT_dH, nd_dT_dN, nd_dZ_dI, nd_dZ_dH, nd_dZ_dN, nd_dI_dH, nd_dI_dN, nd_dH_dN, nd_dK_dJ, nd_dK_dU, nd_dK_dO, nd_dJ_dU, nd_dJ_dO, nd_dU_dO, nd_dP_dE, nd_dX_dY⟩ := id hND
  obtain ⟨gQ, gS, gL, gR, gT, gZ, gI, gH, gN, gK, gJ, gU, gO, k_dQ, k_dS, k_dL, k_dR, k_dT, k_dZ, k_dI, k_dH, k_dN, k_dK, k_dJ, k_dU, k_dO, hHd9, hMn9⟩ := id hLM
  refine lv_aload_n hx hb dX5_loop_0 rfl (lv_at hl9 0 rfl) ?_
  refine lv_iload_n hx hb dX5_loop_1 rfl (lv_at hl9 1 rfl) ?_
  refine hp_V (ci := 5) (As := [.int i]) (rest := []) B0 hw hS (c_W5_asksFrame hl G f mo dW dA dQ dM dS dL dR dT dZ dI dH dN dK dJ dU dO dF dP dE dX dY dG th (nI n) (nI a) (nI x) (nI cg) k_mo gN k_dN i) mV_X5_asksFrame qM_X5_120 rfl k_mo rfl rfl hl9.1 (Nat.le_of_ble_eq_true rfl) ⟨⟨Nat.le_of_ble_eq_true rfl, Nat.le_of_ble_eq_true rfl⟩, Nat.le_of_ble_eq_true rfl, Nat.le_of_ble_eq_true rfl⟩ dX5_loop_2 (fun E ce q9 f1 H locs hPX hw hS hce hcv hcl => ?_) (fun v f1 H locs hP hw hS => ?_)
  · exact hPX.elim
  · obtain ⟨t2, h3, hv9, k4⟩ := hP
    rcases hv9 with ⟨ev9, b9 | b9, h5⟩ | ev9
    · subst ev9
      subst b9
      refine W.eq (g2 := F0 m 5 ls [.int 1]) rfl ?_
      refine lv_if_ne (tgt := 10) hx hb dX5_loop_5 (by decide) (fun _ => ?_) (fun c9 => absurd c9 (by decide))
      refine lv_aload_n hx hb dX5_loop_10 rfl (lv_at hl9 0 rfl) ?_
      refine hp_get B0 hw 5 rfl in_X5 h3 10 (by decide) qF_X5_38 rfl dX5_loop_11 ?_
      refine lv_iload_n hx hb dX5_loop_14 rfl (lv_at hl9 1 rfl) ?_
      refine lv_dup2_11 hx hb dX5_loop_15 rfl rfl ?_
      have n7 : dI ≠ mo := hne k_dI k_mo (Nat.ne_of_beq_eq_false rfl)
      have h6 : f1 dI = some (.inl (cI G, 2, .inl gI)) := (hEq.k k4) _ _ k_dI (ninc n7 nin0)
      refine hp_iald B0 hw h6 (by unfold vp_in; decide) dX5_loop_16 ?_
      refine lv_iconst (v := 1) hx hb dX5_loop_17 (by decide) ?_
      refine lv_iadd hx hb dX5_loop_18 ?_
      refine hp_iast B0 hw hS h6 (by unfold vp_in; decide) dX5_loop_19 (fun H locs f8 ef8 hw hS => ?_)
      have h9 : f8 dI = some (.inl (cI G, 2, .inl (upd gI (0 : Int32).toNatClampNeg ((gI (0 : Int32).toNatClampNeg) + 1)))) := by rw [ef8, va_up_self]
      refine lv_aload_n hx hb dX5_loop_20 rfl (lv_at hl9 0 rfl) ?_
      refine lv_iload_n hx hb dX5_loop_21 rfl (lv_at hl9 1 rfl) ?_
      have h10 : f8 mo = some (.inr (5, [.int t2, .ref dW, .ref dA, .ref dQ, .ref dM, .ref dS, .ref dL, .ref dR, .ref dT, .ref dZ, .ref dI, .ref dH, .ref dN, .ref dK, .ref dJ, .ref dU, .ref dO, .int (nI n), .int (nI a), .ref dF, .ref dP, .ref dE, .ref dX, .ref dY, .int (nI x), .int (nI cg), .ref dG])) := by rw [ef8, va_up_ne _ _ (Ne.symm n7)]; exact h3
      have n12 : dM ≠ mo := hne k_dM k_mo (Nat.ne_of_beq_eq_false rfl)
      have h11 : f1 dM = some (.inl (cI G, 2, .inl (mA2 mg0 mg1))) := (hEq.k k4) _ _ k_dM (ninc n12 nin0)
      have h13 : f8 dM = some (.inl (cI G, 2, .inl (mA2 mg0 mg1))) := by rw [ef8, va_up_ne _ _ nd_dM_dI]; exact h11
      have n15 : dA ≠ mo := hne k_dA k_mo (Nat.ne_of_beq_eq_false rfl)
      have h14 : f1 dA = some (.inl (cI G, 12, .inl (jn ga0 ga1))) := (hEq.k k4) _ _ k_dA (ninc n15 nin0)
      have n17 : dA ≠ dI := hneL k_dA k_dI (Nat.ne_of_beq_eq_false rfl)
      have h16 : f8 dA = some (.inl (cI G, 12, .inl (jn ga0 ga1))) := by rw [ef8, va_up_ne _ _ n17]; exact h14
      have n19 : dQ ≠ mo := hne k_dQ k_mo (Nat.ne_of_beq_eq_false rfl)
      have h18 : f1 dQ = some (.inl (cI G, 12, .inl gQ)) := (hEq.k k4) _ _ k_dQ (ninc n19 nin0)
      have n21 : dQ ≠ dI := hneL k_dQ k_dI (Nat.ne_of_beq_eq_false rfl)
      have h20 : f8 dQ = some (.inl (cI G, 12, .inl gQ)) := by rw [ef8, va_up_ne _ _ n21]; exact h18
      have n23 : dS ≠ mo := hne k_dS k_mo (Nat.ne_of_beq_eq_false rfl)
      have h22 : f1 dS = some (.inl (cI G, 2, .inl gS)) := (hEq.k k4) _ _ k_dS (ninc n23 nin0)
      have h24 : f8 dS = some (.inl (cI G, 2, .inl gS)) := by rw [ef8, va_up_ne _ _ nd_dS_dI]; exact h22
      have n26 : dL ≠ mo := hne k_dL k_mo (Nat.ne_of_beq_eq_false rfl)
      have h25 : f1 dL = some (.inl (cI G, 2, .inl gL)) := (hEq.k k4) _ _ k_dL (ninc n26 nin0)
      have h27 : f8 dL = some (.inl (cI G, 2, .inl gL)) := by rw [ef8, va_up_ne _ _ nd_dL_dI]; exact h25
      have n29 : dR ≠ mo := hne k_dR k_mo (Nat.ne_of_beq_eq_false rfl)
      have h28 : f1 dR = some (.inl (cI G, 2, .inl gR)) := (hEq.k k4) _ _ k_dR (ninc n29 nin0)
      have h30 : f8 dR = some (.inl (cI G, 2, .inl gR)) := by rw [ef8, va_up_ne _ _ nd_dR_dI]; exact h28
      have n32 : dT ≠ mo := hne k_dT k_mo (Nat.ne_of_beq_eq_false rfl)
      have h31 : f1 dT = some (.inl (cI G, 2, .inl gT)) := (hEq.k k4) _ _ k_dT (ninc n32 nin0)
      have h33 : f8 dT = some (.inl (cI G, 2, .inl gT)) := by rw [ef8, va_up_ne _ _ nd_dT_dI]; exact h31
      have n35 : dZ ≠ mo := hne k_dZ k_mo (Nat.ne_of_beq_eq_false rfl)
      have h34 : f1 dZ = some (.inl (cZ G, 2, .inl gZ)) := (hEq.k k4) _ _ k_dZ (ninc n35 nin0)
      have h36 : f8 dZ = some (.inl (cZ G, 2, .inl gZ)) := by rw [ef8, va_up_ne _ _ nd_dZ_dI]; exact h34
      have n38 : dH ≠ mo := hne k_dH k_mo (Nat.ne_of_beq_eq_false rfl)
      have h37 : f1 dH = some (.inl (cI G, 2, .inl gH)) := (hEq.k k4) _ _ k_dH (ninc n38 nin0)
      have h39 : f8 dH = some (.inl (cI G, 2, .inl gH)) := by rw [ef8, va_up_ne _ _ (Ne.symm nd_dI_dH)]; exact h37
      have n41 : dN ≠ mo := hne k_dN k_mo (Nat.ne_of_beq_eq_false rfl)
      have h40 : f1 dN = some (.inl (cI G, 2, .inl gN)) := (hEq.k k4) _ _ k_dN (ninc n41 nin0)
      have h42 : f8 dN = some (.inl (cI G, 2, .inl gN)) := by rw [ef8, va_up_ne _ _ (Ne.symm nd_dI_dN)]; exact h40
      have n44 : dK ≠ mo := hne k_dK k_mo (Nat.ne_of_beq_eq_false rfl)
      have h43 : f1 dK = some (.inl (cI G, 2048, .inl gK)) := (hEq.k k4) _ _ k_dK (ninc n44 nin0)
      have n46 : dK ≠ dI := hneL k_dK k_dI (Nat.ne_of_beq_eq_false rfl)
      have h45 : f8 dK = some (.inl (cI G, 2048, .inl gK)) := by rw [ef8, va_up_ne _ _ n46]; exact h43
      have n48 : dJ ≠ mo := hne k_dJ k_mo (Nat.ne_of_beq_eq_false rfl)
      have h47 : f1 dJ = some (.inl (cI G, 2048, .inl gJ)) := (hEq.k k4) _ _ k_dJ (ninc n48 nin0)
      have n50 : dJ ≠ dI := hneL k_dJ k_dI (Nat.ne_of_beq_eq_false rfl)
      have h49 : f8 dJ = some (.inl (cI G, 2048, .inl gJ)) := by rw [ef8, va_up_ne _ _ n50]; exact h47
      have n52 : dU ≠ mo := hne k_dU k_mo (Nat.ne_of_beq_eq_false rfl)
      have h51 : f1 dU = some (.inl (cI G, 2048, .inl gU)) := (hEq.k k4) _ _ k_dU (ninc n52 nin0)
      have n54 : dU ≠ dI := hneL k_dU k_dI (Nat.ne_of_beq_eq_false rfl)
      have h53 : f8 dU = some (.inl (cI G, 2048, .inl gU)) := by rw [ef8, va_up_ne _ _ n54]; exact h51
      have n56 : dO ≠ mo := hne k_dO k_mo (Nat.ne_of_beq_eq_false rfl)
      have h55 : f1 dO = some (.inl (cI G, 2048, .inl gO)) := (hEq.k k4) _ _ k_dO (ninc n56 nin0)
      have n58 : dO ≠ dI := hneL k_dO k_dI (Nat.ne_of_beq_eq_false rfl)
      have h57 : f8 dO = some (.inl (cI G, 2048, .inl gO)) := by rw [ef8, va_up_ne _ _ n58]; exact h55
      refine hp_V (ci := 5) (As := [.int 0]) (rest := []) B0 hw hS (c_W5_takes hl G f8 mo dW dA dQ dM dS dL dR dT dZ dI dH dN dK dJ dU dO dF dP dE dX dY dG t2 (nI n) (nI a) (nI x) (nI cg) h10 hND (mA2 mg0 mg1) (jn ga0 ga1) h13 h16 hSA B ⟨_, _, _, _, _, _, _, _, _, _, _, _, _, h20, h24, h27, h30, h33, h36, h9, h39, h42, h45, h49, h53, h57, hHd9, (hMn.mono hMn9 (by omega))⟩ 0 (fun g9 h9 => by have h8 := h42.symm.trans h9; cases h8; exact h5) (Or.inl rfl)) mV_X5_takes qM_X5_123 rfl h10 rfl rfl hl9.1 (Nat.le_of_ble_eq_true rfl) ⟨⟨Nat.le_of_ble_eq_true rfl, Nat.le_of_ble_eq_true rfl⟩, Nat.le_of_ble_eq_true rfl, Nat.le_of_ble_eq_true rfl⟩ dX5_loop_22 (fun E ce q9 f59 H locs hPX hw hS hce hcv hcl => ?_) (fun v f59 H locs hP hw hS => ?_)
      · exact hPX.elim
      · obtain ⟨⟨r60, ev9, h61⟩, h63, k64⟩ := hP
        have h63L := h63
        obtain ⟨gQ_n62, gS_n62, gL_n62, gR_n62, gT_n62, gZ_n62, gI_n62, gH_n62, gN_n62, gK_n62, gJ_n62, gU_n62, gO_n62, k_dQ_n62, k_dS_n62, k_dL_n62, k_dR_n62, k_dT_n62, k_dZ_n62, k_dI_n62, k_dH_n62, k_dN_n62, k_dK_n62, k_dJ_n62, k_dU_n62, k_dO_n62, hHd9_n62, hMn9_n62⟩ := id h63
        subst ev9
        refine W.eq (g2 := F0 m 25 ls [.int r60]) rfl ?_
        refine lv_istore_n (lv' := [(2, .int r60), (0, .ref mo), (1, .int 0)]) hx hb dX5_loop_25 rfl hl9 (by decide) rfl (fun ls hl9 => ?_)
        refine lv_aload_n hx hb dX5_loop_26 rfl (lv_at hl9 1 rfl) ?_
        refine lv_iload_n hx hb dX5_loop_27 rfl (lv_at hl9 2 rfl) ?_
        refine lv_iload_n hx hb dX5_loop_28 rfl (lv_at hl9 0 rfl) ?_
        have h65 : f59 mo = some (.inr (5, [.int t2, .ref dW, .ref dA, .ref dQ, .ref dM, .ref dS, .ref dL, .ref dR, .ref dT, .ref dZ, .ref dI, .ref dH, .ref dN, .ref dK, .ref dJ, .ref dU, .ref dO, .int (nI n), .int (nI a), .ref dF, .ref dP, .ref dE, .ref dX, .ref dY, .int (nI x), .int (nI cg), .ref dG])) := (hEq.k k64) _ _ h10 (ninc (Ne.symm n19) (ninc (Ne.symm n23) (ninc (Ne.symm n26) (ninc (Ne.symm n29) (ninc (Ne.symm n32) (ninc (Ne.symm n35) (ninc (Ne.symm n7) (ninc (Ne.symm n38) (ninc (Ne.symm n41) (ninc (Ne.symm n44) (ninc (Ne.symm n48) (ninc (Ne.symm n52) (ninc (Ne.symm n56) nin0)))))))))))))
        have n67 : dM ≠ dO := hneL k_dM k_dO (Nat.ne_of_beq_eq_false rfl)
        have n68 : dM ≠ dU := hneL k_dM k_dU (Nat.ne_of_beq_eq_false rfl)
        have n69 : dM ≠ dJ := hneL k_dM k_dJ (Nat.ne_of_beq_eq_false rfl)
        have n70 : dM ≠ dK := hneL k_dM k_dK (Nat.ne_of_beq_eq_false rfl)
        have n71 : dM ≠ dQ := hneL k_dM k_dQ (Nat.ne_of_beq_eq_false rfl)
        have h66 : f59 dM = some (.inl (cI G, 2, .inl (mA2 mg0 mg1))) := (hEq.k k64) _ _ h13 (ninc n71 (ninc nd_dM_dS (ninc nd_dM_dL (ninc nd_dM_dR (ninc nd_dM_dT (ninc nd_dM_dZ (ninc nd_dM_dI (ninc nd_dM_dH (ninc nd_dM_dN (ninc n70 (ninc n69 (ninc n68 (ninc n67 nin0)))))))))))))
        have n73 : dA ≠ dO := hneL k_dA k_dO (Nat.ne_of_beq_eq_false rfl)
        have n74 : dA ≠ dU := hneL k_dA k_dU (Nat.ne_of_beq_eq_false rfl)
        have n75 : dA ≠ dJ := hneL k_dA k_dJ (Nat.ne_of_beq_eq_false rfl)
        have n76 : dA ≠ dK := hneL k_dA k_dK (Nat.ne_of_beq_eq_false rfl)
        have n77 : dA ≠ dN := hneL k_dA k_dN (Nat.ne_of_beq_eq_false rfl)
        have n78 : dA ≠ dH := hneL k_dA k_dH (Nat.ne_of_beq_eq_false rfl)
        have n79 : dA ≠ dZ := hneL k_dA k_dZ (Nat.ne_of_beq_eq_false rfl)
        have n80 : dA ≠ dT := hneL k_dA k_dT (Nat.ne_of_beq_eq_false rfl)
        have n81 : dA ≠ dR := hneL k_dA k_dR (Nat.ne_of_beq_eq_false rfl)
        have n82 : dA ≠ dL := hneL k_dA k_dL (Nat.ne_of_beq_eq_false rfl)
        have n83 : dA ≠ dS := hneL k_dA k_dS (Nat.ne_of_beq_eq_false rfl)
        have h72 : f59 dA = some (.inl (cI G, 12, .inl (jn ga0 ga1))) := (hEq.k k64) _ _ h16 (ninc nd_dA_dQ (ninc n83 (ninc n82 (ninc n81 (ninc n80 (ninc n79 (ninc n17 (ninc n78 (ninc n77 (ninc n76 (ninc n75 (ninc n74 (ninc n73 nin0)))))))))))))
        refine hp_V (ci := 5) (As := [.int 0, .int r60]) (rest := []) B0 hw hS (c_W5_comes hl G f59 mo dW dA dQ dM dS dL dR dT dZ dI dH dN dK dJ dU dO dF dP dE dX dY dG t2 (nI n) (nI a) (nI x) (nI cg) h65 hND (mA2 mg0 mg1) (jn ga0 ga1) h66 h72 hSA (B + 0) ⟨_, _, _, _, _, _, _, _, _, _, _, _, _, k_dQ_n62, k_dS_n62, k_dL_n62, k_dR_n62, k_dT_n62, k_dZ_n62, k_dI_n62, k_dH_n62, k_dN_n62, k_dK_n62, k_dJ_n62, k_dU_n62, k_dO_n62, hHd9_n62, (hMn.mono hMn9_n62 (by omega))⟩ (by omega) 0 r60 h61 (Or.inl rfl)) mV_X5_comes qM_X5_126 rfl h65 rfl rfl hl9.1 (Nat.le_of_ble_eq_true rfl) ⟨⟨Nat.le_of_ble_eq_true rfl, Nat.le_of_ble_eq_true rfl⟩, Nat.le_of_ble_eq_true rfl, Nat.le_of_ble_eq_true rfl⟩ dX5_loop_29 (fun E ce q9 f84 H locs hPX hw hS hce hcv hcl => ?_) (fun v f84 H locs hP hw hS => ?_)
        · exact hPX.elim
        · obtain ⟨ev9, h86, k87⟩ := hP
          have h86L := h86
          obtain ⟨gQ_n85, gS_n85, gL_n85, gR_n85, gT_n85, gZ_n85, gI_n85, gH_n85, gN_n85, gK_n85, gJ_n85, gU_n85, gO_n85, k_dQ_n85, k_dS_n85, k_dL_n85, k_dR_n85, k_dT_n85, k_dZ_n85, k_dI_n85, k_dH_n85, k_dN_n85, k_dK_n85, k_dJ_n85, k_dU_n85, k_dO_n85, hHd9_n85, hMn9_n85⟩ := id h86
          subst ev9
          refine W.eq (g2 := F0 m 32 ls []) rfl ?_
          refine lv_aload_n hx hb dX5_loop_32 rfl (lv_at hl9 1 rfl) ?_
          have h88 : f84 mo = some (.inr (5, [.int t2, .ref dW, .ref dA, .ref dQ, .ref dM, .ref dS, .ref dL, .ref dR, .ref dT, .ref dZ, .ref dI, .ref dH, .ref dN, .ref dK, .ref dJ, .ref dU, .ref dO, .int (nI n), .int (nI a), .ref dF, .ref dP, .ref dE, .ref dX, .ref dY, .int (nI x), .int (nI cg), .ref dG])) := (hEq.k k87) _ _ h65 (ninc (Ne.symm n19) (ninc (Ne.symm n23) (ninc (Ne.symm n26) (ninc (Ne.symm n29) (ninc (Ne.symm n32) (ninc (Ne.symm n35) (ninc (Ne.symm n7) (ninc (Ne.symm n38) (ninc (Ne.symm n41) (ninc (Ne.symm n44) (ninc (Ne.symm n48) (ninc (Ne.symm n52) (ninc (Ne.symm n56) nin0)))))))))))))
          refine hp_get B0 hw 5 rfl in_X5 h88 13 (by decide) qF_X5_47 rfl dX5_loop_33 ?_
          refine lv_iload_n hx hb dX5_loop_36 rfl (lv_at hl9 0 rfl) ?_
          refine hp_iald B0 hw k_dK_n85 h61 dX5_loop_37 ?_
          have n90 : dW ≠ mo := hne k_dW k_mo (Nat.ne_of_beq_eq_false rfl)
          have h89 : f1 dW = some (.inl (cI G, 12, .inl (jn gw0 gw1))) := (hEq.k k4) _ _ k_dW (ninc n90 nin0)
          have n92 : dW ≠ dI := hneL k_dW k_dI (Nat.ne_of_beq_eq_false rfl)
          have h91 : f8 dW = some (.inl (cI G, 12, .inl (jn gw0 gw1))) := by rw [ef8, va_up_ne _ _ n92]; exact h89
          have n94 : dW ≠ dO := hneL k_dW k_dO (Nat.ne_of_beq_eq_false rfl)
          have n95 : dW ≠ dU := hneL k_dW k_dU (Nat.ne_of_beq_eq_false rfl)
          have n96 : dW ≠ dJ := hneL k_dW k_dJ (Nat.ne_of_beq_eq_false rfl)
          have n97 : dW ≠ dK := hneL k_dW k_dK (Nat.ne_of_beq_eq_false rfl)
          have n98 : dW ≠ dN := hneL k_dW k_dN (Nat.ne_of_beq_eq_false rfl)
          have n99 : dW ≠ dH := hneL k_dW k_dH (Nat.ne_of_beq_eq_false rfl)
          have n100 : dW ≠ dZ := hneL k_dW k_dZ (Nat.ne_of_beq_eq_false rfl)
          have n101 : dW ≠ dT := hneL k_dW k_dT (Nat.ne_of_beq_eq_false rfl)
          have n102 : dW ≠ dR := hneL k_dW k_dR (Nat.ne_of_beq_eq_false rfl)
          have n103 : dW ≠ dL := hneL k_dW k_dL (Nat.ne_of_beq_eq_false rfl)
          have n104 : dW ≠ dS := hneL k_dW k_dS (Nat.ne_of_beq_eq_false rfl)
          have h93 : f59 dW = some (.inl (cI G, 12, .inl (jn gw0 gw1))) := (hEq.k k64) _ _ h91 (ninc nd_dW_dQ (ninc n104 (ninc n103 (ninc n102 (ninc n101 (ninc n100 (ninc n92 (ninc n99 (ninc n98 (ninc n97 (ninc n96 (ninc n95 (ninc n94 nin0)))))))))))))
          have h105 : f84 dW = some (.inl (cI G, 12, .inl (jn gw0 gw1))) := (hEq.k k87) _ _ h93 (ninc nd_dW_dQ (ninc n104 (ninc n103 (ninc n102 (ninc n101 (ninc n100 (ninc n92 (ninc n99 (ninc n98 (ninc n97 (ninc n96 (ninc n95 (ninc n94 nin0)))))))))))))
          have h106 : f84 dA = some (.inl (cI G, 12, .inl (jn ga0 ga1))) := (hEq.k k87) _ _ h72 (ninc nd_dA_dQ (ninc n83 (ninc n82 (ninc n81 (ninc n80 (ninc n79 (ninc n17 (ninc n78 (ninc n77 (ninc n76 (ninc n75 (ninc n74 (ninc n73 nin0)))))))))))))
          have h107 : f84 dM = some (.inl (cI G, 2, .inl (mA2 mg0 mg1))) := (hEq.k k87) _ _ h66 (ninc n71 (ninc nd_dM_dS (ninc nd_dM_dL (ninc nd_dM_dR (ninc nd_dM_dT (ninc nd_dM_dZ (ninc nd_dM_dI (ninc nd_dM_dH (ninc nd_dM_dN (ninc n70 (ninc n69 (ninc n68 (ninc n67 nin0)))))))))))))
          have n109 : dF ≠ mo := hne k_dF k_mo (Nat.ne_of_beq_eq_false rfl)
          have h108 : f1 dF = some (.inl (cI G, 61, .inl (nf sa))) := (hEq.k k4) _ _ k_dF (ninc n109 nin0)
          have n111 : dF ≠ dI := hneL k_dF k_dI (Nat.ne_of_beq_eq_false rfl)
          have h110 : f8 dF = some (.inl (cI G, 61, .inl (nf sa))) := by rw [ef8, va_up_ne _ _ n111]; exact h108
          have n113 : dF ≠ dO := hneL k_dF k_dO (Nat.ne_of_beq_eq_false rfl)
          have n114 : dF ≠ dU := hneL k_dF k_dU (Nat.ne_of_beq_eq_false rfl)
          have n115 : dF ≠ dJ := hneL k_dF k_dJ (Nat.ne_of_beq_eq_false rfl)
          have n116 : dF ≠ dK := hneL k_dF k_dK (Nat.ne_of_beq_eq_false rfl)
          have n117 : dF ≠ dN := hneL k_dF k_dN (Nat.ne_of_beq_eq_false rfl)
          have n118 : dF ≠ dH := hneL k_dF k_dH (Nat.ne_of_beq_eq_false rfl)
          have n119 : dF ≠ dZ := hneL k_dF k_dZ (Nat.ne_of_beq_eq_false rfl)
          have n120 : dF ≠ dT := hneL k_dF k_dT (Nat.ne_of_beq_eq_false rfl)
          have n121 : dF ≠ dR := hneL k_dF k_dR (Nat.ne_of_beq_eq_false rfl)
          have n122 : dF ≠ dL := hneL k_dF k_dL (Nat.ne_of_beq_eq_false rfl)
          have n123 : dF ≠ dS := hneL k_dF k_dS (Nat.ne_of_beq_eq_false rfl)
          have n124 : dF ≠ dQ := hneL k_dF k_dQ (Nat.ne_of_beq_eq_false rfl)
          have h112 : f59 dF = some (.inl (cI G, 61, .inl (nf sa))) := (hEq.k k64) _ _ h110 (ninc n124 (ninc n123 (ninc n122 (ninc n121 (ninc n120 (ninc n119 (ninc n111 (ninc n118 (ninc n117 (ninc n116 (ninc n115 (ninc n114 (ninc n113 nin0)))))))))))))
          have h125 : f84 dF = some (.inl (cI G, 61, .inl (nf sa))) := (hEq.k k87) _ _ h112 (ninc n124 (ninc n123 (ninc n122 (ninc n121 (ninc n120 (ninc n119 (ninc n111 (ninc n118 (ninc n117 (ninc n116 (ninc n115 (ninc n114 (ninc n113 nin0)))))))))))))
          have n127 : dP ≠ mo := hne k_dP k_mo (Nat.ne_of_beq_eq_false rfl)
          have h126 : f1 dP = some (.inl (cI G, 240, .inl (nf pk))) := (hEq.k k4) _ _ k_dP (ninc n127 nin0)
          have n129 : dP ≠ dI := hneL k_dP k_dI (Nat.ne_of_beq_eq_false rfl)
          have h128 : f8 dP = some (.inl (cI G, 240, .inl (nf pk))) := by rw [ef8, va_up_ne _ _ n129]; exact h126
          have n131 : dP ≠ dO := hneL k_dP k_dO (Nat.ne_of_beq_eq_false rfl)
          have n132 : dP ≠ dU := hneL k_dP k_dU (Nat.ne_of_beq_eq_false rfl)
          have n133 : dP ≠ dJ := hneL k_dP k_dJ (Nat.ne_of_beq_eq_false rfl)
          have n134 : dP ≠ dK := hneL k_dP k_dK (Nat.ne_of_beq_eq_false rfl)
          have n135 : dP ≠ dN := hneL k_dP k_dN (Nat.ne_of_beq_eq_false rfl)
          have n136 : dP ≠ dH := hneL k_dP k_dH (Nat.ne_of_beq_eq_false rfl)
          have n137 : dP ≠ dZ := hneL k_dP k_dZ (Nat.ne_of_beq_eq_false rfl)
          have n138 : dP ≠ dT := hneL k_dP k_dT (Nat.ne_of_beq_eq_false rfl)
          have n139 : dP ≠ dR := hneL k_dP k_dR (Nat.ne_of_beq_eq_false rfl)
          have n140 : dP ≠ dL := hneL k_dP k_dL (Nat.ne_of_beq_eq_false rfl)
          have n141 : dP ≠ dS := hneL k_dP k_dS (Nat.ne_of_beq_eq_false rfl)
          have n142 : dP ≠ dQ := hneL k_dP k_dQ (Nat.ne_of_beq_eq_false rfl)
          have h130 : f59 dP = some (.inl (cI G, 240, .inl (nf pk))) := (hEq.k k64) _ _ h128 (ninc n142 (ninc n141 (ninc n140 (ninc n139 (ninc n138 (ninc n137 (ninc n129 (ninc n136 (ninc n135 (ninc n134 (ninc n133 (ninc n132 (ninc n131 nin0)))))))))))))
          have h143 : f84 dP = some (.inl (cI G, 240, .inl (nf pk))) := (hEq.k k87) _ _ h130 (ninc n142 (ninc n141 (ninc n140 (ninc n139 (ninc n138 (ninc n137 (ninc n129 (ninc n136 (ninc n135 (ninc n134 (ninc n133 (ninc n132 (ninc n131 nin0)))))))))))))
          have n145 : dE ≠ mo := hne k_dE k_mo (Nat.ne_of_beq_eq_false rfl)
          have h144 : f1 dE = some (.inl (cZ G, 240, .inl gh)) := (hEq.k k4) _ _ k_dE (ninc n145 nin0)
          have n147 : dE ≠ dI := hneL k_dE k_dI (Nat.ne_of_beq_eq_false rfl)
          have h146 : f8 dE = some (.inl (cZ G, 240, .inl gh)) := by rw [ef8, va_up_ne _ _ n147]; exact h144
          have n149 : dE ≠ dO := hneL k_dE k_dO (Nat.ne_of_beq_eq_false rfl)
          have n150 : dE ≠ dU := hneL k_dE k_dU (Nat.ne_of_beq_eq_false rfl)
          have n151 : dE ≠ dJ := hneL k_dE k_dJ (Nat.ne_of_beq_eq_false rfl)
          have n152 : dE ≠ dK := hneL k_dE k_dK (Nat.ne_of_beq_eq_false rfl)
          have n153 : dE ≠ dN := hneL k_dE k_dN (Nat.ne_of_beq_eq_false rfl)
          have n154 : dE ≠ dH := hneL k_dE k_dH (Nat.ne_of_beq_eq_false rfl)
          have n155 : dE ≠ dZ := hneL k_dE k_dZ (Nat.ne_of_beq_eq_false rfl)
          have n156 : dE ≠ dT := hneL k_dE k_dT (Nat.ne_of_beq_eq_false rfl)
          have n157 : dE ≠ dR := hneL k_dE k_dR (Nat.ne_of_beq_eq_false rfl)
          have n158 : dE ≠ dL := hneL k_dE k_dL (Nat.ne_of_beq_eq_false rfl)
          have n159 : dE ≠ dS := hneL k_dE k_dS (Nat.ne_of_beq_eq_false rfl)
          have n160 : dE ≠ dQ := hneL k_dE k_dQ (Nat.ne_of_beq_eq_false rfl)
          have h148 : f59 dE = some (.inl (cZ G, 240, .inl gh)) := (hEq.k k64) _ _ h146 (ninc n160 (ninc n159 (ninc n158 (ninc n157 (ninc n156 (ninc n155 (ninc n147 (ninc n154 (ninc n153 (ninc n152 (ninc n151 (ninc n150 (ninc n149 nin0)))))))))))))
          have h161 : f84 dE = some (.inl (cZ G, 240, .inl gh)) := (hEq.k k87) _ _ h148 (ninc n160 (ninc n159 (ninc n158 (ninc n157 (ninc n156 (ninc n155 (ninc n147 (ninc n154 (ninc n153 (ninc n152 (ninc n151 (ninc n150 (ninc n149 nin0)))))))))))))
          have n163 : dX ≠ mo := hne k_dX k_mo (Nat.ne_of_beq_eq_false rfl)
          have h162 : f1 dX = some (.inl (cI G, 3, .inl (nf fl))) := (hEq.k k4) _ _ k_dX (ninc n163 nin0)
          have n165 : dX ≠ dI := hneL k_dX k_dI (Nat.ne_of_beq_eq_false rfl)
          have h164 : f8 dX = some (.inl (cI G, 3, .inl (nf fl))) := by rw [ef8, va_up_ne _ _ n165]; exact h162
          have n167 : dX ≠ dO := hneL k_dX k_dO (Nat.ne_of_beq_eq_false rfl)
          have n168 : dX ≠ dU := hneL k_dX k_dU (Nat.ne_of_beq_eq_false rfl)
          have n169 : dX ≠ dJ := hneL k_dX k_dJ (Nat.ne_of_beq_eq_false rfl)
          have n170 : dX ≠ dK := hneL k_dX k_dK (Nat.ne_of_beq_eq_false rfl)
          have n171 : dX ≠ dN := hneL k_dX k_dN (Nat.ne_of_beq_eq_false rfl)
          have n172 : dX ≠ dH := hneL k_dX k_dH (Nat.ne_of_beq_eq_false rfl)
          have n173 : dX ≠ dZ := hneL k_dX k_dZ (Nat.ne_of_beq_eq_false rfl)
          have n174 : dX ≠ dT := hneL k_dX k_dT (Nat.ne_of_beq_eq_false rfl)
          have n175 : dX ≠ dR := hneL k_dX k_dR (Nat.ne_of_beq_eq_false rfl)
          have n176 : dX ≠ dL := hneL k_dX k_dL (Nat.ne_of_beq_eq_false rfl)
          have n177 : dX ≠ dS := hneL k_dX k_dS (Nat.ne_of_beq_eq_false rfl)
          have n178 : dX ≠ dQ := hneL k_dX k_dQ (Nat.ne_of_beq_eq_false rfl)
          have h166 : f59 dX = some (.inl (cI G, 3, .inl (nf fl))) := (hEq.k k64) _ _ h164 (ninc n178 (ninc n177 (ninc n176 (ninc n175 (ninc n174 (ninc n173 (ninc n165 (ninc n172 (ninc n171 (ninc n170 (ninc n169 (ninc n168 (ninc n167 nin0)))))))))))))
          have h179 : f84 dX = some (.inl (cI G, 3, .inl (nf fl))) := (hEq.k k87) _ _ h166 (ninc n178 (ninc n177 (ninc n176 (ninc n175 (ninc n174 (ninc n173 (ninc n165 (ninc n172 (ninc n171 (ninc n170 (ninc n169 (ninc n168 (ninc n167 nin0)))))))))))))
          have n181 : dY ≠ mo := hne k_dY k_mo (Nat.ne_of_beq_eq_false rfl)
          have h180 : f1 dY = some (.inl (cI G, 3, .inl gl)) := (hEq.k k4) _ _ k_dY (ninc n181 nin0)
          have n183 : dY ≠ dI := hneL k_dY k_dI (Nat.ne_of_beq_eq_false rfl)
          have h182 : f8 dY = some (.inl (cI G, 3, .inl gl)) := by rw [ef8, va_up_ne _ _ n183]; exact h180
          have n185 : dY ≠ dO := hneL k_dY k_dO (Nat.ne_of_beq_eq_false rfl)
          have n186 : dY ≠ dU := hneL k_dY k_dU (Nat.ne_of_beq_eq_false rfl)
          have n187 : dY ≠ dJ := hneL k_dY k_dJ (Nat.ne_of_beq_eq_false rfl)
          have n188 : dY ≠ dK := hneL k_dY k_dK (Nat.ne_of_beq_eq_false rfl)
          have n189 : dY ≠ dN := hneL k_dY k_dN (Nat.ne_of_beq_eq_false rfl)
          have n190 : dY ≠ dH := hneL k_dY k_dH (Nat.ne_of_beq_eq_false rfl)
          have n191 : dY ≠ dZ := hneL k_dY k_dZ (Nat.ne_of_beq_eq_false rfl)
          have n192 : dY ≠ dT := hneL k_dY k_dT (Nat.ne_of_beq_eq_false rfl)
          have n193 : dY ≠ dR := hneL k_dY k_dR (Nat.ne_of_beq_eq_false rfl)
          have n194 : dY ≠ dL := hneL k_dY k_dL (Nat.ne_of_beq_eq_false rfl)
          have n195 : dY ≠ dS := hneL k_dY k_dS (Nat.ne_of_beq_eq_false rfl)
          have n196 : dY ≠ dQ := hneL k_dY k_dQ (Nat.ne_of_beq_eq_false rfl)
          have h184 : f59 dY = some (.inl (cI G, 3, .inl gl)) := (hEq.k k64) _ _ h182 (ninc n196 (ninc n195 (ninc n194 (ninc n193 (ninc n192 (ninc n191 (ninc n183 (ninc n190 (ninc n189 (ninc n188 (ninc n187 (ninc n186 (ninc n185 nin0)))))))))))))
          have h197 : f84 dY = some (.inl (cI G, 3, .inl gl)) := (hEq.k k87) _ _ h184 (ninc n196 (ninc n195 (ninc n194 (ninc n193 (ninc n192 (ninc n191 (ninc n183 (ninc n190 (ninc n189 (ninc n188 (ninc n187 (ninc n186 (ninc n185 nin0)))))))))))))
          have n199 : dG ≠ mo := hne k_dG k_mo (Nat.ne_of_beq_eq_false rfl)
          have h198 : f1 dG = some (.inl (cI G, 60, .inl (nf gv))) := (hEq.k k4) _ _ k_dG (ninc n199 nin0)
          have n201 : dG ≠ dI := hneL k_dG k_dI (Nat.ne_of_beq_eq_false rfl)
          have h200 : f8 dG = some (.inl (cI G, 60, .inl (nf gv))) := by rw [ef8, va_up_ne _ _ n201]; exact h198
          have n203 : dG ≠ dO := hneL k_dG k_dO (Nat.ne_of_beq_eq_false rfl)
          have n204 : dG ≠ dU := hneL k_dG k_dU (Nat.ne_of_beq_eq_false rfl)
          have n205 : dG ≠ dJ := hneL k_dG k_dJ (Nat.ne_of_beq_eq_false rfl)
          have n206 : dG ≠ dK := hneL k_dG k_dK (Nat.ne_of_beq_eq_false rfl)
          have n207 : dG ≠ dN := hneL k_dG k_dN (Nat.ne_of_beq_eq_false rfl)
          have n208 : dG ≠ dH := hneL k_dG k_dH (Nat.ne_of_beq_eq_false rfl)
          have n209 : dG ≠ dZ := hneL k_dG k_dZ (Nat.ne_of_beq_eq_false rfl)
          have n210 : dG ≠ dT := hneL k_dG k_dT (Nat.ne_of_beq_eq_false rfl)
          have n211 : dG ≠ dR := hneL k_dG k_dR (Nat.ne_of_beq_eq_false rfl)
          have n212 : dG ≠ dL := hneL k_dG k_dL (Nat.ne_of_beq_eq_false rfl)
          have n213 : dG ≠ dS := hneL k_dG k_dS (Nat.ne_of_beq_eq_false rfl)
          have n214 : dG ≠ dQ := hneL k_dG k_dQ (Nat.ne_of_beq_eq_false rfl)
          have h202 : f59 dG = some (.inl (cI G, 60, .inl (nf gv))) := (hEq.k k64) _ _ h200 (ninc n214 (ninc n213 (ninc n212 (ninc n211 (ninc n210 (ninc n209 (ninc n201 (ninc n208 (ninc n207 (ninc n206 (ninc n205 (ninc n204 (ninc n203 nin0)))))))))))))
          have h215 : f84 dG = some (.inl (cI G, 60, .inl (nf gv))) := (hEq.k k87) _ _ h202 (ninc n214 (ninc n213 (ninc n212 (ninc n211 (ninc n210 (ninc n209 (ninc n201 (ninc n208 (ninc n207 (ninc n206 (ninc n205 (ninc n204 (ninc n203 nin0)))))))))))))
          exact hp_iret (v := (gK_n85 (r60 : Int32).toNatClampNeg)) B0 hw hS hr ⟨Nat.le_of_ble_eq_true rfl, Nat.le_of_ble_eq_true rfl⟩ dX5_loop_38 (⟨⟨_, rfl⟩, ⟨_, ⟨h88, hND, ⟨_, _, _, _, _, _, _, _, _, _, _, _, _, k_dQ_n85, k_dS_n85, k_dL_n85, k_dR_n85, k_dT_n85, k_dZ_n85, k_dI_n85, k_dH_n85, k_dN_n85, k_dK_n85, k_dJ_n85, k_dU_n85, k_dO_n85, hHd9_n85, (hMn.mono hMn9_n85 (by omega))⟩, h105, h106, h107, h125, h143, h161, h179, h197, h215, hSA, hB9, hfl9⟩⟩, ((show hEq [mo, dW, dA, dQ, dM, dS, dL, dR, dT, dZ, dI, dH, dN, dK, dJ, dU, dO, dF, dP, dE, dX, dY, dG] f f1 from (hEq.mono k4 (sub_cons List.mem_cons_self sub_nil))).tr ((show hEq [mo, dW, dA, dQ, dM, dS, dL, dR, dT, dZ, dI, dH, dN, dK, dJ, dU, dO, dF, dP, dE, dX, dY, dG] f1 f8 from (by rw [ef8]; exact hEq.up (List.mem_cons_of_mem _ (List.mem_cons_of_mem _ (List.mem_cons_of_mem _ (List.mem_cons_of_mem _ (List.mem_cons_of_mem _ (List.mem_cons_of_mem _ (List.mem_cons_of_mem _ (List.mem_cons_of_mem _ (List.mem_cons_of_mem _ (List.mem_cons_of_mem _ List.mem_cons_self)))))))))))).tr ((show hEq [mo, dW, dA, dQ, dM, dS, dL, dR, dT, dZ, dI, dH, dN, dK, dJ, dU, dO, dF, dP, dE, dX, dY, dG] f8 f59 from (hEq.mono k64 sub13)).tr (show hEq [mo, dW, dA, dQ, dM, dS, dL, dR, dT, dZ, dI, dH, dN, dK, dJ, dU, dO, dF, dP, dE, dX, dY, dG] f59 f84 from (hEq.mono k87 sub13)))))⟩)
    · subst ev9
      subst b9
      refine W.eq (g2 := F0 m 5 ls [.int 1]) rfl ?_
      refine lv_if_ne (tgt := 10) hx hb dX5_loop_5 (by decide) (fun _ => ?_) (fun c9 => absurd c9 (by decide))
      refine lv_aload_n hx hb dX5_loop_10 rfl (lv_at hl9 0 rfl) ?_
      refine hp_get B0 hw 5 rfl in_X5 h3 10 (by decide) qF_X5_38 rfl dX5_loop_11 ?_
      refine lv_iload_n hx hb dX5_loop_14 rfl (lv_at hl9 1 rfl) ?_
      refine lv_dup2_11 hx hb dX5_loop_15 rfl rfl ?_
      have n217 : dI ≠ mo := hne k_dI k_mo (Nat.ne_of_beq_eq_false rfl)
      have h216 : f1 dI = some (.inl (cI G, 2, .inl gI)) := (hEq.k k4) _ _ k_dI (ninc n217 nin0)
      refine hp_iald B0 hw h216 (by unfold vp_in; decide) dX5_loop_16 ?_
      refine lv_iconst (v := 1) hx hb dX5_loop_17 (by decide) ?_
      refine lv_iadd hx hb dX5_loop_18 ?_
      refine hp_iast B0 hw hS h216 (by unfold vp_in; decide) dX5_loop_19 (fun H locs f218 ef218 hw hS => ?_)
      have h219 : f218 dI = some (.inl (cI G, 2, .inl (upd gI (1 : Int32).toNatClampNeg ((gI (1 : Int32).toNatClampNeg) + 1)))) := by rw [ef218, va_up_self]
      refine lv_aload_n hx hb dX5_loop_20 rfl (lv_at hl9 0 rfl) ?_
      refine lv_iload_n hx hb dX5_loop_21 rfl (lv_at hl9 1 rfl) ?_
      have h220 : f218 mo = some (.inr (5, [.int t2, .ref dW, .ref dA, .ref dQ, .ref dM, .ref dS, .ref dL, .ref dR, .ref dT, .ref dZ, .ref dI, .ref dH, .ref dN, .ref dK, .ref dJ, .ref dU, .ref dO, .int (nI n), .int (nI a), .ref dF, .ref dP, .ref dE, .ref dX, .ref dY, .int (nI x), .int (nI cg), .ref dG])) := by rw [ef218, va_up_ne _ _ (Ne.symm n217)]; exact h3
      have n222 : dM ≠ mo := hne k_dM k_mo (Nat.ne_of_beq_eq_false rfl)
      have h221 : f1 dM = some (.inl (cI G, 2, .inl (mA2 mg0 mg1))) := (hEq.k k4) _ _ k_dM (ninc n222 nin0)
      have h223 : f218 dM = some (.inl (cI G, 2, .inl (mA2 mg0 mg1))) := by rw [ef218, va_up_ne _ _ nd_dM_dI]; exact h221
      have n225 : dA ≠ mo := hne k_dA k_mo (Nat.ne_of_beq_eq_false rfl)
      have h224 : f1 dA = some (.inl (cI G, 12, .inl (jn ga0 ga1))) := (hEq.k k4) _ _ k_dA (ninc n225 nin0)
      have n227 : dA ≠ dI := hneL k_dA k_dI (Nat.ne_of_beq_eq_false rfl)
      have h226 : f218 dA = some (.inl (cI G, 12, .inl (jn ga0 ga1))) := by rw [ef218, va_up_ne _ _ n227]; exact h224
      have n229 : dQ ≠ mo := hne k_dQ k_mo (Nat.ne_of_beq_eq_false rfl)
      have h228 : f1 dQ = some (.inl (cI G, 12, .inl gQ)) := (hEq.k k4) _ _ k_dQ (ninc n229 nin0)
      have n231 : dQ ≠ dI := hneL k_dQ k_dI (Nat.ne_of_beq_eq_false rfl)
      have h230 : f218 dQ = some (.inl (cI G, 12, .inl gQ)) := by rw [ef218, va_up_ne _ _ n231]; exact h228
      have n233 : dS ≠ mo := hne k_dS k_mo (Nat.ne_of_beq_eq_false rfl)
      have h232 : f1 dS = some (.inl (cI G, 2, .inl gS)) := (hEq.k k4) _ _ k_dS (ninc n233 nin0)
      have h234 : f218 dS = some (.inl (cI G, 2, .inl gS)) := by rw [ef218, va_up_ne _ _ nd_dS_dI]; exact h232
      have n236 : dL ≠ mo := hne k_dL k_mo (Nat.ne_of_beq_eq_false rfl)
      have h235 : f1 dL = some (.inl (cI G, 2, .inl gL)) := (hEq.k k4) _ _ k_dL (ninc n236 nin0)
      have h237 : f218 dL = some (.inl (cI G, 2, .inl gL)) := by rw [ef218, va_up_ne _ _ nd_dL_dI]; exact h235
      have n239 : dR ≠ mo := hne k_dR k_mo (Nat.ne_of_beq_eq_false rfl)
      have h238 : f1 dR = some (.inl (cI G, 2, .inl gR)) := (hEq.k k4) _ _ k_dR (ninc n239 nin0)
      have h240 : f218 dR = some (.inl (cI G, 2, .inl gR)) := by rw [ef218, va_up_ne _ _ nd_dR_dI]; exact h238
      have n242 : dT ≠ mo := hne k_dT k_mo (Nat.ne_of_beq_eq_false rfl)
      have h241 : f1 dT = some (.inl (cI G, 2, .inl gT)) := (hEq.k k4) _ _ k_dT (ninc n242 nin0)
      have h243 : f218 dT = some (.inl (cI G, 2, .inl gT)) := by rw [ef218, va_up_ne _ _ nd_dT_dI]; exact h241
      have n245 : dZ ≠ mo := hne k_dZ k_mo (Nat.ne_of_beq_eq_false rfl)
      have h244 : f1 dZ = some (.inl (cZ G, 2, .inl gZ)) := (hEq.k k4) _ _ k_dZ (ninc n245 nin0)
      have h246 : f218 dZ = some (.inl (cZ G, 2, .inl gZ)) := by rw [ef218, va_up_ne _ _ nd_dZ_dI]; exact h244
      have n248 : dH ≠ mo := hne k_dH k_mo (Nat.ne_of_beq_eq_false rfl)
      have h247 : f1 dH = some (.inl (cI G, 2, .inl gH)) := (hEq.k k4) _ _ k_dH (ninc n248 nin0)
      have h249 : f218 dH = some (.inl (cI G, 2, .inl gH)) := by rw [ef218, va_up_ne _ _ (Ne.symm nd_dI_dH)]; exact h247
      have n251 : dN ≠ mo := hne k_dN k_mo (Nat.ne_of_beq_eq_false rfl)
      have h250 : f1 dN = some (.inl (cI G, 2, .inl gN)) := (hEq.k k4) _ _ k_dN (ninc n251 nin0)
      have h252 : f218 dN = some (.inl (cI G, 2, .inl gN)) := by rw [ef218, va_up_ne _ _ (Ne.symm nd_dI_dN)]; exact h250
      have n254 : dK ≠ mo := hne k_dK k_mo (Nat.ne_of_beq_eq_false rfl)
      have h253 : f1 dK = some (.inl (cI G, 2048, .inl gK)) := (hEq.k k4) _ _ k_dK (ninc n254 nin0)
      have n256 : dK ≠ dI := hneL k_dK k_dI (Nat.ne_of_beq_eq_false rfl)
      have h255 : f218 dK = some (.inl (cI G, 2048, .inl gK)) := by rw [ef218, va_up_ne _ _ n256]; exact h253
      have n258 : dJ ≠ mo := hne k_dJ k_mo (Nat.ne_of_beq_eq_false rfl)
      have h257 : f1 dJ = some (.inl (cI G, 2048, .inl gJ)) := (hEq.k k4) _ _ k_dJ (ninc n258 nin0)
      have n260 : dJ ≠ dI := hneL k_dJ k_dI (Nat.ne_of_beq_eq_false rfl)
      have h259 : f218 dJ = some (.inl (cI G, 2048, .inl gJ)) := by rw [ef218, va_up_ne _ _ n260]; exact h257
      have n262 : dU ≠ mo := hne k_dU k_mo (Nat.ne_of_beq_eq_false rfl)
      have h261 : f1 dU = some (.inl (cI G, 2048, .inl gU)) := (hEq.k k4) _ _ k_dU (ninc n262 nin0)
      have n264 : dU ≠ dI := hneL k_dU k_dI (Nat.ne_of_beq_eq_false rfl)
      have h263 : f218 dU = some (.inl (cI G, 2048, .inl gU)) := by rw [ef218, va_up_ne _ _ n264]; exact h261
      have n266 : dO ≠ mo := hne k_dO k_mo (Nat.ne_of_beq_eq_false rfl)
      have h265 : f1 dO = some (.inl (cI G, 2048, .inl gO)) := (hEq.k k4) _ _ k_dO (ninc n266 nin0)
      have n268 : dO ≠ dI := hneL k_dO k_dI (Nat.ne_of_beq_eq_false rfl)
      have h267 : f218 dO = some (.inl (cI G, 2048, .inl gO)) := by rw [ef218, va_up_ne _ _ n268]; exact h265
      refine hp_V (ci := 5) (As := [.int 1]) (rest := []) B0 hw hS (c_W5_takes hl G f218 mo dW dA dQ dM dS dL dR dT dZ dI dH dN dK dJ dU dO dF dP dE dX dY dG t2 (nI n) (nI a) (nI x) (nI cg) h220 hND (mA2 mg0 mg1) (jn ga0 ga1) h223 h226 hSA B ⟨_, _, _, _, _, _, _, _, _, _, _, _, _, h230, h234, h237, h240, h243, h246, h219, h249, h252, h255, h259, h263, h267, hHd9, (hMn.mono hMn9 (by omega))⟩ 1 (fun g9 h9 => by have h8 := h252.symm.trans h9; cases h8; exact h5) (Or.inr rfl)) mV_X5_takes qM_X5_123 rfl h220 rfl rfl hl9.1 (Nat.le_of_ble_eq_true rfl) ⟨⟨Nat.le_of_ble_eq_true rfl, Nat.le_of_ble_eq_true rfl⟩, Nat.le_of_ble_eq_true rfl, Nat.le_of_ble_eq_true rfl⟩ dX5_loop_22 (fun E ce q9 f269 H locs hPX hw hS hce hcv hcl => ?_) (fun v f269 H locs hP hw hS => ?_)
      · exact hPX.elim
      · obtain ⟨⟨r270, ev9, h271⟩, h273, k274⟩ := hP
        have h273L := h273
        obtain ⟨gQ_n272, gS_n272, gL_n272, gR_n272, gT_n272, gZ_n272, gI_n272, gH_n272, gN_n272, gK_n272, gJ_n272, gU_n272, gO_n272, k_dQ_n272, k_dS_n272, k_dL_n272, k_dR_n272, k_dT_n272, k_dZ_n272, k_dI_n272, k_dH_n272, k_dN_n272, k_dK_n272, k_dJ_n272, k_dU_n272, k_dO_n272, hHd9_n272, hMn9_n272⟩ := id h273
        subst ev9
        refine W.eq (g2 := F0 m 25 ls [.int r270]) rfl ?_
        refine lv_istore_n (lv' := [(2, .int r270), (0, .ref mo), (1, .int 1)]) hx hb dX5_loop_25 rfl hl9 (by decide) rfl (fun ls hl9 => ?_)
        refine lv_aload_n hx hb dX5_loop_26 rfl (lv_at hl9 1 rfl) ?_
        refine lv_iload_n hx hb dX5_loop_27 rfl (lv_at hl9 2 rfl) ?_
        refine lv_iload_n hx hb dX5_loop_28 rfl (lv_at hl9 0 rfl) ?_
        have h275 : f269 mo = some (.inr (5, [.int t2, .ref dW, .ref dA, .ref dQ, .ref dM, .ref dS, .ref dL, .ref dR, .ref dT, .ref dZ, .ref dI, .ref dH, .ref dN, .ref dK, .ref dJ, .ref dU, .ref dO, .int (nI n), .int (nI a), .ref dF, .ref dP, .ref dE, .ref dX, .ref dY, .int (nI x), .int (nI cg), .ref dG])) := (hEq.k k274) _ _ h220 (ninc (Ne.symm n229) (ninc (Ne.symm n233) (ninc (Ne.symm n236) (ninc (Ne.symm n239) (ninc (Ne.symm n242) (ninc (Ne.symm n245) (ninc (Ne.symm n217) (ninc (Ne.symm n248) (ninc (Ne.symm n251) (ninc (Ne.symm n254) (ninc (Ne.symm n258) (ninc (Ne.symm n262) (ninc (Ne.symm n266) nin0)))))))))))))
        have n277 : dM ≠ dO := hneL k_dM k_dO (Nat.ne_of_beq_eq_false rfl)
        have n278 : dM ≠ dU := hneL k_dM k_dU (Nat.ne_of_beq_eq_false rfl)
        have n279 : dM ≠ dJ := hneL k_dM k_dJ (Nat.ne_of_beq_eq_false rfl)
        have n280 : dM ≠ dK := hneL k_dM k_dK (Nat.ne_of_beq_eq_false rfl)
        have n281 : dM ≠ dQ := hneL k_dM k_dQ (Nat.ne_of_beq_eq_false rfl)
        have h276 : f269 dM = some (.inl (cI G, 2, .inl (mA2 mg0 mg1))) := (hEq.k k274) _ _ h223 (ninc n281 (ninc nd_dM_dS (ninc nd_dM_dL (ninc nd_dM_dR (ninc nd_dM_dT (ninc nd_dM_dZ (ninc nd_dM_dI (ninc nd_dM_dH (ninc nd_dM_dN (ninc n280 (ninc n279 (ninc n278 (ninc n277 nin0)))))))))))))
        have n283 : dA ≠ dO := hneL k_dA k_dO (Nat.ne_of_beq_eq_false rfl)
        have n284 : dA ≠ dU := hneL k_dA k_dU (Nat.ne_of_beq_eq_false rfl)
        have n285 : dA ≠ dJ := hneL k_dA k_dJ (Nat.ne_of_beq_eq_false rfl)
        have n286 : dA ≠ dK := hneL k_dA k_dK (Nat.ne_of_beq_eq_false rfl)
        have n287 : dA ≠ dN := hneL k_dA k_dN (Nat.ne_of_beq_eq_false rfl)
        have n288 : dA ≠ dH := hneL k_dA k_dH (Nat.ne_of_beq_eq_false rfl)
        have n289 : dA ≠ dZ := hneL k_dA k_dZ (Nat.ne_of_beq_eq_false rfl)
        have n290 : dA ≠ dT := hneL k_dA k_dT (Nat.ne_of_beq_eq_false rfl)
        have n291 : dA ≠ dR := hneL k_dA k_dR (Nat.ne_of_beq_eq_false rfl)
        have n292 : dA ≠ dL := hneL k_dA k_dL (Nat.ne_of_beq_eq_false rfl)
        have n293 : dA ≠ dS := hneL k_dA k_dS (Nat.ne_of_beq_eq_false rfl)
        have h282 : f269 dA = some (.inl (cI G, 12, .inl (jn ga0 ga1))) := (hEq.k k274) _ _ h226 (ninc nd_dA_dQ (ninc n293 (ninc n292 (ninc n291 (ninc n290 (ninc n289 (ninc n227 (ninc n288 (ninc n287 (ninc n286 (ninc n285 (ninc n284 (ninc n283 nin0)))))))))))))
        refine hp_V (ci := 5) (As := [.int 1, .int r270]) (rest := []) B0 hw hS (c_W5_comes hl G f269 mo dW dA dQ dM dS dL dR dT dZ dI dH dN dK dJ dU dO dF dP dE dX dY dG t2 (nI n) (nI a) (nI x) (nI cg) h275 hND (mA2 mg0 mg1) (jn ga0 ga1) h276 h282 hSA (B + 0) ⟨_, _, _, _, _, _, _, _, _, _, _, _, _, k_dQ_n272, k_dS_n272, k_dL_n272, k_dR_n272, k_dT_n272, k_dZ_n272, k_dI_n272, k_dH_n272, k_dN_n272, k_dK_n272, k_dJ_n272, k_dU_n272, k_dO_n272, hHd9_n272, (hMn.mono hMn9_n272 (by omega))⟩ (by omega) 1 r270 h271 (Or.inr rfl)) mV_X5_comes qM_X5_126 rfl h275 rfl rfl hl9.1 (Nat.le_of_ble_eq_true rfl) ⟨⟨Nat.le_of_ble_eq_true rfl, Nat.le_of_ble_eq_true rfl⟩, Nat.le_of_ble_eq_true rfl, Nat.le_of_ble_eq_true rfl⟩ dX5_loop_29 (fun E ce q9 f294 H locs hPX hw hS hce hcv hcl => ?_) (fun v f294 H locs hP hw hS => ?_)
        · exact hPX.elim
        · obtain ⟨ev9, h296, k297⟩ := hP
          have h296L := h296
          obtain ⟨gQ_n295, gS_n295, gL_n295, gR_n295, gT_n295, gZ_n295, gI_n295, gH_n295, gN_n295, gK_n295, gJ_n295, gU_n295, gO_n295, k_dQ_n295, k_dS_n295, k_dL_n295, k_dR_n295, k_dT_n295, k_dZ_n295, k_dI_n295, k_dH_n295, k_dN_n295, k_dK_n295, k_dJ_n295, k_dU_n295, k_dO_n295, hHd9_n295, hMn9_n295⟩ := id h296
          subst ev9
          refine W.eq (g2 := F0 m 32 ls []) rfl ?_
          refine lv_aload_n hx hb dX5_loop_32 rfl (lv_at hl9 1 rfl) ?_
          have h298 : f294 mo = some (.inr (5, [.int t2, .ref dW, .ref dA, .ref dQ, .ref dM, .ref dS, .ref dL, .ref dR, .ref dT, .ref dZ, .ref dI, .ref dH, .ref dN, .ref dK, .ref dJ, .ref dU, .ref dO, .int (nI n), .int (nI a), .ref dF, .ref dP, .ref dE, .ref dX, .ref dY, .int (nI x), .int (nI cg), .ref dG])) := (hEq.k k297) _ _ h275 (ninc (Ne.symm n229) (ninc (Ne.symm n233) (ninc (Ne.symm n236) (ninc (Ne.symm n239) (ninc (Ne.symm n242) (ninc (Ne.symm n245) (ninc (Ne.symm n217) (ninc (Ne.symm n248) (ninc (Ne.symm n251) (ninc (Ne.symm n254) (ninc (Ne.symm n258) (ninc (Ne.symm n262) (ninc (Ne.symm n266) nin0)))))))))))))
          refine hp_get B0 hw 5 rfl in_X5 h298 13 (by decide) qF_X5_47 rfl dX5_loop_33 ?_
          refine lv_iload_n hx hb dX5_loop_36 rfl (lv_at hl9 0 rfl) ?_
          refine hp_iald B0 hw k_dK_n295 h271 dX5_loop_37 ?_
          have n300 : dW ≠ mo := hne k_dW k_mo (Nat.ne_of_beq_eq_false rfl)
          have h299 : f1 dW = some (.inl (cI G, 12, .inl (jn gw0 gw1))) := (hEq.k k4) _ _ k_dW (ninc n300 nin0)
          have n302 : dW ≠ dI := hneL k_dW k_dI (Nat.ne_of_beq_eq_false rfl)
          have h301 : f218 dW = some (.inl (cI G, 12, .inl (jn gw0 gw1))) := by rw [ef218, va_up_ne _ _ n302]; exact h299
          have n304 : dW ≠ dO := hneL k_dW k_dO (Nat.ne_of_beq_eq_false rfl)
          have n305 : dW ≠ dU := hneL k_dW k_dU (Nat.ne_of_beq_eq_false rfl)
          have n306 : dW ≠ dJ := hneL k_dW k_dJ (Nat.ne_of_beq_eq_false rfl)
          have n307 : dW ≠ dK := hneL k_dW k_dK (Nat.ne_of_beq_eq_false rfl)
          have n308 : dW ≠ dN := hneL k_dW k_dN (Nat.ne_of_beq_eq_false rfl)
          have n309 : dW ≠ dH := hneL k_dW k_dH (Nat.ne_of_beq_eq_false rfl)
          have n310 : dW ≠ dZ := hneL k_dW k_dZ (Nat.ne_of_beq_eq_false rfl)
          have n311 : dW ≠ dT := hneL k_dW k_dT (Nat.ne_of_beq_eq_false rfl)
          have n312 : dW ≠ dR := hneL k_dW k_dR (Nat.ne_of_beq_eq_false rfl)
          have n313 : dW ≠ dL := hneL k_dW k_dL (Nat.ne_of_beq_eq_false rfl)
          have n314 : dW ≠ dS := hneL k_dW k_dS (Nat.ne_of_beq_eq_false rfl)
          have h303 : f269 dW = some (.inl (cI G, 12, .inl (jn gw0 gw1))) := (hEq.k k274) _ _ h301 (ninc nd_dW_dQ (ninc n314 (ninc n313 (ninc n312 (ninc n311 (ninc n310 (ninc n302 (ninc n309 (ninc n308 (ninc n307 (ninc n306 (ninc n305 (ninc n304 nin0)))))))))))))
          have h315 : f294 dW = some (.inl (cI G, 12, .inl (jn gw0 gw1))) := (hEq.k k297) _ _ h303 (ninc nd_dW_dQ (ninc n314 (ninc n313 (ninc n312 (ninc n311 (ninc n310 (ninc n302 (ninc n309 (ninc n308 (ninc n307 (ninc n306 (ninc n305 (ninc n304 nin0)))))))))))))
          have h316 : f294 dA = some (.inl (cI G, 12, .inl (jn ga0 ga1))) := (hEq.k k297) _ _ h282 (ninc nd_dA_dQ (ninc n293 (ninc n292 (ninc n291 (ninc n290 (ninc n289 (ninc n227 (ninc n288 (ninc n287 (ninc n286 (ninc n285 (ninc n284 (ninc n283 nin0)))))))))))))
          have h317 : f294 dM = some (.inl (cI G, 2, .inl (mA2 mg0 mg1))) := (hEq.k k297) _ _ h276 (ninc n281 (ninc nd_dM_dS (ninc nd_dM_dL (ninc nd_dM_dR (ninc nd_dM_dT (ninc nd_dM_dZ (ninc nd_dM_dI (ninc nd_dM_dH (ninc nd_dM_dN (ninc n280 (ninc n279 (ninc n278 (ninc n277 nin0)))))))))))))
          have n319 : dF ≠ mo := hne k_dF k_mo (Nat.ne_of_beq_eq_false rfl)
          have h318 : f1 dF = some (.inl (cI G, 61, .inl (nf sa))) := (hEq.k k4) _ _ k_dF (ninc n319 nin0)
          have n321 : dF ≠ dI := hneL k_dF k_dI (Nat.ne_of_beq_eq_false rfl)
          have h320 : f218 dF = some (.inl (cI G, 61, .inl (nf sa))) := by rw [ef218, va_up_ne _ _ n321]; exact h318
          have n323 : dF ≠ dO := hneL k_dF k_dO (Nat.ne_of_beq_eq_false rfl)
          have n324 : dF ≠ dU := hneL k_dF k_dU (Nat.ne_of_beq_eq_false rfl)
          have n325 : dF ≠ dJ := hneL k_dF k_dJ (Nat.ne_of_beq_eq_false rfl)
          have n326 : dF ≠ dK := hneL k_dF k_dK (Nat.ne_of_beq_eq_false rfl)
          have n327 : dF ≠ dN := hneL k_dF k_dN (Nat.ne_of_beq_eq_false rfl)
          have n328 : dF ≠ dH := hneL k_dF k_dH (Nat.ne_of_beq_eq_false rfl)
          have n329 : dF ≠ dZ := hneL k_dF k_dZ (Nat.ne_of_beq_eq_false rfl)
          have n330 : dF ≠ dT := hneL k_dF k_dT (Nat.ne_of_beq_eq_false rfl)
          have n331 : dF ≠ dR := hneL k_dF k_dR (Nat.ne_of_beq_eq_false rfl)
          have n332 : dF ≠ dL := hneL k_dF k_dL (Nat.ne_of_beq_eq_false rfl)
          have n333 : dF ≠ dS := hneL k_dF k_dS (Nat.ne_of_beq_eq_false rfl)
          have n334 : dF ≠ dQ := hneL k_dF k_dQ (Nat.ne_of_beq_eq_false rfl)
          have h322 : f269 dF = some (.inl (cI G, 61, .inl (nf sa))) := (hEq.k k274) _ _ h320 (ninc n334 (ninc n333 (ninc n332 (ninc n331 (ninc n330 (ninc n329 (ninc n321 (ninc n328 (ninc n327 (ninc n326 (ninc n325 (ninc n324 (ninc n323 nin0)))))))))))))
          have h335 : f294 dF = some (.inl (cI G, 61, .inl (nf sa))) := (hEq.k k297) _ _ h322 (ninc n334 (ninc n333 (ninc n332 (ninc n331 (ninc n330 (ninc n329 (ninc n321 (ninc n328 (ninc n327 (ninc n326 (ninc n325 (ninc n324 (ninc n323 nin0)))))))))))))
          have n337 : dP ≠ mo := hne k_dP k_mo (Nat.ne_of_beq_eq_false rfl)
          have h336 : f1 dP = some (.inl (cI G, 240, .inl (nf pk))) := (hEq.k k4) _ _ k_dP (ninc n337 nin0)
          have n339 : dP ≠ dI := hneL k_dP k_dI (Nat.ne_of_beq_eq_false rfl)
          have h338 : f218 dP = some (.inl (cI G, 240, .inl (nf pk))) := by rw [ef218, va_up_ne _ _ n339]; exact h336
          have n341 : dP ≠ dO := hneL k_dP k_dO (Nat.ne_of_beq_eq_false rfl)
          have n342 : dP ≠ dU := hneL k_dP k_dU (Nat.ne_of_beq_eq_false rfl)
          have n343 : dP ≠ dJ := hneL k_dP k_dJ (Nat.ne_of_beq_eq_false rfl)
          have n344 : dP ≠ dK := hneL k_dP k_dK (Nat.ne_of_beq_eq_false rfl)
          have n345 : dP ≠ dN := hneL k_dP k_dN (Nat.ne_of_beq_eq_false rfl)
          have n346 : dP ≠ dH := hneL k_dP k_dH (Nat.ne_of_beq_eq_false rfl)
          have n347 : dP ≠ dZ := hneL k_dP k_dZ (Nat.ne_of_beq_eq_false rfl)
          have n348 : dP ≠ dT := hneL k_dP k_dT (Nat.ne_of_beq_eq_false rfl)
          have n349 : dP ≠ dR := hneL k_dP k_dR (Nat.ne_of_beq_eq_false rfl)
          have n350 : dP ≠ dL := hneL k_dP k_dL (Nat.ne_of_beq_eq_false rfl)
          have n351 : dP ≠ dS := hneL k_dP k_dS (Nat.ne_of_beq_eq_false rfl)
          have n352 : dP ≠ dQ := hneL k_dP k_dQ (Nat.ne_of_beq_eq_false rfl)
          have h340 : f269 dP = some (.inl (cI G, 240, .inl (nf pk))) := (hEq.k k274) _ _ h338 (ninc n352 (ninc n351 (ninc n350 (ninc n349 (ninc n348 (ninc n347 (ninc n339 (ninc n346 (ninc n345 (ninc n344 (ninc n343 (ninc n342 (ninc n341 nin0)))))))))))))
          have h353 : f294 dP = some (.inl (cI G, 240, .inl (nf pk))) := (hEq.k k297) _ _ h340 (ninc n352 (ninc n351 (ninc n350 (ninc n349 (ninc n348 (ninc n347 (ninc n339 (ninc n346 (ninc n345 (ninc n344 (ninc n343 (ninc n342 (ninc n341 nin0)))))))))))))
          have n355 : dE ≠ mo := hne k_dE k_mo (Nat.ne_of_beq_eq_false rfl)
          have h354 : f1 dE = some (.inl (cZ G, 240, .inl gh)) := (hEq.k k4) _ _ k_dE (ninc n355 nin0)
          have n357 : dE ≠ dI := hneL k_dE k_dI (Nat.ne_of_beq_eq_false rfl)
          have h356 : f218 dE = some (.inl (cZ G, 240, .inl gh)) := by rw [ef218, va_up_ne _ _ n357]; exact h354
          have n359 : dE ≠ dO := hneL k_dE k_dO (Nat.ne_of_beq_eq_false rfl)
          have n360 : dE ≠ dU := hneL k_dE k_dU (Nat.ne_of_beq_eq_false rfl)
          have n361 : dE ≠ dJ := hneL k_dE k_dJ (Nat.ne_of_beq_eq_false rfl)
          have n362 : dE ≠ dK := hneL k_dE k_dK (Nat.ne_of_beq_eq_false rfl)
          have n363 : dE ≠ dN := hneL k_dE k_dN (Nat.ne_of_beq_eq_false rfl)
          have n364 : dE ≠ dH := hneL k_dE k_dH (Nat.ne_of_beq_eq_false rfl)
          have n365 : dE ≠ dZ := hneL k_dE k_dZ (Nat.ne_of_beq_eq_false rfl)
          have n366 : dE ≠ dT := hneL k_dE k_dT (Nat.ne_of_beq_eq_false rfl)
          have n367 : dE ≠ dR := hneL k_dE k_dR (Nat.ne_of_beq_eq_false rfl)
          have n368 : dE ≠ dL := hneL k_dE k_dL (Nat.ne_of_beq_eq_false rfl)
          have n369 : dE ≠ dS := hneL k_dE k_dS (Nat.ne_of_beq_eq_false rfl)
          have n370 : dE ≠ dQ := hneL k_dE k_dQ (Nat.ne_of_beq_eq_false rfl)
          have h358 : f269 dE = some (.inl (cZ G, 240, .inl gh)) := (hEq.k k274) _ _ h356 (ninc n370 (ninc n369 (ninc n368 (ninc n367 (ninc n366 (ninc n365 (ninc n357 (ninc n364 (ninc n363 (ninc n362 (ninc n361 (ninc n360 (ninc n359 nin0)))))))))))))
          have h371 : f294 dE = some (.inl (cZ G, 240, .inl gh)) := (hEq.k k297) _ _ h358 (ninc n370 (ninc n369 (ninc n368 (ninc n367 (ninc n366 (ninc n365 (ninc n357 (ninc n364 (ninc n363 (ninc n362 (ninc n361 (ninc n360 (ninc n359 nin0)))))))))))))
          have n373 : dX ≠ mo := hne k_dX k_mo (Nat.ne_of_beq_eq_false rfl)
          have h372 : f1 dX = some (.inl (cI G, 3, .inl (nf fl))) := (hEq.k k4) _ _ k_dX (ninc n373 nin0)
          have n375 : dX ≠ dI := hneL k_dX k_dI (Nat.ne_of_beq_eq_false rfl)
          have h374 : f218 dX = some (.inl (cI G, 3, .inl (nf fl))) := by rw [ef218, va_up_ne _ _ n375]; exact h372
          have n377 : dX ≠ dO := hneL k_dX k_dO (Nat.ne_of_beq_eq_false rfl)
          have n378 : dX ≠ dU := hneL k_dX k_dU (Nat.ne_of_beq_eq_false rfl)
          have n379 : dX ≠ dJ := hneL k_dX k_dJ (Nat.ne_of_beq_eq_false rfl)
          have n380 : dX ≠ dK := hneL k_dX k_dK (Nat.ne_of_beq_eq_false rfl)
          have n381 : dX ≠ dN := hneL k_dX k_dN (Nat.ne_of_beq_eq_false rfl)
          have n382 : dX ≠ dH := hneL k_dX k_dH (Nat.ne_of_beq_eq_false rfl)
          have n383 : dX ≠ dZ := hneL k_dX k_dZ (Nat.ne_of_beq_eq_false rfl)
          have n384 : dX ≠ dT := hneL k_dX k_dT (Nat.ne_of_beq_eq_false rfl)
          have n385 : dX ≠ dR := hneL k_dX k_dR (Nat.ne_of_beq_eq_false rfl)
          have n386 : dX ≠ dL := hneL k_dX k_dL (Nat.ne_of_beq_eq_false rfl)
          have n387 : dX ≠ dS := hneL k_dX k_dS (Nat.ne_of_beq_eq_false rfl)
          have n388 : dX ≠ dQ := hneL k_dX k_dQ (Nat.ne_of_beq_eq_false rfl)
          have h376 : f269 dX = some (.inl (cI G, 3, .inl (nf fl))) := (hEq.k k274) _ _ h374 (ninc n388 (ninc n387 (ninc n386 (ninc n385 (ninc n384 (ninc n383 (ninc n375 (ninc n382 (ninc n381 (ninc n380 (ninc n379 (ninc n378 (ninc n377 nin0)))))))))))))
          have h389 : f294 dX = some (.inl (cI G, 3, .inl (nf fl))) := (hEq.k k297) _ _ h376 (ninc n388 (ninc n387 (ninc n386 (ninc n385 (ninc n384 (ninc n383 (ninc n375 (ninc n382 (ninc n381 (ninc n380 (ninc n379 (ninc n378 (ninc n377 nin0)))))))))))))
          have n391 : dY ≠ mo := hne k_dY k_mo (Nat.ne_of_beq_eq_false rfl)
          have h390 : f1 dY = some (.inl (cI G, 3, .inl gl)) := (hEq.k k4) _ _ k_dY (ninc n391 nin0)
          have n393 : dY ≠ dI := hneL k_dY k_dI (Nat.ne_of_beq_eq_false rfl)
          have h392 : f218 dY = some (.inl (cI G, 3, .inl gl)) := by rw [ef218, va_up_ne _ _ n393]; exact h390
          have n395 : dY ≠ dO := hneL k_dY k_dO (Nat.ne_of_beq_eq_false rfl)
          have n396 : dY ≠ dU := hneL k_dY k_dU (Nat.ne_of_beq_eq_false rfl)
          have n397 : dY ≠ dJ := hneL k_dY k_dJ (Nat.ne_of_beq_eq_false rfl)
          have n398 : dY ≠ dK := hneL k_dY k_dK (Nat.ne_of_beq_eq_false rfl)
          have n399 : dY ≠ dN := hneL k_dY k_dN (Nat.ne_of_beq_eq_false rfl)
          have n400 : dY ≠ dH := hneL k_dY k_dH (Nat.ne_of_beq_eq_false rfl)
          have n401 : dY ≠ dZ := hneL k_dY k_dZ (Nat.ne_of_beq_eq_false rfl)
          have n402 : dY ≠ dT := hneL k_dY k_dT (Nat.ne_of_beq_eq_false rfl)
          have n403 : dY ≠ dR := hneL k_dY k_dR (Nat.ne_of_beq_eq_false rfl)
          have n404 : dY ≠ dL := hneL k_dY k_dL (Nat.ne_of_beq_eq_false rfl)
          have n405 : dY ≠ dS := hneL k_dY k_dS (Nat.ne_of_beq_eq_false rfl)
          have n406 : dY ≠ dQ := hneL k_dY k_dQ (Nat.ne_of_beq_eq_false rfl)
          have h394 : f269 dY = some (.inl (cI G, 3, .inl gl)) := (hEq.k k274) _ _ h392 (ninc n406 (ninc n405 (ninc n404 (ninc n403 (ninc n402 (ninc n401 (ninc n393 (ninc n400 (ninc n399 (ninc n398 (ninc n397 (ninc n396 (ninc n395 nin0)))))))))))))
          have h407 : f294 dY = some (.inl (cI G, 3, .inl gl)) := (hEq.k k297) _ _ h394 (ninc n406 (ninc n405 (ninc n404 (ninc n403 (ninc n402 (ninc n401 (ninc n393 (ninc n400 (ninc n399 (ninc n398 (ninc n397 (ninc n396 (ninc n395 nin0)))))))))))))
          have n409 : dG ≠ mo := hne k_dG k_mo (Nat.ne_of_beq_eq_false rfl)
          have h408 : f1 dG = some (.inl (cI G, 60, .inl (nf gv))) := (hEq.k k4) _ _ k_dG (ninc n409 nin0)
          have n411 : dG ≠ dI := hneL k_dG k_dI (Nat.ne_of_beq_eq_false rfl)
          have h410 : f218 dG = some (.inl (cI G, 60, .inl (nf gv))) := by rw [ef218, va_up_ne _ _ n411]; exact h408
          have n413 : dG ≠ dO := hneL k_dG k_dO (Nat.ne_of_beq_eq_false rfl)
          have n414 : dG ≠ dU := hneL k_dG k_dU (Nat.ne_of_beq_eq_false rfl)
          have n415 : dG ≠ dJ := hneL k_dG k_dJ (Nat.ne_of_beq_eq_false rfl)
          have n416 : dG ≠ dK := hneL k_dG k_dK (Nat.ne_of_beq_eq_false rfl)
          have n417 : dG ≠ dN := hneL k_dG k_dN (Nat.ne_of_beq_eq_false rfl)
          have n418 : dG ≠ dH := hneL k_dG k_dH (Nat.ne_of_beq_eq_false rfl)
          have n419 : dG ≠ dZ := hneL k_dG k_dZ (Nat.ne_of_beq_eq_false rfl)
          have n420 : dG ≠ dT := hneL k_dG k_dT (Nat.ne_of_beq_eq_false rfl)
          have n421 : dG ≠ dR := hneL k_dG k_dR (Nat.ne_of_beq_eq_false rfl)
          have n422 : dG ≠ dL := hneL k_dG k_dL (Nat.ne_of_beq_eq_false rfl)
          have n423 : dG ≠ dS := hneL k_dG k_dS (Nat.ne_of_beq_eq_false rfl)
          have n424 : dG ≠ dQ := hneL k_dG k_dQ (Nat.ne_of_beq_eq_false rfl)
          have h412 : f269 dG = some (.inl (cI G, 60, .inl (nf gv))) := (hEq.k k274) _ _ h410 (ninc n424 (ninc n423 (ninc n422 (ninc n421 (ninc n420 (ninc n419 (ninc n411 (ninc n418 (ninc n417 (ninc n416 (ninc n415 (ninc n414 (ninc n413 nin0)))))))))))))
          have h425 : f294 dG = some (.inl (cI G, 60, .inl (nf gv))) := (hEq.k k297) _ _ h412 (ninc n424 (ninc n423 (ninc n422 (ninc n421 (ninc n420 (ninc n419 (ninc n411 (ninc n418 (ninc n417 (ninc n416 (ninc n415 (ninc n414 (ninc n413 nin0)))))))))))))
          exact hp_iret (v := (gK_n295 (r270 : Int32).toNatClampNeg)) B0 hw hS hr ⟨Nat.le_of_ble_eq_true rfl, Nat.le_of_ble_eq_true rfl⟩ dX5_loop_38 (⟨⟨_, rfl⟩, ⟨_, ⟨h298, hND, ⟨_, _, _, _, _, _, _, _, _, _, _, _, _, k_dQ_n295, k_dS_n295, k_dL_n295, k_dR_n295, k_dT_n295, k_dZ_n295, k_dI_n295, k_dH_n295, k_dN_n295, k_dK_n295, k_dJ_n295, k_dU_n295, k_dO_n295, hHd9_n295, (hMn.mono hMn9_n295 (by omega))⟩, h315, h316, h317, h335, h353, h371, h389, h407, h425, hSA, hB9, hfl9⟩⟩, ((show hEq [mo, dW, dA, dQ, dM, dS, dL, dR, dT, dZ, dI, dH, dN, dK, dJ, dU, dO, dF, dP, dE, dX, dY, dG] f f1 from (hEq.mono k4 (sub_cons List.mem_cons_self sub_nil))).tr ((show hEq [mo, dW, dA, dQ, dM, dS, dL, dR, dT, dZ, dI, dH, dN, dK, dJ, dU, dO, dF, dP, dE, dX, dY, dG] f1 f218 from (by rw [ef218]; exact hEq.up (List.mem_cons_of_mem _ (List.mem_cons_of_mem _ (List.mem_cons_of_mem _ (List.mem_cons_of_mem _ (List.mem_cons_of_mem _ (List.mem_cons_of_mem _ (List.mem_cons_of_mem _ (List.mem_cons_of_mem _ (List.mem_cons_of_mem _ (List.mem_cons_of_mem _ List.mem_cons_self)))))))))))).tr ((show hEq [mo, dW, dA, dQ, dM, dS, dL, dR, dT, dZ, dI, dH, dN, dK, dJ, dU, dO, dF, dP, dE, dX, dY, dG] f218 f269 from (hEq.mono k274 sub13)).tr (show hEq [mo, dW, dA, dQ, dM, dS, dL, dR, dT, dZ, dI, dH, dN, dK, dJ, dU, dO, dF, dP, dE, dX, dY, dG] f269 f294 from (hEq.mono k297 sub13)))))⟩)
    · subst ev9
      refine W.eq (g2 := F0 m 5 ls [.int 0]) rfl ?_
      refine lv_if_ne (tgt := 10) hx hb dX5_loop_5 (by decide) (fun c9 => absurd (by decide) c9) (fun _ => ?_)
      refine lv_iconst (v := 0) hx hb dX5_loop_8 (by decide) ?_
      have n427 : dQ ≠ mo := hne k_dQ k_mo (Nat.ne_of_beq_eq_false rfl)
      have h426 : f1 dQ = some (.inl (cI G, 12, .inl gQ)) := (hEq.k k4) _ _ k_dQ (ninc n427 nin0)
      have n429 : dS ≠ mo := hne k_dS k_mo (Nat.ne_of_beq_eq_false rfl)
      have h428 : f1 dS = some (.inl (cI G, 2, .inl gS)) := (hEq.k k4) _ _ k_dS (ninc n429 nin0)
      have n431 : dL ≠ mo := hne k_dL k_mo (Nat.ne_of_beq_eq_false rfl)
      have h430 : f1 dL = some (.inl (cI G, 2, .inl gL)) := (hEq.k k4) _ _ k_dL (ninc n431 nin0)
      have n433 : dR ≠ mo := hne k_dR k_mo (Nat.ne_of_beq_eq_false rfl)
      have h432 : f1 dR = some (.inl (cI G, 2, .inl gR)) := (hEq.k k4) _ _ k_dR (ninc n433 nin0)
      have n435 : dT ≠ mo := hne k_dT k_mo (Nat.ne_of_beq_eq_false rfl)
      have h434 : f1 dT = some (.inl (cI G, 2, .inl gT)) := (hEq.k k4) _ _ k_dT (ninc n435 nin0)
      have n437 : dZ ≠ mo := hne k_dZ k_mo (Nat.ne_of_beq_eq_false rfl)
      have h436 : f1 dZ = some (.inl (cZ G, 2, .inl gZ)) := (hEq.k k4) _ _ k_dZ (ninc n437 nin0)
      have n439 : dI ≠ mo := hne k_dI k_mo (Nat.ne_of_beq_eq_false rfl)
      have h438 : f1 dI = some (.inl (cI G, 2, .inl gI)) := (hEq.k k4) _ _ k_dI (ninc n439 nin0)
      have n441 : dH ≠ mo := hne k_dH k_mo (Nat.ne_of_beq_eq_false rfl)
      have h440 : f1 dH = some (.inl (cI G, 2, .inl gH)) := (hEq.k k4) _ _ k_dH (ninc n441 nin0)
      have n443 : dN ≠ mo := hne k_dN k_mo (Nat.ne_of_beq_eq_false rfl)
      have h442 : f1 dN = some (.inl (cI G, 2, .inl gN)) := (hEq.k k4) _ _ k_dN (ninc n443 nin0)
      have n445 : dK ≠ mo := hne k_dK k_mo (Nat.ne_of_beq_eq_false rfl)
      have h444 : f1 dK = some (.inl (cI G, 2048, .inl gK)) := (hEq.k k4) _ _ k_dK (ninc n445 nin0)
      have n447 : dJ ≠ mo := hne k_dJ k_mo (Nat.ne_of_beq_eq_false rfl)
      have h446 : f1 dJ = some (.inl (cI G, 2048, .inl gJ)) := (hEq.k k4) _ _ k_dJ (ninc n447 nin0)
      have n449 : dU ≠ mo := hne k_dU k_mo (Nat.ne_of_beq_eq_false rfl)
      have h448 : f1 dU = some (.inl (cI G, 2048, .inl gU)) := (hEq.k k4) _ _ k_dU (ninc n449 nin0)
      have n451 : dO ≠ mo := hne k_dO k_mo (Nat.ne_of_beq_eq_false rfl)
      have h450 : f1 dO = some (.inl (cI G, 2048, .inl gO)) := (hEq.k k4) _ _ k_dO (ninc n451 nin0)
      have n453 : dW ≠ mo := hne k_dW k_mo (Nat.ne_of_beq_eq_false rfl)
      have h452 : f1 dW = some (.inl (cI G, 12, .inl (jn gw0 gw1))) := (hEq.k k4) _ _ k_dW (ninc n453 nin0)
      have n455 : dA ≠ mo := hne k_dA k_mo (Nat.ne_of_beq_eq_false rfl)
      have h454 : f1 dA = some (.inl (cI G, 12, .inl (jn ga0 ga1))) := (hEq.k k4) _ _ k_dA (ninc n455 nin0)
      have n457 : dM ≠ mo := hne k_dM k_mo (Nat.ne_of_beq_eq_false rfl)
      have h456 : f1 dM = some (.inl (cI G, 2, .inl (mA2 mg0 mg1))) := (hEq.k k4) _ _ k_dM (ninc n457 nin0)
      have n459 : dF ≠ mo := hne k_dF k_mo (Nat.ne_of_beq_eq_false rfl)
      have h458 : f1 dF = some (.inl (cI G, 61, .inl (nf sa))) := (hEq.k k4) _ _ k_dF (ninc n459 nin0)
      have n461 : dP ≠ mo := hne k_dP k_mo (Nat.ne_of_beq_eq_false rfl)
      have h460 : f1 dP = some (.inl (cI G, 240, .inl (nf pk))) := (hEq.k k4) _ _ k_dP (ninc n461 nin0)
      have n463 : dE ≠ mo := hne k_dE k_mo (Nat.ne_of_beq_eq_false rfl)
      have h462 : f1 dE = some (.inl (cZ G, 240, .inl gh)) := (hEq.k k4) _ _ k_dE (ninc n463 nin0)
      have n465 : dX ≠ mo := hne k_dX k_mo (Nat.ne_of_beq_eq_false rfl)
      have h464 : f1 dX = some (.inl (cI G, 3, .inl (nf fl))) := (hEq.k k4) _ _ k_dX (ninc n465 nin0)
      have n467 : dY ≠ mo := hne k_dY k_mo (Nat.ne_of_beq_eq_false rfl)
      have h466 : f1 dY = some (.inl (cI G, 3, .inl gl)) := (hEq.k k4) _ _ k_dY (ninc n467 nin0)
      have n469 : dG ≠ mo := hne k_dG k_mo (Nat.ne_of_beq_eq_false rfl)
      have h468 : f1 dG = some (.inl (cI G, 60, .inl (nf gv))) := (hEq.k k4) _ _ k_dG (ninc n469 nin0)
      exact hp_iret (v := 0) B0 hw hS hr ⟨Nat.le_of_ble_eq_true rfl, Nat.le_of_ble_eq_true rfl⟩ dX5_loop_9 (⟨⟨_, rfl⟩, ⟨_, ⟨h3, hND, ⟨_, _, _, _, _, _, _, _, _, _, _, _, _, h426, h428, h430, h432, h434, h436, h438, h440, h442, h444, h446, h448, h450, hHd9, (hMn.mono hMn9 (by omega))⟩, h452, h454, h456, h458, h460, h462, h464, h466, h468, hSA, hB9, hfl9⟩⟩, (show hEq [mo, dW, dA, dQ, dM, dS, dL, dR, dT, dZ, dI, dH, dN, dK, dJ, dU, dO, dF, dP, dE, dX, dY, dG] f f1 from (hEq.mono k4 (sub_cons List.mem_cons_self sub_nil)))⟩)

set_option maxHeartbeats 4000000 in
set_option maxRecDepth 100000 in
theorem c_W5_pass {l : Launch} (hl : l.stackTraces = false) (G : hG) (f : hM) (mo dW dA dQ dM dS dL dR dT dZ dI dH dN dK dJ dU dO dF dP dE dX dY dG : Nat) (th : Int32) (B : Nat) (gw0 : Nat → Int32) (ga0 : Nat → Int32) (gw1 : Nat → Int32) (ga1 : Nat → Int32) (mg0 : Int32) (mg1 : Int32) (n : Nat) (a : Nat) (cg : Nat) (x : Nat) (sa : Nat → Nat) (pk : Nat → Nat) (fl : Nat → Nat) (gv : Nat → Nat) (gh : Nat → Int32) (gl : Nat → Int32) (hC : MW G f mo dW dA dQ dM dS dL dR dT dZ dI dH dN dK dJ dU dO dF dP dE dX dY dG th B gw0 ga0 gw1 ga1 mg0 mg1 n a cg x sa pk fl gv gh gl) (hBB : B + 100 < 100000) (xv : Int32) : CT l yX5_pass (.code yX5_pass cX5_pass 4 (some .int)) 3 69 0 0 G [.ref mo, .int xv] f (fun v f1 => (∃ r9 : Int32, v = some (.int r9)) ∧ (∃ t9 : Int32, MW G f1 mo dW dA dQ dM dS dL dR dT dZ dI dH dN dK dJ dU dO dF dP dE dX dY dG t9 (B + 100) gw0 ga0 gw1 ga1 mg0 mg1 n a cg x sa pk fl gv gh gl) ∧ hEq [mo, dW, dA, dQ, dM, dS, dL, dR, dT, dZ, dI, dH, dN, dK, dJ, dU, dO, dF, dP, dE, dX, dY, dG] f f1) (fun E f1 => False) := by
  refine hp_start hl (own := RX5) (by decide) rfl (Nat.le_of_ble_eq_true rfl) ?_
  intro p e s m args below meth c B0 hr hnm hout hw hS ls hl9
  have hx := B0.1
  have hb := B0.2.1
  have hl9 : lv_has ls 4 [(0, .ref mo), (1, .int xv)] := hl9
  obtain ⟨k_mo, hND, hLM, k_dW, k_dA, k_dM, k_dF, k_dP, k_dE, k_dX, k_dY, k_dG, hSA, hB9, hfl9⟩ := id hC
  obtain ⟨nd_dW_dA, nd_dW_dQ, nd_dA_dQ, nd_dM_dS, nd_dM_dL, nd_dM_dR, nd_dM_dT, nd_dM_dZ, nd_dM_dI, nd_dM_dH, nd_dM_dN, nd_dS_dL, nd_dS_dR, nd_dS_dT, nd_dS_dZ, nd_dS_dI, nd_dS_dH, nd_dS_dN, nd_dL_dR, nd_dL_dT, nd_dL_dZ, nd_dL_dI, nd_dL_dH, nd_dL_dN, nd_dR_dT, nd_dR_dZ, nd_dR_dI, nd_dR_dH, nd_dR_dN, nd_dT_dZ, nd_dT_dI, nd_dT_dH, nd_dT_dN, nd_dZ_dI, nd_dZ_dH, nd_dZ_dN, nd_dI_dH, nd_dI_dN, nd_dH_dN, nd_dK_dJ, nd_dK_dU, nd_dK_dO, nd_dJ_dU, nd_dJ_dO, nd_dU_dO, nd_dP_dE, nd_dX_dY⟩ := id hND
  obtain ⟨gQ, gS, gL, gR, gT, gZ, gI, gH, gN, gK, gJ, gU, gO, k_dQ, k_dS, k_dL, k_dR, k_dT, k_dZ, k_dI, k_dH, k_dN, k_dK, k_dJ, k_dU, k_dO, hHd9, hMn9⟩ := id hLM
  refine lv_aload_n hx hb dX5_pass_0 rfl (lv_at hl9 0 rfl) ?_
  refine lv_iload_n hx hb dX5_pass_1 rfl (lv_at hl9 1 rfl) ?_
  refine lv_iconst (v := 1) hx hb dX5_pass_2 (by decide) ?_
  refine lv_bipush (v := 50) hx hb dX5_pass_3 (by decide) ?_
  refine hp_S (As := [.int xv, .int 1, .int 50]) (rest := [.ref mo]) B0 hw hS (c_X5_in hl G f xv 1 50) mS_X5_in qM_X5_81 rfl rfl hl9.1 (Nat.le_of_ble_eq_true rfl) ⟨⟨Nat.le_of_ble_eq_true rfl, Nat.le_of_ble_eq_true rfl⟩, Nat.le_of_ble_eq_true rfl, Nat.le_of_ble_eq_true rfl⟩ dX5_pass_5 (fun E ce q9 f1 H locs hPX hw hS hce hcv hcl => ?_) (fun v f1 H locs hP hw hS => ?_)
  · exact hPX.elim
  · obtain ⟨ef9, hv9⟩ := hP
    rw [ef9] at hw
    rcases hv9 with ⟨b2, ev9⟩ | ⟨b2, ev9⟩
    · subst ev9
      refine W.eq (g2 := F0 m 8 ls [.int 1, .ref mo]) rfl ?_
      refine lv_if_eq (tgt := 15) hx hb dX5_pass_8 (by decide) (fun c9 => absurd c9 (by decide)) (fun _ => ?_)
      refine lv_iconst (v := 0) hx hb dX5_pass_11 (by decide) ?_
      refine lv_goto (tgt := 16) hx hb dX5_pass_12 (by decide) ?_
      refine hp_put (fs1 := [.int 0, .ref dW, .ref dA, .ref dQ, .ref dM, .ref dS, .ref dL, .ref dR, .ref dT, .ref dZ, .ref dI, .ref dH, .ref dN, .ref dK, .ref dJ, .ref dU, .ref dO, .int (nI n), .int (nI a), .ref dF, .ref dP, .ref dE, .ref dX, .ref dY, .int (nI x), .int (nI cg), .ref dG]) (ty := .int) B0 hw hS 5 rfl in_X5 tyX5 tyX5_ok nmX5 k_mo 0 (by decide) qF_X5_77 rfl (by decide +kernel) rfl rfl (Nat.le_of_ble_eq_true rfl) rfl dX5_pass_16 (fun H locs f3 ef3 hw hS => ?_)
      have h4 : f3 mo = some (.inr (5, [.int 0, .ref dW, .ref dA, .ref dQ, .ref dM, .ref dS, .ref dL, .ref dR, .ref dT, .ref dZ, .ref dI, .ref dH, .ref dN, .ref dK, .ref dJ, .ref dU, .ref dO, .int (nI n), .int (nI a), .ref dF, .ref dP, .ref dE, .ref dX, .ref dY, .int (nI x), .int (nI cg), .ref dG])) := by rw [ef3, va_up_self]
      refine lv_iconst (v := 0) hx hb dX5_pass_19 (by decide) ?_
      refine lv_istore_n (lv' := [(2, .int 0), (0, .ref mo), (1, .int xv)]) hx hb dX5_pass_20 rfl hl9 (by decide) rfl (fun ls hl9 => ?_)
      refine lv_iconst (v := 0) hx hb dX5_pass_21 (by decide) ?_
      refine lv_istore_n (lv' := [(3, .int 0), (2, .int 0), (0, .ref mo), (1, .int xv)]) hx hb dX5_pass_22 rfl hl9 (by decide) rfl (fun ls hl9 => ?_)
      obtain ⟨T, hT, eT⟩ := nI_of2 (x := xv) (M := 50) (n := 50) rfl (by have h1 := b2.1; simp only [jlt, jle, tq0, tq1, tq2, tq3, tq4, tq5, tq6, tq9, tq50, tq60, tq1023, tqm1] at h1 ⊢; omega) (by have h1 := b2.2; simp only [jlt, jle, tq0, tq1, tq2, tq3, tq4, tq5, tq6, tq9, tq50, tq60, tq1023, tqm1] at h1 ⊢; omega)
      have n6 : dW ≠ mo := hne k_dW k_mo (Nat.ne_of_beq_eq_false rfl)
      have h5 : f3 dW = some (.inl (cI G, 12, .inl (jn gw0 gw1))) := by rw [ef3, va_up_ne _ _ n6]; exact k_dW
      have n8 : dA ≠ mo := hne k_dA k_mo (Nat.ne_of_beq_eq_false rfl)
      have h7 : f3 dA = some (.inl (cI G, 12, .inl (jn ga0 ga1))) := by rw [ef3, va_up_ne _ _ n8]; exact k_dA
      have n10 : dM ≠ mo := hne k_dM k_mo (Nat.ne_of_beq_eq_false rfl)
      have h9 : f3 dM = some (.inl (cI G, 2, .inl (mA2 mg0 mg1))) := by rw [ef3, va_up_ne _ _ n10]; exact k_dM
      have n12 : dF ≠ mo := hne k_dF k_mo (Nat.ne_of_beq_eq_false rfl)
      have h11 : f3 dF = some (.inl (cI G, 61, .inl (nf sa))) := by rw [ef3, va_up_ne _ _ n12]; exact k_dF
      have n14 : dP ≠ mo := hne k_dP k_mo (Nat.ne_of_beq_eq_false rfl)
      have h13 : f3 dP = some (.inl (cI G, 240, .inl (nf pk))) := by rw [ef3, va_up_ne _ _ n14]; exact k_dP
      have n16 : dE ≠ mo := hne k_dE k_mo (Nat.ne_of_beq_eq_false rfl)
      have h15 : f3 dE = some (.inl (cZ G, 240, .inl gh)) := by rw [ef3, va_up_ne _ _ n16]; exact k_dE
      have n18 : dX ≠ mo := hne k_dX k_mo (Nat.ne_of_beq_eq_false rfl)
      have h17 : f3 dX = some (.inl (cI G, 3, .inl (nf fl))) := by rw [ef3, va_up_ne _ _ n18]; exact k_dX
      have n20 : dY ≠ mo := hne k_dY k_mo (Nat.ne_of_beq_eq_false rfl)
      have h19 : f3 dY = some (.inl (cI G, 3, .inl gl)) := by rw [ef3, va_up_ne _ _ n20]; exact k_dY
      have n22 : dG ≠ mo := hne k_dG k_mo (Nat.ne_of_beq_eq_false rfl)
      have h21 : f3 dG = some (.inl (cI G, 60, .inl (nf gv))) := by rw [ef3, va_up_ne _ _ n22]; exact k_dG
      have n24 : dQ ≠ mo := hne k_dQ k_mo (Nat.ne_of_beq_eq_false rfl)
      have h23 : f3 dQ = some (.inl (cI G, 12, .inl gQ)) := by rw [ef3, va_up_ne _ _ n24]; exact k_dQ
      have n26 : dS ≠ mo := hne k_dS k_mo (Nat.ne_of_beq_eq_false rfl)
      have h25 : f3 dS = some (.inl (cI G, 2, .inl gS)) := by rw [ef3, va_up_ne _ _ n26]; exact k_dS
      have n28 : dL ≠ mo := hne k_dL k_mo (Nat.ne_of_beq_eq_false rfl)
      have h27 : f3 dL = some (.inl (cI G, 2, .inl gL)) := by rw [ef3, va_up_ne _ _ n28]; exact k_dL
      have n30 : dR ≠ mo := hne k_dR k_mo (Nat.ne_of_beq_eq_false rfl)
      have h29 : f3 dR = some (.inl (cI G, 2, .inl gR)) := by rw [ef3, va_up_ne _ _ n30]; exact k_dR
      have n32 : dT ≠ mo := hne k_dT k_mo (Nat.ne_of_beq_eq_false rfl)
      have h31 : f3 dT = some (.inl (cI G, 2, .inl gT)) := by rw [ef3, va_up_ne _ _ n32]; exact k_dT
      have n34 : dZ ≠ mo := hne k_dZ k_mo (Nat.ne_of_beq_eq_false rfl)
      have h33 : f3 dZ = some (.inl (cZ G, 2, .inl gZ)) := by rw [ef3, va_up_ne _ _ n34]; exact k_dZ
      have n36 : dI ≠ mo := hne k_dI k_mo (Nat.ne_of_beq_eq_false rfl)
      have h35 : f3 dI = some (.inl (cI G, 2, .inl gI)) := by rw [ef3, va_up_ne _ _ n36]; exact k_dI
      have n38 : dH ≠ mo := hne k_dH k_mo (Nat.ne_of_beq_eq_false rfl)
      have h37 : f3 dH = some (.inl (cI G, 2, .inl gH)) := by rw [ef3, va_up_ne _ _ n38]; exact k_dH
      have n40 : dN ≠ mo := hne k_dN k_mo (Nat.ne_of_beq_eq_false rfl)
      have h39 : f3 dN = some (.inl (cI G, 2, .inl gN)) := by rw [ef3, va_up_ne _ _ n40]; exact k_dN
      have n42 : dK ≠ mo := hne k_dK k_mo (Nat.ne_of_beq_eq_false rfl)
      have h41 : f3 dK = some (.inl (cI G, 2048, .inl gK)) := by rw [ef3, va_up_ne _ _ n42]; exact k_dK
      have n44 : dJ ≠ mo := hne k_dJ k_mo (Nat.ne_of_beq_eq_false rfl)
      have h43 : f3 dJ = some (.inl (cI G, 2048, .inl gJ)) := by rw [ef3, va_up_ne _ _ n44]; exact k_dJ
      have n46 : dU ≠ mo := hne k_dU k_mo (Nat.ne_of_beq_eq_false rfl)
      have h45 : f3 dU = some (.inl (cI G, 2048, .inl gU)) := by rw [ef3, va_up_ne _ _ n46]; exact k_dU
      have n48 : dO ≠ mo := hne k_dO k_mo (Nat.ne_of_beq_eq_false rfl)
      have h47 : f3 dO = some (.inl (cI G, 2048, .inl gO)) := by rw [ef3, va_up_ne _ _ n48]; exact k_dO
      refine hp_for (nL := 4) (pc := 23) (fun j f9 lv9 => ∃ k9 : Int32, LM G f9 dQ dS dL dR dT dZ dI dH dN dK dJ dU dO (B + 2 * j) ∧ hEq [dQ, dS, dL, dR, dT, dZ, dI, dH, dN, dK, dJ, dU, dO] f3 f9 ∧ lv9 = [(3, .int (nI j)), (0, .ref mo), (1, .int xv), (2, .int k9)]) T (fun j f9 lv9 H locs ls hj hI hw hS hl9 ih => ?_) (fun f9 lv9 H locs ls hI hw hS hl9 => ?_) T 0 (by omega) f3 _ _ _ ls ⟨_, ⟨_, _, _, _, _, _, _, _, _, _, _, _, _, h23, h25, h27, h29, h31, h33, h35, h37, h39, h41, h43, h45, h47, hHd9, (hMn.mono hMn9 (by omega))⟩, hEq.rf, rfl⟩ hw hS (lv_sub hl9 [0, 2, 3, 1] rfl)
      · obtain ⟨k9, hL9, hk9, el9⟩ := hI
        rw [el9] at hl9
        obtain ⟨gQq, gSq, gLq, gRq, gTq, gZq, gIq, gHq, gNq, gKq, gJq, gUq, gOq, k_dQq, k_dSq, k_dLq, k_dRq, k_dTq, k_dZq, k_dIq, k_dHq, k_dNq, k_dKq, k_dJq, k_dUq, k_dOq, hHd9q, hMn9q⟩ := id hL9
        refine lv_iload_n hx hb dX5_pass_23 rfl (lv_at hl9 0 rfl) ?_
        refine lv_iload_n hx hb dX5_pass_24 rfl (lv_at hl9 2 rfl) ?_
        refine lv_icmp_ge (tgt := 57) hx hb dX5_pass_25 (by decide) (fun c9 => absurd c9 (by rw [eT]; exact nI_ge hj (by omega))) (fun _ => ?_)
        refine lv_aload_n hx hb dX5_pass_28 rfl (lv_at hl9 1 rfl) ?_
        have h49 : f9 mo = some (.inr (5, [.int 0, .ref dW, .ref dA, .ref dQ, .ref dM, .ref dS, .ref dL, .ref dR, .ref dT, .ref dZ, .ref dI, .ref dH, .ref dN, .ref dK, .ref dJ, .ref dU, .ref dO, .int (nI n), .int (nI a), .ref dF, .ref dP, .ref dE, .ref dX, .ref dY, .int (nI x), .int (nI cg), .ref dG])) := (hEq.k hk9) _ _ h4 (ninc (Ne.symm n24) (ninc (Ne.symm n26) (ninc (Ne.symm n28) (ninc (Ne.symm n30) (ninc (Ne.symm n32) (ninc (Ne.symm n34) (ninc (Ne.symm n36) (ninc (Ne.symm n38) (ninc (Ne.symm n40) (ninc (Ne.symm n42) (ninc (Ne.symm n44) (ninc (Ne.symm n46) (ninc (Ne.symm n48) nin0)))))))))))))
        refine hp_get B0 hw 5 rfl in_X5 h49 0 (by decide) qF_X5_77 rfl dX5_pass_29 ?_
        refine lv_if_ne (tgt := 57) hx hb dX5_pass_32 (by decide) (fun c9 => absurd (by decide) c9) (fun _ => ?_)
        refine lv_iload_n hx hb dX5_pass_35 rfl (lv_at hl9 3 rfl) ?_
        refine lv_aload_n hx hb dX5_pass_36 rfl (lv_at hl9 1 rfl) ?_
        refine lv_iconst (v := 0) hx hb dX5_pass_37 (by decide) ?_
        have n51 : dM ≠ dO := hneL k_dM k_dO (Nat.ne_of_beq_eq_false rfl)
        have n52 : dM ≠ dU := hneL k_dM k_dU (Nat.ne_of_beq_eq_false rfl)
        have n53 : dM ≠ dJ := hneL k_dM k_dJ (Nat.ne_of_beq_eq_false rfl)
        have n54 : dM ≠ dK := hneL k_dM k_dK (Nat.ne_of_beq_eq_false rfl)
        have n55 : dM ≠ dQ := hneL k_dM k_dQ (Nat.ne_of_beq_eq_false rfl)
        have h50 : f9 dM = some (.inl (cI G, 2, .inl (mA2 mg0 mg1))) := (hEq.k hk9) _ _ h9 (ninc n55 (ninc nd_dM_dS (ninc nd_dM_dL (ninc nd_dM_dR (ninc nd_dM_dT (ninc nd_dM_dZ (ninc nd_dM_dI (ninc nd_dM_dH (ninc nd_dM_dN (ninc n54 (ninc n53 (ninc n52 (ninc n51 nin0)))))))))))))
        have n57 : dA ≠ dO := hneL k_dA k_dO (Nat.ne_of_beq_eq_false rfl)
        have n58 : dA ≠ dU := hneL k_dA k_dU (Nat.ne_of_beq_eq_false rfl)
        have n59 : dA ≠ dJ := hneL k_dA k_dJ (Nat.ne_of_beq_eq_false rfl)
        have n60 : dA ≠ dK := hneL k_dA k_dK (Nat.ne_of_beq_eq_false rfl)
        have n61 : dA ≠ dN := hneL k_dA k_dN (Nat.ne_of_beq_eq_false rfl)
        have n62 : dA ≠ dH := hneL k_dA k_dH (Nat.ne_of_beq_eq_false rfl)
        have n63 : dA ≠ dI := hneL k_dA k_dI (Nat.ne_of_beq_eq_false rfl)
        have n64 : dA ≠ dZ := hneL k_dA k_dZ (Nat.ne_of_beq_eq_false rfl)
        have n65 : dA ≠ dT := hneL k_dA k_dT (Nat.ne_of_beq_eq_false rfl)
        have n66 : dA ≠ dR := hneL k_dA k_dR (Nat.ne_of_beq_eq_false rfl)
        have n67 : dA ≠ dL := hneL k_dA k_dL (Nat.ne_of_beq_eq_false rfl)
        have n68 : dA ≠ dS := hneL k_dA k_dS (Nat.ne_of_beq_eq_false rfl)
        have h56 : f9 dA = some (.inl (cI G, 12, .inl (jn ga0 ga1))) := (hEq.k hk9) _ _ h7 (ninc nd_dA_dQ (ninc n68 (ninc n67 (ninc n66 (ninc n65 (ninc n64 (ninc n63 (ninc n62 (ninc n61 (ninc n60 (ninc n59 (ninc n58 (ninc n57 nin0)))))))))))))
        refine hp_V (ci := 5) (As := [.int 0]) (rest := [.int k9]) B0 hw hS (c_W5_goesBy hl G f9 mo dW dA dQ dM dS dL dR dT dZ dI dH dN dK dJ dU dO dF dP dE dX dY dG 0 (nI n) (nI a) (nI x) (nI cg) h49 hND (mA2 mg0 mg1) (jn ga0 ga1) h50 h56 hSA (B + 2 * j) ⟨_, _, _, _, _, _, _, _, _, _, _, _, _, k_dQq, k_dSq, k_dLq, k_dRq, k_dTq, k_dZq, k_dIq, k_dHq, k_dNq, k_dKq, k_dJq, k_dUq, k_dOq, hHd9q, (hMn.mono hMn9q (by omega))⟩ (by omega) 0 (Or.inl rfl)) mV_X5_goesBy qM_X5_130 rfl h49 rfl rfl hl9.1 (Nat.le_of_ble_eq_true rfl) ⟨⟨Nat.le_of_ble_eq_true rfl, Nat.le_of_ble_eq_true rfl⟩, Nat.le_of_ble_eq_true rfl, Nat.le_of_ble_eq_true rfl⟩ dX5_pass_38 (fun E ce q9 f69 H locs hPX hw hS hce hcv hcl => ?_) (fun v f69 H locs hP hw hS => ?_)
        · exact hPX.elim
        · obtain ⟨⟨r70, ev9⟩, h72, k73⟩ := hP
          have h72L := h72
          obtain ⟨gQ_n71, gS_n71, gL_n71, gR_n71, gT_n71, gZ_n71, gI_n71, gH_n71, gN_n71, gK_n71, gJ_n71, gU_n71, gO_n71, k_dQ_n71, k_dS_n71, k_dL_n71, k_dR_n71, k_dT_n71, k_dZ_n71, k_dI_n71, k_dH_n71, k_dN_n71, k_dK_n71, k_dJ_n71, k_dU_n71, k_dO_n71, hHd9_n71, hMn9_n71⟩ := id h72
          subst ev9
          refine W.eq (g2 := F0 m 41 ls [.int r70, .int k9]) rfl ?_
          refine lv_iadd hx hb dX5_pass_41 ?_
          refine lv_istore_n (lv' := [(2, .int (k9 + r70)), (3, .int (nI j)), (0, .ref mo), (1, .int xv)]) hx hb dX5_pass_42 rfl hl9 (by decide) rfl (fun ls hl9 => ?_)
          refine lv_iload_n hx hb dX5_pass_43 rfl (lv_at hl9 0 rfl) ?_
          refine lv_aload_n hx hb dX5_pass_44 rfl (lv_at hl9 2 rfl) ?_
          refine lv_iconst (v := 1) hx hb dX5_pass_45 (by decide) ?_
          have h74 : f69 mo = some (.inr (5, [.int 0, .ref dW, .ref dA, .ref dQ, .ref dM, .ref dS, .ref dL, .ref dR, .ref dT, .ref dZ, .ref dI, .ref dH, .ref dN, .ref dK, .ref dJ, .ref dU, .ref dO, .int (nI n), .int (nI a), .ref dF, .ref dP, .ref dE, .ref dX, .ref dY, .int (nI x), .int (nI cg), .ref dG])) := (hEq.k k73) _ _ h49 (ninc (Ne.symm n24) (ninc (Ne.symm n26) (ninc (Ne.symm n28) (ninc (Ne.symm n30) (ninc (Ne.symm n32) (ninc (Ne.symm n34) (ninc (Ne.symm n36) (ninc (Ne.symm n38) (ninc (Ne.symm n40) (ninc (Ne.symm n42) (ninc (Ne.symm n44) (ninc (Ne.symm n46) (ninc (Ne.symm n48) nin0)))))))))))))
          have h75 : f69 dM = some (.inl (cI G, 2, .inl (mA2 mg0 mg1))) := (hEq.k k73) _ _ h50 (ninc n55 (ninc nd_dM_dS (ninc nd_dM_dL (ninc nd_dM_dR (ninc nd_dM_dT (ninc nd_dM_dZ (ninc nd_dM_dI (ninc nd_dM_dH (ninc nd_dM_dN (ninc n54 (ninc n53 (ninc n52 (ninc n51 nin0)))))))))))))
          have h76 : f69 dA = some (.inl (cI G, 12, .inl (jn ga0 ga1))) := (hEq.k k73) _ _ h56 (ninc nd_dA_dQ (ninc n68 (ninc n67 (ninc n66 (ninc n65 (ninc n64 (ninc n63 (ninc n62 (ninc n61 (ninc n60 (ninc n59 (ninc n58 (ninc n57 nin0)))))))))))))
          refine hp_V (ci := 5) (As := [.int 1]) (rest := [.int (k9 + r70)]) B0 hw hS (c_W5_goesBy hl G f69 mo dW dA dQ dM dS dL dR dT dZ dI dH dN dK dJ dU dO dF dP dE dX dY dG 0 (nI n) (nI a) (nI x) (nI cg) h74 hND (mA2 mg0 mg1) (jn ga0 ga1) h75 h76 hSA ((B + 2 * j) + 1) ⟨_, _, _, _, _, _, _, _, _, _, _, _, _, k_dQ_n71, k_dS_n71, k_dL_n71, k_dR_n71, k_dT_n71, k_dZ_n71, k_dI_n71, k_dH_n71, k_dN_n71, k_dK_n71, k_dJ_n71, k_dU_n71, k_dO_n71, hHd9_n71, (hMn.mono hMn9_n71 (by omega))⟩ (by omega) 1 (Or.inr rfl)) mV_X5_goesBy qM_X5_130 rfl h74 rfl rfl hl9.1 (Nat.le_of_ble_eq_true rfl) ⟨⟨Nat.le_of_ble_eq_true rfl, Nat.le_of_ble_eq_true rfl⟩, Nat.le_of_ble_eq_true rfl, Nat.le_of_ble_eq_true rfl⟩ dX5_pass_46 (fun E ce q9 f77 H locs hPX hw hS hce hcv hcl => ?_) (fun v f77 H locs hP hw hS => ?_)
          · exact hPX.elim
          · obtain ⟨⟨r78, ev9⟩, h80, k81⟩ := hP
            have h80L := h80
            obtain ⟨gQ_n79, gS_n79, gL_n79, gR_n79, gT_n79, gZ_n79, gI_n79, gH_n79, gN_n79, gK_n79, gJ_n79, gU_n79, gO_n79, k_dQ_n79, k_dS_n79, k_dL_n79, k_dR_n79, k_dT_n79, k_dZ_n79, k_dI_n79, k_dH_n79, k_dN_n79, k_dK_n79, k_dJ_n79, k_dU_n79, k_dO_n79, hHd9_n79, hMn9_n79⟩ := id h80
            subst ev9
            refine W.eq (g2 := F0 m 49 ls [.int r78, .int (k9 + r70)]) rfl ?_
            refine lv_iadd hx hb dX5_pass_49 ?_
            refine lv_istore_n (lv' := [(2, .int ((k9 + r70) + r78)), (3, .int (nI j)), (0, .ref mo), (1, .int xv)]) hx hb dX5_pass_50 rfl hl9 (by decide) rfl (fun ls hl9 => ?_)
            refine lv_iinc (v := (nI (j + 1))) (lv' := [(3, .int (nI (j + 1))), (2, .int ((k9 + r70) + r78)), (0, .ref mo), (1, .int xv)]) hx hb dX5_pass_51 hl9 (k := 1) rfl (nI_1 j) (by decide) rfl (fun ls hl9 => ?_)
            refine lv_goto (tgt := 23) hx hb dX5_pass_54 (by decide) ?_
            exact ih _ _ H locs ls ⟨_, ⟨_, _, _, _, _, _, _, _, _, _, _, _, _, k_dQ_n79, k_dS_n79, k_dL_n79, k_dR_n79, k_dT_n79, k_dZ_n79, k_dI_n79, k_dH_n79, k_dN_n79, k_dK_n79, k_dJ_n79, k_dU_n79, k_dO_n79, hHd9_n79, (hMn.mono hMn9_n79 (by omega))⟩, hk9.tr ((show hEq [dQ, dS, dL, dR, dT, dZ, dI, dH, dN, dK, dJ, dU, dO] f9 f69 from (hEq.mono k73 (fun _ h9 => h9))).tr (show hEq [dQ, dS, dL, dR, dT, dZ, dI, dH, dN, dK, dJ, dU, dO] f69 f77 from (hEq.mono k81 (fun _ h9 => h9)))), rfl⟩ hw hS (lv_sub hl9 [0, 2, 3, 1] rfl)
      · obtain ⟨k9, hL9, hk9, el9⟩ := hI
        rw [el9] at hl9
        obtain ⟨gQq, gSq, gLq, gRq, gTq, gZq, gIq, gHq, gNq, gKq, gJq, gUq, gOq, k_dQq, k_dSq, k_dLq, k_dRq, k_dTq, k_dZq, k_dIq, k_dHq, k_dNq, k_dKq, k_dJq, k_dUq, k_dOq, hHd9q, hMn9q⟩ := id hL9
        refine lv_iload_n hx hb dX5_pass_23 rfl (lv_at hl9 0 rfl) ?_
        refine lv_iload_n hx hb dX5_pass_24 rfl (lv_at hl9 2 rfl) ?_
        refine lv_icmp_ge (tgt := 57) hx hb dX5_pass_25 (by decide) (fun _ => ?_) (fun c9 => absurd (by rw [eT]; exact nI_le (Nat.le_refl _) (by omega)) c9)
        refine lv_iload_n hx hb dX5_pass_57 rfl (lv_at hl9 3 rfl) ?_
        have h82 : f9 mo = some (.inr (5, [.int 0, .ref dW, .ref dA, .ref dQ, .ref dM, .ref dS, .ref dL, .ref dR, .ref dT, .ref dZ, .ref dI, .ref dH, .ref dN, .ref dK, .ref dJ, .ref dU, .ref dO, .int (nI n), .int (nI a), .ref dF, .ref dP, .ref dE, .ref dX, .ref dY, .int (nI x), .int (nI cg), .ref dG])) := (hEq.k hk9) _ _ h4 (ninc (Ne.symm n24) (ninc (Ne.symm n26) (ninc (Ne.symm n28) (ninc (Ne.symm n30) (ninc (Ne.symm n32) (ninc (Ne.symm n34) (ninc (Ne.symm n36) (ninc (Ne.symm n38) (ninc (Ne.symm n40) (ninc (Ne.symm n42) (ninc (Ne.symm n44) (ninc (Ne.symm n46) (ninc (Ne.symm n48) nin0)))))))))))))
        have n84 : dW ≠ dO := hneL k_dW k_dO (Nat.ne_of_beq_eq_false rfl)
        have n85 : dW ≠ dU := hneL k_dW k_dU (Nat.ne_of_beq_eq_false rfl)
        have n86 : dW ≠ dJ := hneL k_dW k_dJ (Nat.ne_of_beq_eq_false rfl)
        have n87 : dW ≠ dK := hneL k_dW k_dK (Nat.ne_of_beq_eq_false rfl)
        have n88 : dW ≠ dN := hneL k_dW k_dN (Nat.ne_of_beq_eq_false rfl)
        have n89 : dW ≠ dH := hneL k_dW k_dH (Nat.ne_of_beq_eq_false rfl)
        have n90 : dW ≠ dI := hneL k_dW k_dI (Nat.ne_of_beq_eq_false rfl)
        have n91 : dW ≠ dZ := hneL k_dW k_dZ (Nat.ne_of_beq_eq_false rfl)
        have n92 : dW ≠ dT := hneL k_dW k_dT (Nat.ne_of_beq_eq_false rfl)
        have n93 : dW ≠ dR := hneL k_dW k_dR (Nat.ne_of_beq_eq_false rfl)
        have n94 : dW ≠ dL := hneL k_dW k_dL (Nat.ne_of_beq_eq_false rfl)
        have n95 : dW ≠ dS := hneL k_dW k_dS (Nat.ne_of_beq_eq_false rfl)
        have h83 : f9 dW = some (.inl (cI G, 12, .inl (jn gw0 gw1))) := (hEq.k hk9) _ _ h5 (ninc nd_dW_dQ (ninc n95 (ninc n94 (ninc n93 (ninc n92 (ninc n91 (ninc n90 (ninc n89 (ninc n88 (ninc n87 (ninc n86 (ninc n85 (ninc n84 nin0)))))))))))))
        have n97 : dA ≠ dO := hneL k_dA k_dO (Nat.ne_of_beq_eq_false rfl)
        have n98 : dA ≠ dU := hneL k_dA k_dU (Nat.ne_of_beq_eq_false rfl)
        have n99 : dA ≠ dJ := hneL k_dA k_dJ (Nat.ne_of_beq_eq_false rfl)
        have n100 : dA ≠ dK := hneL k_dA k_dK (Nat.ne_of_beq_eq_false rfl)
        have n101 : dA ≠ dN := hneL k_dA k_dN (Nat.ne_of_beq_eq_false rfl)
        have n102 : dA ≠ dH := hneL k_dA k_dH (Nat.ne_of_beq_eq_false rfl)
        have n103 : dA ≠ dI := hneL k_dA k_dI (Nat.ne_of_beq_eq_false rfl)
        have n104 : dA ≠ dZ := hneL k_dA k_dZ (Nat.ne_of_beq_eq_false rfl)
        have n105 : dA ≠ dT := hneL k_dA k_dT (Nat.ne_of_beq_eq_false rfl)
        have n106 : dA ≠ dR := hneL k_dA k_dR (Nat.ne_of_beq_eq_false rfl)
        have n107 : dA ≠ dL := hneL k_dA k_dL (Nat.ne_of_beq_eq_false rfl)
        have n108 : dA ≠ dS := hneL k_dA k_dS (Nat.ne_of_beq_eq_false rfl)
        have h96 : f9 dA = some (.inl (cI G, 12, .inl (jn ga0 ga1))) := (hEq.k hk9) _ _ h7 (ninc nd_dA_dQ (ninc n108 (ninc n107 (ninc n106 (ninc n105 (ninc n104 (ninc n103 (ninc n102 (ninc n101 (ninc n100 (ninc n99 (ninc n98 (ninc n97 nin0)))))))))))))
        have n110 : dM ≠ dO := hneL k_dM k_dO (Nat.ne_of_beq_eq_false rfl)
        have n111 : dM ≠ dU := hneL k_dM k_dU (Nat.ne_of_beq_eq_false rfl)
        have n112 : dM ≠ dJ := hneL k_dM k_dJ (Nat.ne_of_beq_eq_false rfl)
        have n113 : dM ≠ dK := hneL k_dM k_dK (Nat.ne_of_beq_eq_false rfl)
        have n114 : dM ≠ dQ := hneL k_dM k_dQ (Nat.ne_of_beq_eq_false rfl)
        have h109 : f9 dM = some (.inl (cI G, 2, .inl (mA2 mg0 mg1))) := (hEq.k hk9) _ _ h9 (ninc n114 (ninc nd_dM_dS (ninc nd_dM_dL (ninc nd_dM_dR (ninc nd_dM_dT (ninc nd_dM_dZ (ninc nd_dM_dI (ninc nd_dM_dH (ninc nd_dM_dN (ninc n113 (ninc n112 (ninc n111 (ninc n110 nin0)))))))))))))
        have n116 : dF ≠ dO := hneL k_dF k_dO (Nat.ne_of_beq_eq_false rfl)
        have n117 : dF ≠ dU := hneL k_dF k_dU (Nat.ne_of_beq_eq_false rfl)
        have n118 : dF ≠ dJ := hneL k_dF k_dJ (Nat.ne_of_beq_eq_false rfl)
        have n119 : dF ≠ dK := hneL k_dF k_dK (Nat.ne_of_beq_eq_false rfl)
        have n120 : dF ≠ dN := hneL k_dF k_dN (Nat.ne_of_beq_eq_false rfl)
        have n121 : dF ≠ dH := hneL k_dF k_dH (Nat.ne_of_beq_eq_false rfl)
        have n122 : dF ≠ dI := hneL k_dF k_dI (Nat.ne_of_beq_eq_false rfl)
        have n123 : dF ≠ dZ := hneL k_dF k_dZ (Nat.ne_of_beq_eq_false rfl)
        have n124 : dF ≠ dT := hneL k_dF k_dT (Nat.ne_of_beq_eq_false rfl)
        have n125 : dF ≠ dR := hneL k_dF k_dR (Nat.ne_of_beq_eq_false rfl)
        have n126 : dF ≠ dL := hneL k_dF k_dL (Nat.ne_of_beq_eq_false rfl)
        have n127 : dF ≠ dS := hneL k_dF k_dS (Nat.ne_of_beq_eq_false rfl)
        have n128 : dF ≠ dQ := hneL k_dF k_dQ (Nat.ne_of_beq_eq_false rfl)
        have h115 : f9 dF = some (.inl (cI G, 61, .inl (nf sa))) := (hEq.k hk9) _ _ h11 (ninc n128 (ninc n127 (ninc n126 (ninc n125 (ninc n124 (ninc n123 (ninc n122 (ninc n121 (ninc n120 (ninc n119 (ninc n118 (ninc n117 (ninc n116 nin0)))))))))))))
        have n130 : dP ≠ dO := hneL k_dP k_dO (Nat.ne_of_beq_eq_false rfl)
        have n131 : dP ≠ dU := hneL k_dP k_dU (Nat.ne_of_beq_eq_false rfl)
        have n132 : dP ≠ dJ := hneL k_dP k_dJ (Nat.ne_of_beq_eq_false rfl)
        have n133 : dP ≠ dK := hneL k_dP k_dK (Nat.ne_of_beq_eq_false rfl)
        have n134 : dP ≠ dN := hneL k_dP k_dN (Nat.ne_of_beq_eq_false rfl)
        have n135 : dP ≠ dH := hneL k_dP k_dH (Nat.ne_of_beq_eq_false rfl)
        have n136 : dP ≠ dI := hneL k_dP k_dI (Nat.ne_of_beq_eq_false rfl)
        have n137 : dP ≠ dZ := hneL k_dP k_dZ (Nat.ne_of_beq_eq_false rfl)
        have n138 : dP ≠ dT := hneL k_dP k_dT (Nat.ne_of_beq_eq_false rfl)
        have n139 : dP ≠ dR := hneL k_dP k_dR (Nat.ne_of_beq_eq_false rfl)
        have n140 : dP ≠ dL := hneL k_dP k_dL (Nat.ne_of_beq_eq_false rfl)
        have n141 : dP ≠ dS := hneL k_dP k_dS (Nat.ne_of_beq_eq_false rfl)
        have n142 : dP ≠ dQ := hneL k_dP k_dQ (Nat.ne_of_beq_eq_false rfl)
        have h129 : f9 dP = some (.inl (cI G, 240, .inl (nf pk))) := (hEq.k hk9) _ _ h13 (ninc n142 (ninc n141 (ninc n140 (ninc n139 (ninc n138 (ninc n137 (ninc n136 (ninc n135 (ninc n134 (ninc n133 (ninc n132 (ninc n131 (ninc n130 nin0)))))))))))))
        have n144 : dE ≠ dO := hneL k_dE k_dO (Nat.ne_of_beq_eq_false rfl)
        have n145 : dE ≠ dU := hneL k_dE k_dU (Nat.ne_of_beq_eq_false rfl)
        have n146 : dE ≠ dJ := hneL k_dE k_dJ (Nat.ne_of_beq_eq_false rfl)
        have n147 : dE ≠ dK := hneL k_dE k_dK (Nat.ne_of_beq_eq_false rfl)
        have n148 : dE ≠ dN := hneL k_dE k_dN (Nat.ne_of_beq_eq_false rfl)
        have n149 : dE ≠ dH := hneL k_dE k_dH (Nat.ne_of_beq_eq_false rfl)
        have n150 : dE ≠ dI := hneL k_dE k_dI (Nat.ne_of_beq_eq_false rfl)
        have n151 : dE ≠ dZ := hneL k_dE k_dZ (Nat.ne_of_beq_eq_false rfl)
        have n152 : dE ≠ dT := hneL k_dE k_dT (Nat.ne_of_beq_eq_false rfl)
        have n153 : dE ≠ dR := hneL k_dE k_dR (Nat.ne_of_beq_eq_false rfl)
        have n154 : dE ≠ dL := hneL k_dE k_dL (Nat.ne_of_beq_eq_false rfl)
        have n155 : dE ≠ dS := hneL k_dE k_dS (Nat.ne_of_beq_eq_false rfl)
        have n156 : dE ≠ dQ := hneL k_dE k_dQ (Nat.ne_of_beq_eq_false rfl)
        have h143 : f9 dE = some (.inl (cZ G, 240, .inl gh)) := (hEq.k hk9) _ _ h15 (ninc n156 (ninc n155 (ninc n154 (ninc n153 (ninc n152 (ninc n151 (ninc n150 (ninc n149 (ninc n148 (ninc n147 (ninc n146 (ninc n145 (ninc n144 nin0)))))))))))))
        have n158 : dX ≠ dO := hneL k_dX k_dO (Nat.ne_of_beq_eq_false rfl)
        have n159 : dX ≠ dU := hneL k_dX k_dU (Nat.ne_of_beq_eq_false rfl)
        have n160 : dX ≠ dJ := hneL k_dX k_dJ (Nat.ne_of_beq_eq_false rfl)
        have n161 : dX ≠ dK := hneL k_dX k_dK (Nat.ne_of_beq_eq_false rfl)
        have n162 : dX ≠ dN := hneL k_dX k_dN (Nat.ne_of_beq_eq_false rfl)
        have n163 : dX ≠ dH := hneL k_dX k_dH (Nat.ne_of_beq_eq_false rfl)
        have n164 : dX ≠ dI := hneL k_dX k_dI (Nat.ne_of_beq_eq_false rfl)
        have n165 : dX ≠ dZ := hneL k_dX k_dZ (Nat.ne_of_beq_eq_false rfl)
        have n166 : dX ≠ dT := hneL k_dX k_dT (Nat.ne_of_beq_eq_false rfl)
        have n167 : dX ≠ dR := hneL k_dX k_dR (Nat.ne_of_beq_eq_false rfl)
        have n168 : dX ≠ dL := hneL k_dX k_dL (Nat.ne_of_beq_eq_false rfl)
        have n169 : dX ≠ dS := hneL k_dX k_dS (Nat.ne_of_beq_eq_false rfl)
        have n170 : dX ≠ dQ := hneL k_dX k_dQ (Nat.ne_of_beq_eq_false rfl)
        have h157 : f9 dX = some (.inl (cI G, 3, .inl (nf fl))) := (hEq.k hk9) _ _ h17 (ninc n170 (ninc n169 (ninc n168 (ninc n167 (ninc n166 (ninc n165 (ninc n164 (ninc n163 (ninc n162 (ninc n161 (ninc n160 (ninc n159 (ninc n158 nin0)))))))))))))
        have n172 : dY ≠ dO := hneL k_dY k_dO (Nat.ne_of_beq_eq_false rfl)
        have n173 : dY ≠ dU := hneL k_dY k_dU (Nat.ne_of_beq_eq_false rfl)
        have n174 : dY ≠ dJ := hneL k_dY k_dJ (Nat.ne_of_beq_eq_false rfl)
        have n175 : dY ≠ dK := hneL k_dY k_dK (Nat.ne_of_beq_eq_false rfl)
        have n176 : dY ≠ dN := hneL k_dY k_dN (Nat.ne_of_beq_eq_false rfl)
        have n177 : dY ≠ dH := hneL k_dY k_dH (Nat.ne_of_beq_eq_false rfl)
        have n178 : dY ≠ dI := hneL k_dY k_dI (Nat.ne_of_beq_eq_false rfl)
        have n179 : dY ≠ dZ := hneL k_dY k_dZ (Nat.ne_of_beq_eq_false rfl)
        have n180 : dY ≠ dT := hneL k_dY k_dT (Nat.ne_of_beq_eq_false rfl)
        have n181 : dY ≠ dR := hneL k_dY k_dR (Nat.ne_of_beq_eq_false rfl)
        have n182 : dY ≠ dL := hneL k_dY k_dL (Nat.ne_of_beq_eq_false rfl)
        have n183 : dY ≠ dS := hneL k_dY k_dS (Nat.ne_of_beq_eq_false rfl)
        have n184 : dY ≠ dQ := hneL k_dY k_dQ (Nat.ne_of_beq_eq_false rfl)
        have h171 : f9 dY = some (.inl (cI G, 3, .inl gl)) := (hEq.k hk9) _ _ h19 (ninc n184 (ninc n183 (ninc n182 (ninc n181 (ninc n180 (ninc n179 (ninc n178 (ninc n177 (ninc n176 (ninc n175 (ninc n174 (ninc n173 (ninc n172 nin0)))))))))))))
        have n186 : dG ≠ dO := hneL k_dG k_dO (Nat.ne_of_beq_eq_false rfl)
        have n187 : dG ≠ dU := hneL k_dG k_dU (Nat.ne_of_beq_eq_false rfl)
        have n188 : dG ≠ dJ := hneL k_dG k_dJ (Nat.ne_of_beq_eq_false rfl)
        have n189 : dG ≠ dK := hneL k_dG k_dK (Nat.ne_of_beq_eq_false rfl)
        have n190 : dG ≠ dN := hneL k_dG k_dN (Nat.ne_of_beq_eq_false rfl)
        have n191 : dG ≠ dH := hneL k_dG k_dH (Nat.ne_of_beq_eq_false rfl)
        have n192 : dG ≠ dI := hneL k_dG k_dI (Nat.ne_of_beq_eq_false rfl)
        have n193 : dG ≠ dZ := hneL k_dG k_dZ (Nat.ne_of_beq_eq_false rfl)
        have n194 : dG ≠ dT := hneL k_dG k_dT (Nat.ne_of_beq_eq_false rfl)
        have n195 : dG ≠ dR := hneL k_dG k_dR (Nat.ne_of_beq_eq_false rfl)
        have n196 : dG ≠ dL := hneL k_dG k_dL (Nat.ne_of_beq_eq_false rfl)
        have n197 : dG ≠ dS := hneL k_dG k_dS (Nat.ne_of_beq_eq_false rfl)
        have n198 : dG ≠ dQ := hneL k_dG k_dQ (Nat.ne_of_beq_eq_false rfl)
        have h185 : f9 dG = some (.inl (cI G, 60, .inl (nf gv))) := (hEq.k hk9) _ _ h21 (ninc n198 (ninc n197 (ninc n196 (ninc n195 (ninc n194 (ninc n193 (ninc n192 (ninc n191 (ninc n190 (ninc n189 (ninc n188 (ninc n187 (ninc n186 nin0)))))))))))))
        exact hp_iret (v := k9) B0 hw hS hr ⟨Nat.le_of_ble_eq_true rfl, Nat.le_of_ble_eq_true rfl⟩ dX5_pass_58 (⟨⟨_, rfl⟩, ⟨_, ⟨h82, hND, ⟨_, _, _, _, _, _, _, _, _, _, _, _, _, k_dQq, k_dSq, k_dLq, k_dRq, k_dTq, k_dZq, k_dIq, k_dHq, k_dNq, k_dKq, k_dJq, k_dUq, k_dOq, hHd9q, (hMn.mono hMn9q (by omega))⟩, h83, h96, h109, h115, h129, h143, h157, h171, h185, hSA, hB9, hfl9⟩⟩, ((show hEq [mo, dW, dA, dQ, dM, dS, dL, dR, dT, dZ, dI, dH, dN, dK, dJ, dU, dO, dF, dP, dE, dX, dY, dG] f f3 from (by rw [ef3]; exact hEq.up List.mem_cons_self)).tr (show hEq [mo, dW, dA, dQ, dM, dS, dL, dR, dT, dZ, dI, dH, dN, dK, dJ, dU, dO, dF, dP, dE, dX, dY, dG] f3 f9 from (hEq.mono hk9 sub13)))⟩)
    · subst ev9
      refine W.eq (g2 := F0 m 8 ls [.int 0, .ref mo]) rfl ?_
      refine lv_if_eq (tgt := 15) hx hb dX5_pass_8 (by decide) (fun _ => ?_) (fun c9 => absurd (by decide) c9)
      refine lv_iconst (v := 1) hx hb dX5_pass_15 (by decide) ?_
      refine hp_put (fs1 := [.int 1, .ref dW, .ref dA, .ref dQ, .ref dM, .ref dS, .ref dL, .ref dR, .ref dT, .ref dZ, .ref dI, .ref dH, .ref dN, .ref dK, .ref dJ, .ref dU, .ref dO, .int (nI n), .int (nI a), .ref dF, .ref dP, .ref dE, .ref dX, .ref dY, .int (nI x), .int (nI cg), .ref dG]) (ty := .int) B0 hw hS 5 rfl in_X5 tyX5 tyX5_ok nmX5 k_mo 0 (by decide) qF_X5_77 rfl (by decide +kernel) rfl rfl (Nat.le_of_ble_eq_true rfl) rfl dX5_pass_16 (fun H locs f199 ef199 hw hS => ?_)
      have h200 : f199 mo = some (.inr (5, [.int 1, .ref dW, .ref dA, .ref dQ, .ref dM, .ref dS, .ref dL, .ref dR, .ref dT, .ref dZ, .ref dI, .ref dH, .ref dN, .ref dK, .ref dJ, .ref dU, .ref dO, .int (nI n), .int (nI a), .ref dF, .ref dP, .ref dE, .ref dX, .ref dY, .int (nI x), .int (nI cg), .ref dG])) := by rw [ef199, va_up_self]
      refine lv_iconst (v := 0) hx hb dX5_pass_19 (by decide) ?_
      refine lv_istore_n (lv' := [(2, .int 0), (0, .ref mo), (1, .int xv)]) hx hb dX5_pass_20 rfl hl9 (by decide) rfl (fun ls hl9 => ?_)
      refine lv_iconst (v := 0) hx hb dX5_pass_21 (by decide) ?_
      refine lv_istore_n (lv' := [(3, .int 0), (2, .int 0), (0, .ref mo), (1, .int xv)]) hx hb dX5_pass_22 rfl hl9 (by decide) rfl (fun ls hl9 => ?_)
      refine lv_iload_n hx hb dX5_pass_23 rfl (lv_at hl9 0 rfl) ?_
      refine lv_iload_n hx hb dX5_pass_24 rfl (lv_at hl9 3 rfl) ?_
      refine lv_icmp_ge (tgt := 57) hx hb dX5_pass_25 (by decide) (fun c201 => ?_) (fun c201 => ?_)
      · refine lv_iload_n hx hb dX5_pass_57 rfl (lv_at hl9 1 rfl) ?_
        have n203 : dQ ≠ mo := hne k_dQ k_mo (Nat.ne_of_beq_eq_false rfl)
        have h202 : f199 dQ = some (.inl (cI G, 12, .inl gQ)) := by rw [ef199, va_up_ne _ _ n203]; exact k_dQ
        have n205 : dS ≠ mo := hne k_dS k_mo (Nat.ne_of_beq_eq_false rfl)
        have h204 : f199 dS = some (.inl (cI G, 2, .inl gS)) := by rw [ef199, va_up_ne _ _ n205]; exact k_dS
        have n207 : dL ≠ mo := hne k_dL k_mo (Nat.ne_of_beq_eq_false rfl)
        have h206 : f199 dL = some (.inl (cI G, 2, .inl gL)) := by rw [ef199, va_up_ne _ _ n207]; exact k_dL
        have n209 : dR ≠ mo := hne k_dR k_mo (Nat.ne_of_beq_eq_false rfl)
        have h208 : f199 dR = some (.inl (cI G, 2, .inl gR)) := by rw [ef199, va_up_ne _ _ n209]; exact k_dR
        have n211 : dT ≠ mo := hne k_dT k_mo (Nat.ne_of_beq_eq_false rfl)
        have h210 : f199 dT = some (.inl (cI G, 2, .inl gT)) := by rw [ef199, va_up_ne _ _ n211]; exact k_dT
        have n213 : dZ ≠ mo := hne k_dZ k_mo (Nat.ne_of_beq_eq_false rfl)
        have h212 : f199 dZ = some (.inl (cZ G, 2, .inl gZ)) := by rw [ef199, va_up_ne _ _ n213]; exact k_dZ
        have n215 : dI ≠ mo := hne k_dI k_mo (Nat.ne_of_beq_eq_false rfl)
        have h214 : f199 dI = some (.inl (cI G, 2, .inl gI)) := by rw [ef199, va_up_ne _ _ n215]; exact k_dI
        have n217 : dH ≠ mo := hne k_dH k_mo (Nat.ne_of_beq_eq_false rfl)
        have h216 : f199 dH = some (.inl (cI G, 2, .inl gH)) := by rw [ef199, va_up_ne _ _ n217]; exact k_dH
        have n219 : dN ≠ mo := hne k_dN k_mo (Nat.ne_of_beq_eq_false rfl)
        have h218 : f199 dN = some (.inl (cI G, 2, .inl gN)) := by rw [ef199, va_up_ne _ _ n219]; exact k_dN
        have n221 : dK ≠ mo := hne k_dK k_mo (Nat.ne_of_beq_eq_false rfl)
        have h220 : f199 dK = some (.inl (cI G, 2048, .inl gK)) := by rw [ef199, va_up_ne _ _ n221]; exact k_dK
        have n223 : dJ ≠ mo := hne k_dJ k_mo (Nat.ne_of_beq_eq_false rfl)
        have h222 : f199 dJ = some (.inl (cI G, 2048, .inl gJ)) := by rw [ef199, va_up_ne _ _ n223]; exact k_dJ
        have n225 : dU ≠ mo := hne k_dU k_mo (Nat.ne_of_beq_eq_false rfl)
        have h224 : f199 dU = some (.inl (cI G, 2048, .inl gU)) := by rw [ef199, va_up_ne _ _ n225]; exact k_dU
        have n227 : dO ≠ mo := hne k_dO k_mo (Nat.ne_of_beq_eq_false rfl)
        have h226 : f199 dO = some (.inl (cI G, 2048, .inl gO)) := by rw [ef199, va_up_ne _ _ n227]; exact k_dO
        have n229 : dW ≠ mo := hne k_dW k_mo (Nat.ne_of_beq_eq_false rfl)
        have h228 : f199 dW = some (.inl (cI G, 12, .inl (jn gw0 gw1))) := by rw [ef199, va_up_ne _ _ n229]; exact k_dW
        have n231 : dA ≠ mo := hne k_dA k_mo (Nat.ne_of_beq_eq_false rfl)
        have h230 : f199 dA = some (.inl (cI G, 12, .inl (jn ga0 ga1))) := by rw [ef199, va_up_ne _ _ n231]; exact k_dA
        have n233 : dM ≠ mo := hne k_dM k_mo (Nat.ne_of_beq_eq_false rfl)
        have h232 : f199 dM = some (.inl (cI G, 2, .inl (mA2 mg0 mg1))) := by rw [ef199, va_up_ne _ _ n233]; exact k_dM
        have n235 : dF ≠ mo := hne k_dF k_mo (Nat.ne_of_beq_eq_false rfl)
        have h234 : f199 dF = some (.inl (cI G, 61, .inl (nf sa))) := by rw [ef199, va_up_ne _ _ n235]; exact k_dF
        have n237 : dP ≠ mo := hne k_dP k_mo (Nat.ne_of_beq_eq_false rfl)
        have h236 : f199 dP = some (.inl (cI G, 240, .inl (nf pk))) := by rw [ef199, va_up_ne _ _ n237]; exact k_dP
        have n239 : dE ≠ mo := hne k_dE k_mo (Nat.ne_of_beq_eq_false rfl)
        have h238 : f199 dE = some (.inl (cZ G, 240, .inl gh)) := by rw [ef199, va_up_ne _ _ n239]; exact k_dE
        have n241 : dX ≠ mo := hne k_dX k_mo (Nat.ne_of_beq_eq_false rfl)
        have h240 : f199 dX = some (.inl (cI G, 3, .inl (nf fl))) := by rw [ef199, va_up_ne _ _ n241]; exact k_dX
        have n243 : dY ≠ mo := hne k_dY k_mo (Nat.ne_of_beq_eq_false rfl)
        have h242 : f199 dY = some (.inl (cI G, 3, .inl gl)) := by rw [ef199, va_up_ne _ _ n243]; exact k_dY
        have n245 : dG ≠ mo := hne k_dG k_mo (Nat.ne_of_beq_eq_false rfl)
        have h244 : f199 dG = some (.inl (cI G, 60, .inl (nf gv))) := by rw [ef199, va_up_ne _ _ n245]; exact k_dG
        exact hp_iret (v := 0) B0 hw hS hr ⟨Nat.le_of_ble_eq_true rfl, Nat.le_of_ble_eq_true rfl⟩ dX5_pass_58 (⟨⟨_, rfl⟩, ⟨_, ⟨h200, hND, ⟨_, _, _, _, _, _, _, _, _, _, _, _, _, h202, h204, h206, h208, h210, h212, h214, h216, h218, h220, h222, h224, h226, hHd9, (hMn.mono hMn9 (by omega))⟩, h228, h230, h232, h234, h236, h238, h240, h242, h244, hSA, hB9, hfl9⟩⟩, (show hEq [mo, dW, dA, dQ, dM, dS, dL, dR, dT, dZ, dI, dH, dN, dK, dJ, dU, dO, dF, dP, dE, dX, dY, dG] f f199 from (by rw [ef199]; exact hEq.up List.mem_cons_self))⟩)
      · refine lv_aload_n hx hb dX5_pass_28 rfl (lv_at hl9 2 rfl) ?_
        refine hp_get B0 hw 5 rfl in_X5 h200 0 (by decide) qF_X5_77 rfl dX5_pass_29 ?_
        refine lv_if_ne (tgt := 57) hx hb dX5_pass_32 (by decide) (fun _ => ?_) (fun c9 => absurd c9 (by decide))
        refine lv_iload_n hx hb dX5_pass_57 rfl (lv_at hl9 1 rfl) ?_
        have n247 : dQ ≠ mo := hne k_dQ k_mo (Nat.ne_of_beq_eq_false rfl)
        have h246 : f199 dQ = some (.inl (cI G, 12, .inl gQ)) := by rw [ef199, va_up_ne _ _ n247]; exact k_dQ
        have n249 : dS ≠ mo := hne k_dS k_mo (Nat.ne_of_beq_eq_false rfl)
        have h248 : f199 dS = some (.inl (cI G, 2, .inl gS)) := by rw [ef199, va_up_ne _ _ n249]; exact k_dS
        have n251 : dL ≠ mo := hne k_dL k_mo (Nat.ne_of_beq_eq_false rfl)
        have h250 : f199 dL = some (.inl (cI G, 2, .inl gL)) := by rw [ef199, va_up_ne _ _ n251]; exact k_dL
        have n253 : dR ≠ mo := hne k_dR k_mo (Nat.ne_of_beq_eq_false rfl)
        have h252 : f199 dR = some (.inl (cI G, 2, .inl gR)) := by rw [ef199, va_up_ne _ _ n253]; exact k_dR
        have n255 : dT ≠ mo := hne k_dT k_mo (Nat.ne_of_beq_eq_false rfl)
        have h254 : f199 dT = some (.inl (cI G, 2, .inl gT)) := by rw [ef199, va_up_ne _ _ n255]; exact k_dT
        have n257 : dZ ≠ mo := hne k_dZ k_mo (Nat.ne_of_beq_eq_false rfl)
        have h256 : f199 dZ = some (.inl (cZ G, 2, .inl gZ)) := by rw [ef199, va_up_ne _ _ n257]; exact k_dZ
        have n259 : dI ≠ mo := hne k_dI k_mo (Nat.ne_of_beq_eq_false rfl)
        have h258 : f199 dI = some (.inl (cI G, 2, .inl gI)) := by rw [ef199, va_up_ne _ _ n259]; exact k_dI
        have n261 : dH ≠ mo := hne k_dH k_mo (Nat.ne_of_beq_eq_false rfl)
        have h260 : f199 dH = some (.inl (cI G, 2, .inl gH)) := by rw [ef199, va_up_ne _ _ n261]; exact k_dH
        have n263 : dN ≠ mo := hne k_dN k_mo (Nat.ne_of_beq_eq_false rfl)
        have h262 : f199 dN = some (.inl (cI G, 2, .inl gN)) := by rw [ef199, va_up_ne _ _ n263]; exact k_dN
        have n265 : dK ≠ mo := hne k_dK k_mo (Nat.ne_of_beq_eq_false rfl)
        have h264 : f199 dK = some (.inl (cI G, 2048, .inl gK)) := by rw [ef199, va_up_ne _ _ n265]; exact k_dK
        have n267 : dJ ≠ mo := hne k_dJ k_mo (Nat.ne_of_beq_eq_false rfl)
        have h266 : f199 dJ = some (.inl (cI G, 2048, .inl gJ)) := by rw [ef199, va_up_ne _ _ n267]; exact k_dJ
        have n269 : dU ≠ mo := hne k_dU k_mo (Nat.ne_of_beq_eq_false rfl)
        have h268 : f199 dU = some (.inl (cI G, 2048, .inl gU)) := by rw [ef199, va_up_ne _ _ n269]; exact k_dU
        have n271 : dO ≠ mo := hne k_dO k_mo (Nat.ne_of_beq_eq_false rfl)
        have h270 : f199 dO = some (.inl (cI G, 2048, .inl gO)) := by rw [ef199, va_up_ne _ _ n271]; exact k_dO
        have n273 : dW ≠ mo := hne k_dW k_mo (Nat.ne_of_beq_eq_false rfl)
        have h272 : f199 dW = some (.inl (cI G, 12, .inl (jn gw0 gw1))) := by rw [ef199, va_up_ne _ _ n273]; exact k_dW
        have n275 : dA ≠ mo := hne k_dA k_mo (Nat.ne_of_beq_eq_false rfl)
        have h274 : f199 dA = some (.inl (cI G, 12, .inl (jn ga0 ga1))) := by rw [ef199, va_up_ne _ _ n275]; exact k_dA
        have n277 : dM ≠ mo := hne k_dM k_mo (Nat.ne_of_beq_eq_false rfl)
        have h276 : f199 dM = some (.inl (cI G, 2, .inl (mA2 mg0 mg1))) := by rw [ef199, va_up_ne _ _ n277]; exact k_dM
        have n279 : dF ≠ mo := hne k_dF k_mo (Nat.ne_of_beq_eq_false rfl)
        have h278 : f199 dF = some (.inl (cI G, 61, .inl (nf sa))) := by rw [ef199, va_up_ne _ _ n279]; exact k_dF
        have n281 : dP ≠ mo := hne k_dP k_mo (Nat.ne_of_beq_eq_false rfl)
        have h280 : f199 dP = some (.inl (cI G, 240, .inl (nf pk))) := by rw [ef199, va_up_ne _ _ n281]; exact k_dP
        have n283 : dE ≠ mo := hne k_dE k_mo (Nat.ne_of_beq_eq_false rfl)
        have h282 : f199 dE = some (.inl (cZ G, 240, .inl gh)) := by rw [ef199, va_up_ne _ _ n283]; exact k_dE
        have n285 : dX ≠ mo := hne k_dX k_mo (Nat.ne_of_beq_eq_false rfl)
        have h284 : f199 dX = some (.inl (cI G, 3, .inl (nf fl))) := by rw [ef199, va_up_ne _ _ n285]; exact k_dX
        have n287 : dY ≠ mo := hne k_dY k_mo (Nat.ne_of_beq_eq_false rfl)
        have h286 : f199 dY = some (.inl (cI G, 3, .inl gl)) := by rw [ef199, va_up_ne _ _ n287]; exact k_dY
        have n289 : dG ≠ mo := hne k_dG k_mo (Nat.ne_of_beq_eq_false rfl)
        have h288 : f199 dG = some (.inl (cI G, 60, .inl (nf gv))) := by rw [ef199, va_up_ne _ _ n289]; exact k_dG
        exact hp_iret (v := 0) B0 hw hS hr ⟨Nat.le_of_ble_eq_true rfl, Nat.le_of_ble_eq_true rfl⟩ dX5_pass_58 (⟨⟨_, rfl⟩, ⟨_, ⟨h200, hND, ⟨_, _, _, _, _, _, _, _, _, _, _, _, _, h246, h248, h250, h252, h254, h256, h258, h260, h262, h264, h266, h268, h270, hHd9, (hMn.mono hMn9 (by omega))⟩, h272, h274, h276, h278, h280, h282, h284, h286, h288, hSA, hB9, hfl9⟩⟩, (show hEq [mo, dW, dA, dQ, dM, dS, dL, dR, dT, dZ, dI, dH, dN, dK, dJ, dU, dO, dF, dP, dE, dX, dY, dG] f f199 from (by rw [ef199]; exact hEq.up List.mem_cons_self))⟩)

