def mA12 : Nat → Int32 := fun j => if j < 12 then (-1) else 0
def mA2 (a b : Int32) : Nat → Int32 := fun j => if j = 1 then b else if j = 0 then a else 0
def mA3 (a b c : Int32) : Nat → Int32 := fun j => if j = 2 then c else if j = 1 then b else if j = 0 then a else 0
theorem mA12_eq : (upd (upd (upd (upd (upd (upd (upd (upd (upd (upd (upd (upd (fun _ => 0) (0 : Int32).toNatClampNeg (-1)) (1 : Int32).toNatClampNeg (-1)) (2 : Int32).toNatClampNeg (-1)) (3 : Int32).toNatClampNeg (-1)) (4 : Int32).toNatClampNeg (-1)) (5 : Int32).toNatClampNeg (-1)) (6 : Int32).toNatClampNeg (-1)) (7 : Int32).toNatClampNeg (-1)) (8 : Int32).toNatClampNeg (-1)) (9 : Int32).toNatClampNeg (-1)) (10 : Int32).toNatClampNeg (-1)) (11 : Int32).toNatClampNeg (-1)) = mA12 := by
  funext j
  simp only [upd, cl0, cl1, cl2, cl3, cl4, cl5, cl6, cl7, cl8, cl9, cl10, cl11, mA12]
  by_cases h : j < 12
  · rw [if_pos h]
    rcases (show j = 0 ∨ j = 1 ∨ j = 2 ∨ j = 3 ∨ j = 4 ∨ j = 5 ∨ j = 6 ∨ j = 7 ∨ j = 8 ∨ j = 9 ∨ j = 10 ∨ j = 11 by omega) with rfl | rfl | rfl | rfl | rfl | rfl | rfl | rfl | rfl | rfl | rfl | rfl <;> rfl
  · rw [if_neg h]
    rw [if_neg (show ¬ j = 11 by omega)]
    rw [if_neg (show ¬ j = 10 by omega)]
    rw [if_neg (show ¬ j = 9 by omega)]
    rw [if_neg (show ¬ j = 8 by omega)]
    rw [if_neg (show ¬ j = 7 by omega)]
    rw [if_neg (show ¬ j = 6 by omega)]
    rw [if_neg (show ¬ j = 5 by omega)]
    rw [if_neg (show ¬ j = 4 by omega)]
    rw [if_neg (show ¬ j = 3 by omega)]
    rw [if_neg (show ¬ j = 2 by omega)]
    rw [if_neg (show ¬ j = 1 by omega)]
    rw [if_neg (show ¬ j = 0 by omega)]
theorem mA2_eq (a b : Int32) : upd (upd (fun _ => 0) (0 : Int32).toNatClampNeg a) (1 : Int32).toNatClampNeg b = mA2 a b := rfl
theorem mA3_eq (a b c : Int32) : upd (upd (upd (fun _ => 0) (0 : Int32).toNatClampNeg a) (1 : Int32).toNatClampNeg b) (2 : Int32).toNatClampNeg c = mA3 a b c := rfl
theorem mA12_in : ∀ j, j < 12 → mA12 j = -1 := fun j h => if_pos h
theorem vin2 {i : Int32} (h : sE i) : vp_in i 2 := by rcases h with rfl | rfl <;> (unfold vp_in; decide)
theorem vin12 {i o : Int32} (hi : sE i) (ho : sO o) : vp_in (6 * i + o) 12 := by
  obtain ⟨k, hk, rfl⟩ := vp_in_of (vin6 ho) (by decide)
  rcases hi with rfl | rfl
  · rw [show (6 : Int32) * 0 + nI k = nI k from Int32.zero_add _]
    exact vp_in_nI (by omega) (by decide)
  · rw [show (6 : Int32) * 1 = nI 6 from rfl, nI_add]
    exact vp_in_nI (by omega) (by decide)
theorem sE_of {i : Int32} : (0 ≤ i.toInt ∧ i.toInt ≤ 1) ↔ sE i := by
  constructor
  · intro h
    rcases (show i.toInt = 0 ∨ i.toInt = 1 by omega) with h1 | h1
    · exact Or.inl (Int32.toInt_inj.mp h1)
    · exact Or.inr (Int32.toInt_inj.mp h1)
  · intro h
    rcases h with rfl | rfl <;> decide
theorem spc_F {A : Prop} [Decidable A] : spc A False ≠ 0 := by
  by_cases a : A
  · rw [spc_2 a id]; decide
  · rw [spc_1 a]; decide
theorem X3_ge : ∀ j, j < 3 → (0 : Int32) ≤ mA3 0 1 2 j := by decide
set_option maxHeartbeats 4000000 in
set_option maxRecDepth 100000 in
theorem c_X5_in {l : Launch} (hl : l.stackTraces = false) (G : hG) (f : hM) (x a b : Int32) : CT l yX5_in (.code yX5_in cX5_in 3 (some .boolean)) 0 0 0 0 G [.int x, .int a, .int b] f (fun v f1 => f1 = f ∧ (((a.toInt ≤ x.toInt ∧ x.toInt ≤ b.toInt) ∧ v = some (.int 1)) ∨ (¬ (a.toInt ≤ x.toInt ∧ x.toInt ≤ b.toInt) ∧ v = some (.int 0)))) (fun E f1 => False) := by
  refine hp_start hl (own := RX5) (by decide) rfl (Nat.le_of_ble_eq_true rfl) ?_
  intro p e s m args below meth c B0 hr hnm hout hw hS ls hl9
  have hx := B0.1
  have hb := B0.2.1
  have hl9 : lv_has ls 3 [(0, .int x), (1, .int a), (2, .int b)] := hl9
  refine lv_iload_n hx hb dX5_in_0 rfl (lv_at hl9 0 rfl) ?_
  refine lv_iload_n hx hb dX5_in_1 rfl (lv_at hl9 1 rfl) ?_
  refine lv_icmp_lt (tgt := 14) hx hb dX5_in_2 (by decide) (fun c1 => ?_) (fun c1 => ?_)
  · refine lv_iconst (v := 0) hx hb dX5_in_14 (by decide) ?_
    exact hp_zret (v := 0) B0 hw hS hr ⟨Nat.le_of_ble_eq_true rfl, Nat.le_of_ble_eq_true rfl⟩ (rfl) dX5_in_15 (⟨rfl, Or.inr ⟨(fun h9 => by have h1 := c1; simp only [jlt, jle] at h1; obtain ⟨h3, h4⟩ := h9; omega), rfl⟩⟩)
  · refine lv_iload_n hx hb dX5_in_5 rfl (lv_at hl9 0 rfl) ?_
    refine lv_iload_n hx hb dX5_in_6 rfl (lv_at hl9 2 rfl) ?_
    refine lv_icmp_gt (tgt := 14) hx hb dX5_in_7 (by decide) (fun c2 => ?_) (fun c2 => ?_)
    · refine lv_iconst (v := 0) hx hb dX5_in_14 (by decide) ?_
      exact hp_zret (v := 0) B0 hw hS hr ⟨Nat.le_of_ble_eq_true rfl, Nat.le_of_ble_eq_true rfl⟩ (rfl) dX5_in_15 (⟨rfl, Or.inr ⟨(fun h9 => by have h1 := c2; simp only [jlt, jle] at h1; obtain ⟨h3, h4⟩ := h9; omega), rfl⟩⟩)
    · refine lv_iconst (v := 1) hx hb dX5_in_10 (by decide) ?_
      refine lv_goto (tgt := 15) hx hb dX5_in_11 (by decide) ?_
      exact hp_zret (v := 1) B0 hw hS hr ⟨Nat.le_of_ble_eq_true rfl, Nat.le_of_ble_eq_true rfl⟩ (rfl) dX5_in_15 (⟨rfl, Or.inl ⟨(by have h1 := c1; have h2 := c2; simp only [jlt, jle] at h1 h2; exact ⟨by omega, by omega⟩), rfl⟩⟩)

set_option maxHeartbeats 4000000 in
set_option maxRecDepth 100000 in
theorem c_X5_isEnd {l : Launch} (hl : l.stackTraces = false) (G : hG) (f : hM) (x : Int32) : CT l yX5_isEnd (.code yX5_isEnd cX5_isEnd 1 (some .boolean)) 1 22 0 0 G [.int x] f (fun v f1 => f1 = f ∧ ((sE x ∧ v = some (.int 1)) ∨ (¬ sE x ∧ v = some (.int 0)))) (fun E f1 => False) := by
  refine hp_start hl (own := RX5) (by decide) rfl (Nat.le_of_ble_eq_true rfl) ?_
  intro p e s m args below meth c B0 hr hnm hout hw hS ls hl9
  have hx := B0.1
  have hb := B0.2.1
  have hl9 : lv_has ls 1 [(0, .int x)] := hl9
  refine lv_iload_n hx hb dX5_isEnd_0 rfl (lv_at hl9 0 rfl) ?_
  refine lv_iconst (v := 0) hx hb dX5_isEnd_1 (by decide) ?_
  refine lv_iconst (v := 1) hx hb dX5_isEnd_2 (by decide) ?_
  refine hp_S (As := [.int x, .int 0, .int 1]) (rest := []) B0 hw hS (c_X5_in hl G f x 0 1) mS_X5_in qM_X5_81 rfl rfl hl9.1 (Nat.le_of_ble_eq_true rfl) ⟨⟨Nat.le_of_ble_eq_true rfl, Nat.le_of_ble_eq_true rfl⟩, Nat.le_of_ble_eq_true rfl, Nat.le_of_ble_eq_true rfl⟩ dX5_isEnd_3 (fun E ce q9 f1 H locs hPX hw hS hce hcv hcl => ?_) (fun v f1 H locs hP hw hS => ?_)
  · exact hPX.elim
  · obtain ⟨ef9, hv9⟩ := hP
    rw [ef9] at hw
    rcases hv9 with ⟨b2, ev9⟩ | ⟨b2, ev9⟩
    · subst ev9
      refine W.eq (g2 := F0 m 6 ls [.int 1]) rfl ?_
      exact hp_zret (v := 1) B0 hw hS hr ⟨Nat.le_of_ble_eq_true rfl, Nat.le_of_ble_eq_true rfl⟩ (rfl) dX5_isEnd_6 (⟨rfl, Or.inl ⟨sE_of.mp b2, rfl⟩⟩)
    · subst ev9
      refine W.eq (g2 := F0 m 6 ls [.int 0]) rfl ?_
      exact hp_zret (v := 0) B0 hw hS hr ⟨Nat.le_of_ble_eq_true rfl, Nat.le_of_ble_eq_true rfl⟩ (rfl) dX5_isEnd_6 (⟨rfl, Or.inr ⟨(fun h9 => b2 (sE_of.mpr h9)), rfl⟩⟩)

set_option maxHeartbeats 4000000 in
set_option maxRecDepth 100000 in
theorem c_X5_isOption {l : Launch} (hl : l.stackTraces = false) (G : hG) (f : hM) (x : Int32) : CT l yX5_isOption (.code yX5_isOption cX5_isOption 1 (some .boolean)) 1 22 0 0 G [.int x] f (fun v f1 => f1 = f ∧ ((sO x ∧ v = some (.int 1)) ∨ (¬ sO x ∧ v = some (.int 0)))) (fun E f1 => False) := by
  refine hp_start hl (own := RX5) (by decide) rfl (Nat.le_of_ble_eq_true rfl) ?_
  intro p e s m args below meth c B0 hr hnm hout hw hS ls hl9
  have hx := B0.1
  have hb := B0.2.1
  have hl9 : lv_has ls 1 [(0, .int x)] := hl9
  refine lv_iload_n hx hb dX5_isOption_0 rfl (lv_at hl9 0 rfl) ?_
  refine lv_iconst (v := 0) hx hb dX5_isOption_1 (by decide) ?_
  refine lv_iconst (v := 5) hx hb dX5_isOption_2 (by decide) ?_
  refine hp_S (As := [.int x, .int 0, .int 5]) (rest := []) B0 hw hS (c_X5_in hl G f x 0 5) mS_X5_in qM_X5_81 rfl rfl hl9.1 (Nat.le_of_ble_eq_true rfl) ⟨⟨Nat.le_of_ble_eq_true rfl, Nat.le_of_ble_eq_true rfl⟩, Nat.le_of_ble_eq_true rfl, Nat.le_of_ble_eq_true rfl⟩ dX5_isOption_3 (fun E ce q9 f1 H locs hPX hw hS hce hcv hcl => ?_) (fun v f1 H locs hP hw hS => ?_)
  · exact hPX.elim
  · obtain ⟨ef9, hv9⟩ := hP
    rw [ef9] at hw
    rcases hv9 with ⟨b2, ev9⟩ | ⟨b2, ev9⟩
    · subst ev9
      refine W.eq (g2 := F0 m 6 ls [.int 1]) rfl ?_
      exact hp_zret (v := 1) B0 hw hS hr ⟨Nat.le_of_ble_eq_true rfl, Nat.le_of_ble_eq_true rfl⟩ (rfl) dX5_isOption_6 (⟨rfl, Or.inl ⟨(by have h1 := b2; simp only [tq0, tq5] at h1; exact ⟨by omega, by omega⟩), rfl⟩⟩)
    · subst ev9
      refine W.eq (g2 := F0 m 6 ls [.int 0]) rfl ?_
      exact hp_zret (v := 0) B0 hw hS hr ⟨Nat.le_of_ble_eq_true rfl, Nat.le_of_ble_eq_true rfl⟩ (rfl) dX5_isOption_6 (⟨rfl, Or.inr ⟨(fun h9 => b2 (by simp only [tq0, tq5]; exact ⟨by omega, by omega⟩)), rfl⟩⟩)

set_option maxHeartbeats 4000000 in
set_option maxRecDepth 100000 in
theorem c_X5_wish0 {l : Launch} (hl : l.stackTraces = false) (G : hG) (f : hM) (mo dW dA dQ dM dS dL dR dT dZ dI dH dN dK dJ dU dO dF dP dE dX dY dG : Nat) (th : Int32) (k_mo : f mo = some (.inr (5, [.int th, .ref dW, .ref dA, .ref dQ, .ref dM, .ref dS, .ref dL, .ref dR, .ref dT, .ref dZ, .ref dI, .ref dH, .ref dN, .ref dK, .ref dJ, .ref dU, .ref dO, .int 0, .int 0, .ref dF, .ref dP, .ref dE, .ref dX, .ref dY, .int 0, .int 0, .ref dG]))) (k_dW : f dW = some (.inl (cI G, 12, .inl mA12))) (i o x : Int32) : CT l yX5_wish (.code yX5_wish cX5_wish 5 (some .int)) 2 42 0 0 G [.ref mo, .int i, .int o, .int x] f (fun v f1 => (∃ r : Int32, v = some (.int r) ∧ (spc (sE i ∧ sO o) (sV x) = 0 → r = -1)) ∧ (∃ c9 : List Value, f1 mo = some (.inr (5, .int (spc (sE i ∧ sO o) (sV x)) :: c9))) ∧ hKeep [mo, dW] f f1) (fun E f1 => False) := by
  refine hp_start hl (own := RX5) (by decide) rfl (Nat.le_of_ble_eq_true rfl) ?_
  intro p e s m args below meth c B0 hr hnm hout hw hS ls hl9
  have hx := B0.1
  have hb := B0.2.1
  have hl9 : lv_has ls 5 [(0, .ref mo), (1, .int i), (2, .int o), (3, .int x)] := hl9
  refine lv_aload_n hx hb dX5_wish_0 rfl (lv_at hl9 0 rfl) ?_
  refine lv_iload_n hx hb dX5_wish_1 rfl (lv_at hl9 1 rfl) ?_
  refine hp_S (As := [.int i]) (rest := [.ref mo]) B0 hw hS (c_X5_isEnd hl G f i) mS_X5_isEnd qM_X5_85 rfl rfl hl9.1 (Nat.le_of_ble_eq_true rfl) ⟨⟨Nat.le_of_ble_eq_true rfl, Nat.le_of_ble_eq_true rfl⟩, Nat.le_of_ble_eq_true rfl, Nat.le_of_ble_eq_true rfl⟩ dX5_wish_2 (fun E ce q9 f1 H locs hPX hw hS hce hcv hcl => ?_) (fun v f1 H locs hP hw hS => ?_)
  · exact hPX.elim
  · obtain ⟨ef9, hv9⟩ := hP
    rw [ef9] at hw
    rcases hv9 with ⟨b2, ev9⟩ | ⟨b2, ev9⟩
    · subst ev9
      refine W.eq (g2 := F0 m 5 ls [.int 1, .ref mo]) rfl ?_
      refine lv_if_eq (tgt := 15) hx hb dX5_wish_5 (by decide) (fun c9 => absurd c9 (by decide)) (fun _ => ?_)
      refine lv_iload_n hx hb dX5_wish_8 rfl (lv_at hl9 2 rfl) ?_
      refine hp_S (As := [.int o]) (rest := [.ref mo]) B0 hw hS (c_X5_isOption hl G f o) mS_X5_isOption qM_X5_89 rfl rfl hl9.1 (Nat.le_of_ble_eq_true rfl) ⟨⟨Nat.le_of_ble_eq_true rfl, Nat.le_of_ble_eq_true rfl⟩, Nat.le_of_ble_eq_true rfl, Nat.le_of_ble_eq_true rfl⟩ dX5_wish_9 (fun E ce q9 f3 H locs hPX hw hS hce hcv hcl => ?_) (fun v f3 H locs hP hw hS => ?_)
      · exact hPX.elim
      · obtain ⟨ef9, hv9⟩ := hP
        rw [ef9] at hw
        rcases hv9 with ⟨b4, ev9⟩ | ⟨b4, ev9⟩
        · subst ev9
          refine W.eq (g2 := F0 m 12 ls [.int 1, .ref mo]) rfl ?_
          refine lv_if_ne (tgt := 19) hx hb dX5_wish_12 (by decide) (fun _ => ?_) (fun c9 => absurd c9 (by decide))
          refine lv_iload_n hx hb dX5_wish_19 rfl (lv_at hl9 3 rfl) ?_
          refine lv_iconst (v := (-1)) hx hb dX5_wish_20 (by decide) ?_
          refine lv_bipush (v := 9) hx hb dX5_wish_21 (by decide) ?_
          refine hp_S (As := [.int x, .int (-1), .int 9]) (rest := [.ref mo]) B0 hw hS (c_X5_in hl G f x (-1) 9) mS_X5_in qM_X5_81 rfl rfl hl9.1 (Nat.le_of_ble_eq_true rfl) ⟨⟨Nat.le_of_ble_eq_true rfl, Nat.le_of_ble_eq_true rfl⟩, Nat.le_of_ble_eq_true rfl, Nat.le_of_ble_eq_true rfl⟩ dX5_wish_23 (fun E ce q9 f5 H locs hPX hw hS hce hcv hcl => ?_) (fun v f5 H locs hP hw hS => ?_)
          · exact hPX.elim
          · obtain ⟨ef9, hv9⟩ := hP
            rw [ef9] at hw
            rcases hv9 with ⟨b6, ev9⟩ | ⟨b6, ev9⟩
            · subst ev9
              refine W.eq (g2 := F0 m 26 ls [.int 1, .ref mo]) rfl ?_
              refine lv_if_eq (tgt := 33) hx hb dX5_wish_26 (by decide) (fun c9 => absurd c9 (by decide)) (fun _ => ?_)
              refine lv_iconst (v := 0) hx hb dX5_wish_29 (by decide) ?_
              refine lv_goto (tgt := 34) hx hb dX5_wish_30 (by decide) ?_
              refine hp_put (fs1 := [.int 0, .ref dW, .ref dA, .ref dQ, .ref dM, .ref dS, .ref dL, .ref dR, .ref dT, .ref dZ, .ref dI, .ref dH, .ref dN, .ref dK, .ref dJ, .ref dU, .ref dO, .int 0, .int 0, .ref dF, .ref dP, .ref dE, .ref dX, .ref dY, .int 0, .int 0, .ref dG]) (ty := .int) B0 hw hS 5 rfl in_X5 tyX5 tyX5_ok nmX5 k_mo 0 (by decide) qF_X5_77 rfl (by decide +kernel) rfl rfl (Nat.le_of_ble_eq_true rfl) rfl dX5_wish_34 (fun H locs f7 ef7 hw hS => ?_)
              have h8 : f7 mo = some (.inr (5, [.int 0, .ref dW, .ref dA, .ref dQ, .ref dM, .ref dS, .ref dL, .ref dR, .ref dT, .ref dZ, .ref dI, .ref dH, .ref dN, .ref dK, .ref dJ, .ref dU, .ref dO, .int 0, .int 0, .ref dF, .ref dP, .ref dE, .ref dX, .ref dY, .int 0, .int 0, .ref dG])) := by rw [ef7, va_up_self]
              refine lv_aload_n hx hb dX5_wish_37 rfl (lv_at hl9 0 rfl) ?_
              refine hp_get B0 hw 5 rfl in_X5 h8 0 (by decide) qF_X5_77 rfl dX5_wish_38 ?_
              refine lv_if_le (tgt := 46) hx hb dX5_wish_41 (by decide) (fun _ => ?_) (fun c9 => absurd (by decide) c9)
              refine lv_aload_n hx hb dX5_wish_46 rfl (lv_at hl9 0 rfl) ?_
              refine hp_get B0 hw 5 rfl in_X5 h8 1 (by decide) qF_X5_9 rfl dX5_wish_47 ?_
              refine lv_bipush (v := 6) hx hb dX5_wish_50 (by decide) ?_
              refine lv_iload_n hx hb dX5_wish_52 rfl (lv_at hl9 1 rfl) ?_
              refine lv_imul hx hb dX5_wish_53 ?_
              refine lv_iload_n hx hb dX5_wish_54 rfl (lv_at hl9 2 rfl) ?_
              refine lv_iadd hx hb dX5_wish_55 ?_
              have n10 : dW ≠ mo := hne k_dW k_mo (Nat.ne_of_beq_eq_false rfl)
              have h9 : f7 dW = some (.inl (cI G, 12, .inl mA12)) := by rw [ef7, va_up_ne _ _ n10]; exact k_dW
              refine hp_iald B0 hw h9 (vin12 b2 b4) dX5_wish_56 ?_
              refine lv_istore (lv' := [(4, .int (mA12 (((6 * i) + o) : Int32).toNatClampNeg)), (0, .ref mo), (1, .int i), (2, .int o), (3, .int x)]) hx hb dX5_wish_57 hl9 (by decide) rfl (fun ls hl9 => ?_)
              refine lv_aload_n hx hb dX5_wish_59 rfl (lv_at hl9 1 rfl) ?_
              refine hp_get B0 hw 5 rfl in_X5 h8 1 (by decide) qF_X5_9 rfl dX5_wish_60 ?_
              refine lv_bipush (v := 6) hx hb dX5_wish_63 (by decide) ?_
              refine lv_iload_n hx hb dX5_wish_65 rfl (lv_at hl9 2 rfl) ?_
              refine lv_imul hx hb dX5_wish_66 ?_
              refine lv_iload_n hx hb dX5_wish_67 rfl (lv_at hl9 3 rfl) ?_
              refine lv_iadd hx hb dX5_wish_68 ?_
              refine lv_iload_n hx hb dX5_wish_69 rfl (lv_at hl9 4 rfl) ?_
              refine hp_iast B0 hw hS h9 (vin12 b2 b4) dX5_wish_70 (fun H locs f11 ef11 hw hS => ?_)
              have h12 : f11 dW = some (.inl (cI G, 12, .inl (upd mA12 (((6 * i) + o) : Int32).toNatClampNeg x))) := by rw [ef11, va_up_self]
              refine lv_iload hx hb dX5_wish_71 (lv_at hl9 0 rfl) ?_
              have h13 : f11 mo = some (.inr (5, [.int 0, .ref dW, .ref dA, .ref dQ, .ref dM, .ref dS, .ref dL, .ref dR, .ref dT, .ref dZ, .ref dI, .ref dH, .ref dN, .ref dK, .ref dJ, .ref dU, .ref dO, .int 0, .int 0, .ref dF, .ref dP, .ref dE, .ref dX, .ref dY, .int 0, .int 0, .ref dG])) := by rw [ef11, va_up_ne _ _ (Ne.symm n10)]; exact h8
              exact hp_iret (v := (mA12 (((6 * i) + o) : Int32).toNatClampNeg)) B0 hw hS hr ⟨Nat.le_of_ble_eq_true rfl, Nat.le_of_ble_eq_true rfl⟩ dX5_wish_73 (⟨⟨_, rfl, fun _ => mA12_in _ (cn_lt (vin12 b2 b4))⟩, ⟨_, (by rw [show spc (sE i ∧ sO o) (sV x) = 0 from (spc_0 ⟨b2, b4⟩ (by have h1 := b6; simp only [jlt, jle, tq0, tq1, tq3, tq4, tq6, tq9, tq50, tq60, tq1023, tqm1] at h1; exact ⟨by omega, by omega⟩))]; exact h13)⟩, ((show hKeep [mo, dW] f f7 from (by rw [ef7]; exact hKeep.up (by simp))).tr (show hKeep [mo, dW] f7 f11 from (by rw [ef11]; exact hKeep.up (by simp))))⟩)
            · subst ev9
              refine W.eq (g2 := F0 m 26 ls [.int 0, .ref mo]) rfl ?_
              refine lv_if_eq (tgt := 33) hx hb dX5_wish_26 (by decide) (fun _ => ?_) (fun c9 => absurd (by decide) c9)
              refine lv_iconst (v := 2) hx hb dX5_wish_33 (by decide) ?_
              refine hp_put (fs1 := [.int 2, .ref dW, .ref dA, .ref dQ, .ref dM, .ref dS, .ref dL, .ref dR, .ref dT, .ref dZ, .ref dI, .ref dH, .ref dN, .ref dK, .ref dJ, .ref dU, .ref dO, .int 0, .int 0, .ref dF, .ref dP, .ref dE, .ref dX, .ref dY, .int 0, .int 0, .ref dG]) (ty := .int) B0 hw hS 5 rfl in_X5 tyX5 tyX5_ok nmX5 k_mo 0 (by decide) qF_X5_77 rfl (by decide +kernel) rfl rfl (Nat.le_of_ble_eq_true rfl) rfl dX5_wish_34 (fun H locs f14 ef14 hw hS => ?_)
              have h15 : f14 mo = some (.inr (5, [.int 2, .ref dW, .ref dA, .ref dQ, .ref dM, .ref dS, .ref dL, .ref dR, .ref dT, .ref dZ, .ref dI, .ref dH, .ref dN, .ref dK, .ref dJ, .ref dU, .ref dO, .int 0, .int 0, .ref dF, .ref dP, .ref dE, .ref dX, .ref dY, .int 0, .int 0, .ref dG])) := by rw [ef14, va_up_self]
              refine lv_aload_n hx hb dX5_wish_37 rfl (lv_at hl9 0 rfl) ?_
              refine hp_get B0 hw 5 rfl in_X5 h15 0 (by decide) qF_X5_77 rfl dX5_wish_38 ?_
              refine lv_if_le (tgt := 46) hx hb dX5_wish_41 (by decide) (fun c9 => absurd c9 (by decide)) (fun _ => ?_)
              refine lv_iconst (v := 0) hx hb dX5_wish_44 (by decide) ?_
              exact hp_iret (v := 0) B0 hw hS hr ⟨Nat.le_of_ble_eq_true rfl, Nat.le_of_ble_eq_true rfl⟩ dX5_wish_45 (⟨⟨_, rfl, fun h9 => absurd (h9.symm.trans (spc_2 ⟨b2, b4⟩ (fun h9 => b6 (by simp only [jlt, jle, tq0, tq1, tq3, tq4, tq6, tq9, tq50, tq60, tq1023, tqm1]; exact ⟨by omega, by omega⟩)))) (by decide)⟩, ⟨_, (by rw [show spc (sE i ∧ sO o) (sV x) = 2 from (spc_2 ⟨b2, b4⟩ (fun h9 => b6 (by simp only [jlt, jle, tq0, tq1, tq3, tq4, tq6, tq9, tq50, tq60, tq1023, tqm1]; exact ⟨by omega, by omega⟩)))]; exact h15)⟩, (show hKeep [mo, dW] f f14 from (by rw [ef14]; exact hKeep.up (by simp)))⟩)
        · subst ev9
          refine W.eq (g2 := F0 m 12 ls [.int 0, .ref mo]) rfl ?_
          refine lv_if_ne (tgt := 19) hx hb dX5_wish_12 (by decide) (fun c9 => absurd (by decide) c9) (fun _ => ?_)
          refine lv_iconst (v := 1) hx hb dX5_wish_15 (by decide) ?_
          refine lv_goto (tgt := 34) hx hb dX5_wish_16 (by decide) ?_
          refine hp_put (fs1 := [.int 1, .ref dW, .ref dA, .ref dQ, .ref dM, .ref dS, .ref dL, .ref dR, .ref dT, .ref dZ, .ref dI, .ref dH, .ref dN, .ref dK, .ref dJ, .ref dU, .ref dO, .int 0, .int 0, .ref dF, .ref dP, .ref dE, .ref dX, .ref dY, .int 0, .int 0, .ref dG]) (ty := .int) B0 hw hS 5 rfl in_X5 tyX5 tyX5_ok nmX5 k_mo 0 (by decide) qF_X5_77 rfl (by decide +kernel) rfl rfl (Nat.le_of_ble_eq_true rfl) rfl dX5_wish_34 (fun H locs f16 ef16 hw hS => ?_)
          have h17 : f16 mo = some (.inr (5, [.int 1, .ref dW, .ref dA, .ref dQ, .ref dM, .ref dS, .ref dL, .ref dR, .ref dT, .ref dZ, .ref dI, .ref dH, .ref dN, .ref dK, .ref dJ, .ref dU, .ref dO, .int 0, .int 0, .ref dF, .ref dP, .ref dE, .ref dX, .ref dY, .int 0, .int 0, .ref dG])) := by rw [ef16, va_up_self]
          refine lv_aload_n hx hb dX5_wish_37 rfl (lv_at hl9 0 rfl) ?_
          refine hp_get B0 hw 5 rfl in_X5 h17 0 (by decide) qF_X5_77 rfl dX5_wish_38 ?_
          refine lv_if_le (tgt := 46) hx hb dX5_wish_41 (by decide) (fun c9 => absurd c9 (by decide)) (fun _ => ?_)
          refine lv_iconst (v := 0) hx hb dX5_wish_44 (by decide) ?_
          exact hp_iret (v := 0) B0 hw hS hr ⟨Nat.le_of_ble_eq_true rfl, Nat.le_of_ble_eq_true rfl⟩ dX5_wish_45 (⟨⟨_, rfl, fun h9 => absurd (h9.symm.trans (spc_1 (fun h9 => b4 h9.2))) (by decide)⟩, ⟨_, (by rw [show spc (sE i ∧ sO o) (sV x) = 1 from (spc_1 (fun h9 => b4 h9.2))]; exact h17)⟩, (show hKeep [mo, dW] f f16 from (by rw [ef16]; exact hKeep.up (by simp)))⟩)
    · subst ev9
      refine W.eq (g2 := F0 m 5 ls [.int 0, .ref mo]) rfl ?_
      refine lv_if_eq (tgt := 15) hx hb dX5_wish_5 (by decide) (fun _ => ?_) (fun c9 => absurd (by decide) c9)
      refine lv_iconst (v := 1) hx hb dX5_wish_15 (by decide) ?_
      refine lv_goto (tgt := 34) hx hb dX5_wish_16 (by decide) ?_
      refine hp_put (fs1 := [.int 1, .ref dW, .ref dA, .ref dQ, .ref dM, .ref dS, .ref dL, .ref dR, .ref dT, .ref dZ, .ref dI, .ref dH, .ref dN, .ref dK, .ref dJ, .ref dU, .ref dO, .int 0, .int 0, .ref dF, .ref dP, .ref dE, .ref dX, .ref dY, .int 0, .int 0, .ref dG]) (ty := .int) B0 hw hS 5 rfl in_X5 tyX5 tyX5_ok nmX5 k_mo 0 (by decide) qF_X5_77 rfl (by decide +kernel) rfl rfl (Nat.le_of_ble_eq_true rfl) rfl dX5_wish_34 (fun H locs f18 ef18 hw hS => ?_)
      have h19 : f18 mo = some (.inr (5, [.int 1, .ref dW, .ref dA, .ref dQ, .ref dM, .ref dS, .ref dL, .ref dR, .ref dT, .ref dZ, .ref dI, .ref dH, .ref dN, .ref dK, .ref dJ, .ref dU, .ref dO, .int 0, .int 0, .ref dF, .ref dP, .ref dE, .ref dX, .ref dY, .int 0, .int 0, .ref dG])) := by rw [ef18, va_up_self]
      refine lv_aload_n hx hb dX5_wish_37 rfl (lv_at hl9 0 rfl) ?_
      refine hp_get B0 hw 5 rfl in_X5 h19 0 (by decide) qF_X5_77 rfl dX5_wish_38 ?_
      refine lv_if_le (tgt := 46) hx hb dX5_wish_41 (by decide) (fun c9 => absurd c9 (by decide)) (fun _ => ?_)
      refine lv_iconst (v := 0) hx hb dX5_wish_44 (by decide) ?_
      exact hp_iret (v := 0) B0 hw hS hr ⟨Nat.le_of_ble_eq_true rfl, Nat.le_of_ble_eq_true rfl⟩ dX5_wish_45 (⟨⟨_, rfl, fun h9 => absurd (h9.symm.trans (spc_1 (fun h9 => b2 h9.1))) (by decide)⟩, ⟨_, (by rw [show spc (sE i ∧ sO o) (sV x) = 1 from (spc_1 (fun h9 => b2 h9.1))]; exact h19)⟩, (show hKeep [mo, dW] f f18 from (by rw [ef18]; exact hKeep.up (by simp)))⟩)

set_option maxHeartbeats 4000000 in
set_option maxRecDepth 100000 in
theorem c_X5_allow0 {l : Launch} (hl : l.stackTraces = false) (G : hG) (f : hM) (mo dW dA dQ dM dS dL dR dT dZ dI dH dN dK dJ dU dO dF dP dE dX dY dG : Nat) (th : Int32) (k_mo : f mo = some (.inr (5, [.int th, .ref dW, .ref dA, .ref dQ, .ref dM, .ref dS, .ref dL, .ref dR, .ref dT, .ref dZ, .ref dI, .ref dH, .ref dN, .ref dK, .ref dJ, .ref dU, .ref dO, .int 0, .int 0, .ref dF, .ref dP, .ref dE, .ref dX, .ref dY, .int 0, .int 0, .ref dG]))) (k_dA : f dA = some (.inl (cI G, 12, .inl (fun _ => 0)))) (i o x : Int32) : CT l yX5_allow (.code yX5_allow cX5_allow 5 (some .int)) 2 42 0 0 G [.ref mo, .int i, .int o, .int x] f (fun v f1 => (∃ r : Int32, v = some (.int r) ∧ (spc (sE i ∧ sO o) (sA x) = 0 → r = 0)) ∧ (∃ c9 : List Value, f1 mo = some (.inr (5, .int (spc (sE i ∧ sO o) (sA x)) :: c9))) ∧ hKeep [mo, dA] f f1) (fun E f1 => False) := by
  refine hp_start hl (own := RX5) (by decide) rfl (Nat.le_of_ble_eq_true rfl) ?_
  intro p e s m args below meth c B0 hr hnm hout hw hS ls hl9
  have hx := B0.1
  have hb := B0.2.1
  have hl9 : lv_has ls 5 [(0, .ref mo), (1, .int i), (2, .int o), (3, .int x)] := hl9
  refine lv_aload_n hx hb dX5_allow_0 rfl (lv_at hl9 0 rfl) ?_
  refine lv_iload_n hx hb dX5_allow_1 rfl (lv_at hl9 1 rfl) ?_
  refine hp_S (As := [.int i]) (rest := [.ref mo]) B0 hw hS (c_X5_isEnd hl G f i) mS_X5_isEnd qM_X5_85 rfl rfl hl9.1 (Nat.le_of_ble_eq_true rfl) ⟨⟨Nat.le_of_ble_eq_true rfl, Nat.le_of_ble_eq_true rfl⟩, Nat.le_of_ble_eq_true rfl, Nat.le_of_ble_eq_true rfl⟩ dX5_allow_2 (fun E ce q9 f1 H locs hPX hw hS hce hcv hcl => ?_) (fun v f1 H locs hP hw hS => ?_)
  · exact hPX.elim
  · obtain ⟨ef9, hv9⟩ := hP
    rw [ef9] at hw
    rcases hv9 with ⟨b2, ev9⟩ | ⟨b2, ev9⟩
    · subst ev9
      refine W.eq (g2 := F0 m 5 ls [.int 1, .ref mo]) rfl ?_
      refine lv_if_eq (tgt := 15) hx hb dX5_allow_5 (by decide) (fun c9 => absurd c9 (by decide)) (fun _ => ?_)
      refine lv_iload_n hx hb dX5_allow_8 rfl (lv_at hl9 2 rfl) ?_
      refine hp_S (As := [.int o]) (rest := [.ref mo]) B0 hw hS (c_X5_isOption hl G f o) mS_X5_isOption qM_X5_89 rfl rfl hl9.1 (Nat.le_of_ble_eq_true rfl) ⟨⟨Nat.le_of_ble_eq_true rfl, Nat.le_of_ble_eq_true rfl⟩, Nat.le_of_ble_eq_true rfl, Nat.le_of_ble_eq_true rfl⟩ dX5_allow_9 (fun E ce q9 f3 H locs hPX hw hS hce hcv hcl => ?_) (fun v f3 H locs hP hw hS => ?_)
      · exact hPX.elim
      · obtain ⟨ef9, hv9⟩ := hP
        rw [ef9] at hw
        rcases hv9 with ⟨b4, ev9⟩ | ⟨b4, ev9⟩
        · subst ev9
          refine W.eq (g2 := F0 m 12 ls [.int 1, .ref mo]) rfl ?_
          refine lv_if_ne (tgt := 19) hx hb dX5_allow_12 (by decide) (fun _ => ?_) (fun c9 => absurd c9 (by decide))
          refine lv_iload_n hx hb dX5_allow_19 rfl (lv_at hl9 3 rfl) ?_
          refine lv_iconst (v := 0) hx hb dX5_allow_20 (by decide) ?_
          refine lv_sipush (v := 1023) hx hb dX5_allow_21 (by decide) ?_
          refine hp_S (As := [.int x, .int 0, .int 1023]) (rest := [.ref mo]) B0 hw hS (c_X5_in hl G f x 0 1023) mS_X5_in qM_X5_81 rfl rfl hl9.1 (Nat.le_of_ble_eq_true rfl) ⟨⟨Nat.le_of_ble_eq_true rfl, Nat.le_of_ble_eq_true rfl⟩, Nat.le_of_ble_eq_true rfl, Nat.le_of_ble_eq_true rfl⟩ dX5_allow_24 (fun E ce q9 f5 H locs hPX hw hS hce hcv hcl => ?_) (fun v f5 H locs hP hw hS => ?_)
          · exact hPX.elim
          · obtain ⟨ef9, hv9⟩ := hP
            rw [ef9] at hw
            rcases hv9 with ⟨b6, ev9⟩ | ⟨b6, ev9⟩
            · subst ev9
              refine W.eq (g2 := F0 m 27 ls [.int 1, .ref mo]) rfl ?_
              refine lv_if_eq (tgt := 34) hx hb dX5_allow_27 (by decide) (fun c9 => absurd c9 (by decide)) (fun _ => ?_)
              refine lv_iconst (v := 0) hx hb dX5_allow_30 (by decide) ?_
              refine lv_goto (tgt := 35) hx hb dX5_allow_31 (by decide) ?_
              refine hp_put (fs1 := [.int 0, .ref dW, .ref dA, .ref dQ, .ref dM, .ref dS, .ref dL, .ref dR, .ref dT, .ref dZ, .ref dI, .ref dH, .ref dN, .ref dK, .ref dJ, .ref dU, .ref dO, .int 0, .int 0, .ref dF, .ref dP, .ref dE, .ref dX, .ref dY, .int 0, .int 0, .ref dG]) (ty := .int) B0 hw hS 5 rfl in_X5 tyX5 tyX5_ok nmX5 k_mo 0 (by decide) qF_X5_77 rfl (by decide +kernel) rfl rfl (Nat.le_of_ble_eq_true rfl) rfl dX5_allow_35 (fun H locs f7 ef7 hw hS => ?_)
              have h8 : f7 mo = some (.inr (5, [.int 0, .ref dW, .ref dA, .ref dQ, .ref dM, .ref dS, .ref dL, .ref dR, .ref dT, .ref dZ, .ref dI, .ref dH, .ref dN, .ref dK, .ref dJ, .ref dU, .ref dO, .int 0, .int 0, .ref dF, .ref dP, .ref dE, .ref dX, .ref dY, .int 0, .int 0, .ref dG])) := by rw [ef7, va_up_self]
              refine lv_aload_n hx hb dX5_allow_38 rfl (lv_at hl9 0 rfl) ?_
              refine hp_get B0 hw 5 rfl in_X5 h8 0 (by decide) qF_X5_77 rfl dX5_allow_39 ?_
              refine lv_if_le (tgt := 47) hx hb dX5_allow_42 (by decide) (fun _ => ?_) (fun c9 => absurd (by decide) c9)
              refine lv_aload_n hx hb dX5_allow_47 rfl (lv_at hl9 0 rfl) ?_
              refine hp_get B0 hw 5 rfl in_X5 h8 2 (by decide) qF_X5_13 rfl dX5_allow_48 ?_
              refine lv_bipush (v := 6) hx hb dX5_allow_51 (by decide) ?_
              refine lv_iload_n hx hb dX5_allow_53 rfl (lv_at hl9 1 rfl) ?_
              refine lv_imul hx hb dX5_allow_54 ?_
              refine lv_iload_n hx hb dX5_allow_55 rfl (lv_at hl9 2 rfl) ?_
              refine lv_iadd hx hb dX5_allow_56 ?_
              have n10 : dA ≠ mo := hne k_dA k_mo (Nat.ne_of_beq_eq_false rfl)
              have h9 : f7 dA = some (.inl (cI G, 12, .inl (fun _ => 0))) := by rw [ef7, va_up_ne _ _ n10]; exact k_dA
              refine hp_iald B0 hw h9 (vin12 b2 b4) dX5_allow_57 ?_
              refine lv_istore (lv' := [(4, .int ((fun _ => 0) (((6 * i) + o) : Int32).toNatClampNeg)), (0, .ref mo), (1, .int i), (2, .int o), (3, .int x)]) hx hb dX5_allow_58 hl9 (by decide) rfl (fun ls hl9 => ?_)
              refine lv_aload_n hx hb dX5_allow_60 rfl (lv_at hl9 1 rfl) ?_
              refine hp_get B0 hw 5 rfl in_X5 h8 2 (by decide) qF_X5_13 rfl dX5_allow_61 ?_
              refine lv_bipush (v := 6) hx hb dX5_allow_64 (by decide) ?_
              refine lv_iload_n hx hb dX5_allow_66 rfl (lv_at hl9 2 rfl) ?_
              refine lv_imul hx hb dX5_allow_67 ?_
              refine lv_iload_n hx hb dX5_allow_68 rfl (lv_at hl9 3 rfl) ?_
              refine lv_iadd hx hb dX5_allow_69 ?_
              refine lv_iload_n hx hb dX5_allow_70 rfl (lv_at hl9 4 rfl) ?_
              refine hp_iast B0 hw hS h9 (vin12 b2 b4) dX5_allow_71 (fun H locs f11 ef11 hw hS => ?_)
              have h12 : f11 dA = some (.inl (cI G, 12, .inl (upd (fun _ => 0) (((6 * i) + o) : Int32).toNatClampNeg x))) := by rw [ef11, va_up_self]
              refine lv_iload hx hb dX5_allow_72 (lv_at hl9 0 rfl) ?_
              have h13 : f11 mo = some (.inr (5, [.int 0, .ref dW, .ref dA, .ref dQ, .ref dM, .ref dS, .ref dL, .ref dR, .ref dT, .ref dZ, .ref dI, .ref dH, .ref dN, .ref dK, .ref dJ, .ref dU, .ref dO, .int 0, .int 0, .ref dF, .ref dP, .ref dE, .ref dX, .ref dY, .int 0, .int 0, .ref dG])) := by rw [ef11, va_up_ne _ _ (Ne.symm n10)]; exact h8
              exact hp_iret (v := ((fun _ => 0) (((6 * i) + o) : Int32).toNatClampNeg)) B0 hw hS hr ⟨Nat.le_of_ble_eq_true rfl, Nat.le_of_ble_eq_true rfl⟩ dX5_allow_74 (⟨⟨_, rfl, fun _ => rfl⟩, ⟨_, (by rw [show spc (sE i ∧ sO o) (sA x) = 0 from (spc_0 ⟨b2, b4⟩ (by have h1 := b6; simp only [jlt, jle, tq0, tq1, tq3, tq4, tq6, tq9, tq50, tq60, tq1023, tqm1] at h1; exact ⟨by omega, by omega⟩))]; exact h13)⟩, ((show hKeep [mo, dA] f f7 from (by rw [ef7]; exact hKeep.up (by simp))).tr (show hKeep [mo, dA] f7 f11 from (by rw [ef11]; exact hKeep.up (by simp))))⟩)
            · subst ev9
              refine W.eq (g2 := F0 m 27 ls [.int 0, .ref mo]) rfl ?_
              refine lv_if_eq (tgt := 34) hx hb dX5_allow_27 (by decide) (fun _ => ?_) (fun c9 => absurd (by decide) c9)
              refine lv_iconst (v := 2) hx hb dX5_allow_34 (by decide) ?_
              refine hp_put (fs1 := [.int 2, .ref dW, .ref dA, .ref dQ, .ref dM, .ref dS, .ref dL, .ref dR, .ref dT, .ref dZ, .ref dI, .ref dH, .ref dN, .ref dK, .ref dJ, .ref dU, .ref dO, .int 0, .int 0, .ref dF, .ref dP, .ref dE, .ref dX, .ref dY, .int 0, .int 0, .ref dG]) (ty := .int) B0 hw hS 5 rfl in_X5 tyX5 tyX5_ok nmX5 k_mo 0 (by decide) qF_X5_77 rfl (by decide +kernel) rfl rfl (Nat.le_of_ble_eq_true rfl) rfl dX5_allow_35 (fun H locs f14 ef14 hw hS => ?_)
              have h15 : f14 mo = some (.inr (5, [.int 2, .ref dW, .ref dA, .ref dQ, .ref dM, .ref dS, .ref dL, .ref dR, .ref dT, .ref dZ, .ref dI, .ref dH, .ref dN, .ref dK, .ref dJ, .ref dU, .ref dO, .int 0, .int 0, .ref dF, .ref dP, .ref dE, .ref dX, .ref dY, .int 0, .int 0, .ref dG])) := by rw [ef14, va_up_self]
              refine lv_aload_n hx hb dX5_allow_38 rfl (lv_at hl9 0 rfl) ?_
              refine hp_get B0 hw 5 rfl in_X5 h15 0 (by decide) qF_X5_77 rfl dX5_allow_39 ?_
              refine lv_if_le (tgt := 47) hx hb dX5_allow_42 (by decide) (fun c9 => absurd c9 (by decide)) (fun _ => ?_)
              refine lv_iconst (v := 0) hx hb dX5_allow_45 (by decide) ?_
              exact hp_iret (v := 0) B0 hw hS hr ⟨Nat.le_of_ble_eq_true rfl, Nat.le_of_ble_eq_true rfl⟩ dX5_allow_46 (⟨⟨_, rfl, fun h9 => absurd (h9.symm.trans (spc_2 ⟨b2, b4⟩ (fun h9 => b6 (by simp only [jlt, jle, tq0, tq1, tq3, tq4, tq6, tq9, tq50, tq60, tq1023, tqm1]; exact ⟨by omega, by omega⟩)))) (by decide)⟩, ⟨_, (by rw [show spc (sE i ∧ sO o) (sA x) = 2 from (spc_2 ⟨b2, b4⟩ (fun h9 => b6 (by simp only [jlt, jle, tq0, tq1, tq3, tq4, tq6, tq9, tq50, tq60, tq1023, tqm1]; exact ⟨by omega, by omega⟩)))]; exact h15)⟩, (show hKeep [mo, dA] f f14 from (by rw [ef14]; exact hKeep.up (by simp)))⟩)
        · subst ev9
          refine W.eq (g2 := F0 m 12 ls [.int 0, .ref mo]) rfl ?_
          refine lv_if_ne (tgt := 19) hx hb dX5_allow_12 (by decide) (fun c9 => absurd (by decide) c9) (fun _ => ?_)
          refine lv_iconst (v := 1) hx hb dX5_allow_15 (by decide) ?_
          refine lv_goto (tgt := 35) hx hb dX5_allow_16 (by decide) ?_
          refine hp_put (fs1 := [.int 1, .ref dW, .ref dA, .ref dQ, .ref dM, .ref dS, .ref dL, .ref dR, .ref dT, .ref dZ, .ref dI, .ref dH, .ref dN, .ref dK, .ref dJ, .ref dU, .ref dO, .int 0, .int 0, .ref dF, .ref dP, .ref dE, .ref dX, .ref dY, .int 0, .int 0, .ref dG]) (ty := .int) B0 hw hS 5 rfl in_X5 tyX5 tyX5_ok nmX5 k_mo 0 (by decide) qF_X5_77 rfl (by decide +kernel) rfl rfl (Nat.le_of_ble_eq_true rfl) rfl dX5_allow_35 (fun H locs f16 ef16 hw hS => ?_)
          have h17 : f16 mo = some (.inr (5, [.int 1, .ref dW, .ref dA, .ref dQ, .ref dM, .ref dS, .ref dL, .ref dR, .ref dT, .ref dZ, .ref dI, .ref dH, .ref dN, .ref dK, .ref dJ, .ref dU, .ref dO, .int 0, .int 0, .ref dF, .ref dP, .ref dE, .ref dX, .ref dY, .int 0, .int 0, .ref dG])) := by rw [ef16, va_up_self]
          refine lv_aload_n hx hb dX5_allow_38 rfl (lv_at hl9 0 rfl) ?_
          refine hp_get B0 hw 5 rfl in_X5 h17 0 (by decide) qF_X5_77 rfl dX5_allow_39 ?_
          refine lv_if_le (tgt := 47) hx hb dX5_allow_42 (by decide) (fun c9 => absurd c9 (by decide)) (fun _ => ?_)
          refine lv_iconst (v := 0) hx hb dX5_allow_45 (by decide) ?_
          exact hp_iret (v := 0) B0 hw hS hr ⟨Nat.le_of_ble_eq_true rfl, Nat.le_of_ble_eq_true rfl⟩ dX5_allow_46 (⟨⟨_, rfl, fun h9 => absurd (h9.symm.trans (spc_1 (fun h9 => b4 h9.2))) (by decide)⟩, ⟨_, (by rw [show spc (sE i ∧ sO o) (sA x) = 1 from (spc_1 (fun h9 => b4 h9.2))]; exact h17)⟩, (show hKeep [mo, dA] f f16 from (by rw [ef16]; exact hKeep.up (by simp)))⟩)
    · subst ev9
      refine W.eq (g2 := F0 m 5 ls [.int 0, .ref mo]) rfl ?_
      refine lv_if_eq (tgt := 15) hx hb dX5_allow_5 (by decide) (fun _ => ?_) (fun c9 => absurd (by decide) c9)
      refine lv_iconst (v := 1) hx hb dX5_allow_15 (by decide) ?_
      refine lv_goto (tgt := 35) hx hb dX5_allow_16 (by decide) ?_
      refine hp_put (fs1 := [.int 1, .ref dW, .ref dA, .ref dQ, .ref dM, .ref dS, .ref dL, .ref dR, .ref dT, .ref dZ, .ref dI, .ref dH, .ref dN, .ref dK, .ref dJ, .ref dU, .ref dO, .int 0, .int 0, .ref dF, .ref dP, .ref dE, .ref dX, .ref dY, .int 0, .int 0, .ref dG]) (ty := .int) B0 hw hS 5 rfl in_X5 tyX5 tyX5_ok nmX5 k_mo 0 (by decide) qF_X5_77 rfl (by decide +kernel) rfl rfl (Nat.le_of_ble_eq_true rfl) rfl dX5_allow_35 (fun H locs f18 ef18 hw hS => ?_)
      have h19 : f18 mo = some (.inr (5, [.int 1, .ref dW, .ref dA, .ref dQ, .ref dM, .ref dS, .ref dL, .ref dR, .ref dT, .ref dZ, .ref dI, .ref dH, .ref dN, .ref dK, .ref dJ, .ref dU, .ref dO, .int 0, .int 0, .ref dF, .ref dP, .ref dE, .ref dX, .ref dY, .int 0, .int 0, .ref dG])) := by rw [ef18, va_up_self]
      refine lv_aload_n hx hb dX5_allow_38 rfl (lv_at hl9 0 rfl) ?_
      refine hp_get B0 hw 5 rfl in_X5 h19 0 (by decide) qF_X5_77 rfl dX5_allow_39 ?_
      refine lv_if_le (tgt := 47) hx hb dX5_allow_42 (by decide) (fun c9 => absurd c9 (by decide)) (fun _ => ?_)
      refine lv_iconst (v := 0) hx hb dX5_allow_45 (by decide) ?_
      exact hp_iret (v := 0) B0 hw hS hr ⟨Nat.le_of_ble_eq_true rfl, Nat.le_of_ble_eq_true rfl⟩ dX5_allow_46 (⟨⟨_, rfl, fun h9 => absurd (h9.symm.trans (spc_1 (fun h9 => b2 h9.1))) (by decide)⟩, ⟨_, (by rw [show spc (sE i ∧ sO o) (sA x) = 1 from (spc_1 (fun h9 => b2 h9.1))]; exact h19)⟩, (show hKeep [mo, dA] f f18 from (by rw [ef18]; exact hKeep.up (by simp)))⟩)

set_option maxHeartbeats 4000000 in
set_option maxRecDepth 100000 in
theorem c_X5_setMagic0 {l : Launch} (hl : l.stackTraces = false) (G : hG) (f : hM) (mo dW dA dQ dM dS dL dR dT dZ dI dH dN dK dJ dU dO dF dP dE dX dY dG : Nat) (th : Int32) (k_mo : f mo = some (.inr (5, [.int th, .ref dW, .ref dA, .ref dQ, .ref dM, .ref dS, .ref dL, .ref dR, .ref dT, .ref dZ, .ref dI, .ref dH, .ref dN, .ref dK, .ref dJ, .ref dU, .ref dO, .int 0, .int 0, .ref dF, .ref dP, .ref dE, .ref dX, .ref dY, .int 0, .int 0, .ref dG]))) (k_dM : f dM = some (.inl (cI G, 2, .inl (mA2 1 2)))) (i x : Int32) : CT l yX5_setMagic (.code yX5_setMagic cX5_setMagic 4 (some .int)) 2 42 0 0 G [.ref mo, .int i, .int x] f (fun v f1 => (∃ r : Int32, v = some (.int r) ∧ (spc (sE i) True = 0 → r = (if i = 0 then 1 else 2))) ∧ (∃ c9 : List Value, f1 mo = some (.inr (5, .int (spc (sE i) True) :: c9))) ∧ hKeep [mo, dM] f f1) (fun E f1 => False) := by
  refine hp_start hl (own := RX5) (by decide) rfl (Nat.le_of_ble_eq_true rfl) ?_
  intro p e s m args below meth c B0 hr hnm hout hw hS ls hl9
  have hx := B0.1
  have hb := B0.2.1
  have hl9 : lv_has ls 4 [(0, .ref mo), (1, .int i), (2, .int x)] := hl9
  refine lv_aload_n hx hb dX5_setMagic_0 rfl (lv_at hl9 0 rfl) ?_
  refine lv_iload_n hx hb dX5_setMagic_1 rfl (lv_at hl9 1 rfl) ?_
  refine hp_S (As := [.int i]) (rest := [.ref mo]) B0 hw hS (c_X5_isEnd hl G f i) mS_X5_isEnd qM_X5_85 rfl rfl hl9.1 (Nat.le_of_ble_eq_true rfl) ⟨⟨Nat.le_of_ble_eq_true rfl, Nat.le_of_ble_eq_true rfl⟩, Nat.le_of_ble_eq_true rfl, Nat.le_of_ble_eq_true rfl⟩ dX5_setMagic_2 (fun E ce q9 f1 H locs hPX hw hS hce hcv hcl => ?_) (fun v f1 H locs hP hw hS => ?_)
  · exact hPX.elim
  · obtain ⟨ef9, hv9⟩ := hP
    rw [ef9] at hw
    rcases hv9 with ⟨b9 | b9, ev9⟩ | ⟨hnE, ev9⟩
    · subst ev9
      subst b9
      refine W.eq (g2 := F0 m 5 ls [.int 1, .ref mo]) rfl ?_
      refine lv_if_eq (tgt := 12) hx hb dX5_setMagic_5 (by decide) (fun c9 => absurd c9 (by decide)) (fun _ => ?_)
      refine lv_iconst (v := 0) hx hb dX5_setMagic_8 (by decide) ?_
      refine lv_goto (tgt := 13) hx hb dX5_setMagic_9 (by decide) ?_
      refine hp_put (fs1 := [.int 0, .ref dW, .ref dA, .ref dQ, .ref dM, .ref dS, .ref dL, .ref dR, .ref dT, .ref dZ, .ref dI, .ref dH, .ref dN, .ref dK, .ref dJ, .ref dU, .ref dO, .int 0, .int 0, .ref dF, .ref dP, .ref dE, .ref dX, .ref dY, .int 0, .int 0, .ref dG]) (ty := .int) B0 hw hS 5 rfl in_X5 tyX5 tyX5_ok nmX5 k_mo 0 (by decide) qF_X5_77 rfl (by decide +kernel) rfl rfl (Nat.le_of_ble_eq_true rfl) rfl dX5_setMagic_13 (fun H locs f2 ef2 hw hS => ?_)
      have h3 : f2 mo = some (.inr (5, [.int 0, .ref dW, .ref dA, .ref dQ, .ref dM, .ref dS, .ref dL, .ref dR, .ref dT, .ref dZ, .ref dI, .ref dH, .ref dN, .ref dK, .ref dJ, .ref dU, .ref dO, .int 0, .int 0, .ref dF, .ref dP, .ref dE, .ref dX, .ref dY, .int 0, .int 0, .ref dG])) := by rw [ef2, va_up_self]
      refine lv_aload_n hx hb dX5_setMagic_16 rfl (lv_at hl9 0 rfl) ?_
      refine hp_get B0 hw 5 rfl in_X5 h3 0 (by decide) qF_X5_77 rfl dX5_setMagic_17 ?_
      refine lv_if_le (tgt := 25) hx hb dX5_setMagic_20 (by decide) (fun _ => ?_) (fun c9 => absurd (by decide) c9)
      refine lv_aload_n hx hb dX5_setMagic_25 rfl (lv_at hl9 0 rfl) ?_
      refine hp_get B0 hw 5 rfl in_X5 h3 4 (by decide) qF_X5_19 rfl dX5_setMagic_26 ?_
      refine lv_iload_n hx hb dX5_setMagic_29 rfl (lv_at hl9 1 rfl) ?_
      have n5 : dM ≠ mo := hne k_dM k_mo (Nat.ne_of_beq_eq_false rfl)
      have h4 : f2 dM = some (.inl (cI G, 2, .inl (mA2 1 2))) := by rw [ef2, va_up_ne _ _ n5]; exact k_dM
      refine hp_iald B0 hw h4 (by unfold vp_in; decide) dX5_setMagic_30 ?_
      refine hp_c (v := 1) (rfl) ?_
      refine lv_istore_n (lv' := [(3, .int 1), (0, .ref mo), (1, .int 0), (2, .int x)]) hx hb dX5_setMagic_31 rfl hl9 (by decide) rfl (fun ls hl9 => ?_)
      refine lv_aload_n hx hb dX5_setMagic_32 rfl (lv_at hl9 1 rfl) ?_
      refine hp_get B0 hw 5 rfl in_X5 h3 4 (by decide) qF_X5_19 rfl dX5_setMagic_33 ?_
      refine lv_iload_n hx hb dX5_setMagic_36 rfl (lv_at hl9 2 rfl) ?_
      refine lv_iload_n hx hb dX5_setMagic_37 rfl (lv_at hl9 3 rfl) ?_
      refine hp_iast B0 hw hS h4 (by unfold vp_in; decide) dX5_setMagic_38 (fun H locs f6 ef6 hw hS => ?_)
      have h7 : f6 dM = some (.inl (cI G, 2, .inl (upd (mA2 1 2) (0 : Int32).toNatClampNeg x))) := by rw [ef6, va_up_self]
      refine lv_iload_n hx hb dX5_setMagic_39 rfl (lv_at hl9 0 rfl) ?_
      have h8 : f6 mo = some (.inr (5, [.int 0, .ref dW, .ref dA, .ref dQ, .ref dM, .ref dS, .ref dL, .ref dR, .ref dT, .ref dZ, .ref dI, .ref dH, .ref dN, .ref dK, .ref dJ, .ref dU, .ref dO, .int 0, .int 0, .ref dF, .ref dP, .ref dE, .ref dX, .ref dY, .int 0, .int 0, .ref dG])) := by rw [ef6, va_up_ne _ _ (Ne.symm n5)]; exact h3
      exact hp_iret (v := 1) B0 hw hS hr ⟨Nat.le_of_ble_eq_true rfl, Nat.le_of_ble_eq_true rfl⟩ dX5_setMagic_40 (⟨⟨_, rfl, fun _ => rfl⟩, ⟨_, (by rw [show spc (sE 0) True = 0 from (spc_0 (Or.inl rfl) trivial)]; exact h8)⟩, ((show hKeep [mo, dM] f f2 from (by rw [ef2]; exact hKeep.up (by simp))).tr (show hKeep [mo, dM] f2 f6 from (by rw [ef6]; exact hKeep.up (by simp))))⟩)
    · subst ev9
      subst b9
      refine W.eq (g2 := F0 m 5 ls [.int 1, .ref mo]) rfl ?_
      refine lv_if_eq (tgt := 12) hx hb dX5_setMagic_5 (by decide) (fun c9 => absurd c9 (by decide)) (fun _ => ?_)
      refine lv_iconst (v := 0) hx hb dX5_setMagic_8 (by decide) ?_
      refine lv_goto (tgt := 13) hx hb dX5_setMagic_9 (by decide) ?_
      refine hp_put (fs1 := [.int 0, .ref dW, .ref dA, .ref dQ, .ref dM, .ref dS, .ref dL, .ref dR, .ref dT, .ref dZ, .ref dI, .ref dH, .ref dN, .ref dK, .ref dJ, .ref dU, .ref dO, .int 0, .int 0, .ref dF, .ref dP, .ref dE, .ref dX, .ref dY, .int 0, .int 0, .ref dG]) (ty := .int) B0 hw hS 5 rfl in_X5 tyX5 tyX5_ok nmX5 k_mo 0 (by decide) qF_X5_77 rfl (by decide +kernel) rfl rfl (Nat.le_of_ble_eq_true rfl) rfl dX5_setMagic_13 (fun H locs f9 ef9 hw hS => ?_)
      have h10 : f9 mo = some (.inr (5, [.int 0, .ref dW, .ref dA, .ref dQ, .ref dM, .ref dS, .ref dL, .ref dR, .ref dT, .ref dZ, .ref dI, .ref dH, .ref dN, .ref dK, .ref dJ, .ref dU, .ref dO, .int 0, .int 0, .ref dF, .ref dP, .ref dE, .ref dX, .ref dY, .int 0, .int 0, .ref dG])) := by rw [ef9, va_up_self]
      refine lv_aload_n hx hb dX5_setMagic_16 rfl (lv_at hl9 0 rfl) ?_
      refine hp_get B0 hw 5 rfl in_X5 h10 0 (by decide) qF_X5_77 rfl dX5_setMagic_17 ?_
      refine lv_if_le (tgt := 25) hx hb dX5_setMagic_20 (by decide) (fun _ => ?_) (fun c9 => absurd (by decide) c9)
      refine lv_aload_n hx hb dX5_setMagic_25 rfl (lv_at hl9 0 rfl) ?_
      refine hp_get B0 hw 5 rfl in_X5 h10 4 (by decide) qF_X5_19 rfl dX5_setMagic_26 ?_
      refine lv_iload_n hx hb dX5_setMagic_29 rfl (lv_at hl9 1 rfl) ?_
      have n12 : dM ≠ mo := hne k_dM k_mo (Nat.ne_of_beq_eq_false rfl)
      have h11 : f9 dM = some (.inl (cI G, 2, .inl (mA2 1 2))) := by rw [ef9, va_up_ne _ _ n12]; exact k_dM
      refine hp_iald B0 hw h11 (by unfold vp_in; decide) dX5_setMagic_30 ?_
      refine hp_c (v := 2) (rfl) ?_
      refine lv_istore_n (lv' := [(3, .int 2), (0, .ref mo), (1, .int 1), (2, .int x)]) hx hb dX5_setMagic_31 rfl hl9 (by decide) rfl (fun ls hl9 => ?_)
      refine lv_aload_n hx hb dX5_setMagic_32 rfl (lv_at hl9 1 rfl) ?_
      refine hp_get B0 hw 5 rfl in_X5 h10 4 (by decide) qF_X5_19 rfl dX5_setMagic_33 ?_
      refine lv_iload_n hx hb dX5_setMagic_36 rfl (lv_at hl9 2 rfl) ?_
      refine lv_iload_n hx hb dX5_setMagic_37 rfl (lv_at hl9 3 rfl) ?_
      refine hp_iast B0 hw hS h11 (by unfold vp_in; decide) dX5_setMagic_38 (fun H locs f13 ef13 hw hS => ?_)
      have h14 : f13 dM = some (.inl (cI G, 2, .inl (upd (mA2 1 2) (1 : Int32).toNatClampNeg x))) := by rw [ef13, va_up_self]
      refine lv_iload_n hx hb dX5_setMagic_39 rfl (lv_at hl9 0 rfl) ?_
      have h15 : f13 mo = some (.inr (5, [.int 0, .ref dW, .ref dA, .ref dQ, .ref dM, .ref dS, .ref dL, .ref dR, .ref dT, .ref dZ, .ref dI, .ref dH, .ref dN, .ref dK, .ref dJ, .ref dU, .ref dO, .int 0, .int 0, .ref dF, .ref dP, .ref dE, .ref dX, .ref dY, .int 0, .int 0, .ref dG])) := by rw [ef13, va_up_ne _ _ (Ne.symm n12)]; exact h10
      exact hp_iret (v := 2) B0 hw hS hr ⟨Nat.le_of_ble_eq_true rfl, Nat.le_of_ble_eq_true rfl⟩ dX5_setMagic_40 (⟨⟨_, rfl, fun _ => rfl⟩, ⟨_, (by rw [show spc (sE 1) True = 0 from (spc_0 (Or.inr rfl) trivial)]; exact h15)⟩, ((show hKeep [mo, dM] f f9 from (by rw [ef9]; exact hKeep.up (by simp))).tr (show hKeep [mo, dM] f9 f13 from (by rw [ef13]; exact hKeep.up (by simp))))⟩)
    · subst ev9
      refine W.eq (g2 := F0 m 5 ls [.int 0, .ref mo]) rfl ?_
      refine lv_if_eq (tgt := 12) hx hb dX5_setMagic_5 (by decide) (fun _ => ?_) (fun c9 => absurd (by decide) c9)
      refine lv_iconst (v := 1) hx hb dX5_setMagic_12 (by decide) ?_
      refine hp_put (fs1 := [.int 1, .ref dW, .ref dA, .ref dQ, .ref dM, .ref dS, .ref dL, .ref dR, .ref dT, .ref dZ, .ref dI, .ref dH, .ref dN, .ref dK, .ref dJ, .ref dU, .ref dO, .int 0, .int 0, .ref dF, .ref dP, .ref dE, .ref dX, .ref dY, .int 0, .int 0, .ref dG]) (ty := .int) B0 hw hS 5 rfl in_X5 tyX5 tyX5_ok nmX5 k_mo 0 (by decide) qF_X5_77 rfl (by decide +kernel) rfl rfl (Nat.le_of_ble_eq_true rfl) rfl dX5_setMagic_13 (fun H locs f16 ef16 hw hS => ?_)
      have h17 : f16 mo = some (.inr (5, [.int 1, .ref dW, .ref dA, .ref dQ, .ref dM, .ref dS, .ref dL, .ref dR, .ref dT, .ref dZ, .ref dI, .ref dH, .ref dN, .ref dK, .ref dJ, .ref dU, .ref dO, .int 0, .int 0, .ref dF, .ref dP, .ref dE, .ref dX, .ref dY, .int 0, .int 0, .ref dG])) := by rw [ef16, va_up_self]
      refine lv_aload_n hx hb dX5_setMagic_16 rfl (lv_at hl9 0 rfl) ?_
      refine hp_get B0 hw 5 rfl in_X5 h17 0 (by decide) qF_X5_77 rfl dX5_setMagic_17 ?_
      refine lv_if_le (tgt := 25) hx hb dX5_setMagic_20 (by decide) (fun c9 => absurd c9 (by decide)) (fun _ => ?_)
      refine lv_iconst (v := 0) hx hb dX5_setMagic_23 (by decide) ?_
      exact hp_iret (v := 0) B0 hw hS hr ⟨Nat.le_of_ble_eq_true rfl, Nat.le_of_ble_eq_true rfl⟩ dX5_setMagic_24 (⟨⟨_, rfl, fun h9 => absurd (h9.symm.trans (spc_1 hnE)) (by decide)⟩, ⟨_, (by rw [show spc (sE i) True = 1 from (spc_1 hnE)]; exact h17)⟩, (show hKeep [mo, dM] f f16 from (by rw [ef16]; exact hKeep.up (by simp)))⟩)

set_option maxHeartbeats 4000000 in
set_option maxRecDepth 100000 in
theorem c_X5_asksEnd0 {l : Launch} (hl : l.stackTraces = false) (G : hG) (f : hM) (mo dW dA dQ dM dS dL dR dT dZ dI dH dN dK dJ dU dO dF dP dE dX dY dG : Nat) (th : Int32) (k_mo : f mo = some (.inr (5, [.int th, .ref dW, .ref dA, .ref dQ, .ref dM, .ref dS, .ref dL, .ref dR, .ref dT, .ref dZ, .ref dI, .ref dH, .ref dN, .ref dK, .ref dJ, .ref dU, .ref dO, .int 0, .int 0, .ref dF, .ref dP, .ref dE, .ref dX, .ref dY, .int 0, .int 0, .ref dG])))  (i : Int32) : CT l yX5_asksEnd (.code yX5_asksEnd cX5_asksEnd 2 (some .boolean)) 2 42 0 0 G [.ref mo, .int i] f (fun v f1 => ((sE i ∧ v = some (.int 1)) ∨ (¬ sE i ∧ v = some (.int 0))) ∧ (∃ t9 : Int32, f1 mo = some (.inr (5, .int (spc (sE i) True) :: [.ref dW, .ref dA, .ref dQ, .ref dM, .ref dS, .ref dL, .ref dR, .ref dT, .ref dZ, .ref dI, .ref dH, .ref dN, .ref dK, .ref dJ, .ref dU, .ref dO, .int 0, .int 0, .ref dF, .ref dP, .ref dE, .ref dX, .ref dY, .int 0, .int 0, .ref dG])) ∧ t9 = spc (sE i) True) ∧ hKeep [mo] f f1) (fun E f1 => False) := by
  refine hp_start hl (own := RX5) (by decide) rfl (Nat.le_of_ble_eq_true rfl) ?_
  intro p e s m args below meth c B0 hr hnm hout hw hS ls hl9
  have hx := B0.1
  have hb := B0.2.1
  have hl9 : lv_has ls 2 [(0, .ref mo), (1, .int i)] := hl9
  refine lv_aload_n hx hb dX5_asksEnd_0 rfl (lv_at hl9 0 rfl) ?_
  refine lv_iload_n hx hb dX5_asksEnd_1 rfl (lv_at hl9 1 rfl) ?_
  refine hp_S (As := [.int i]) (rest := [.ref mo]) B0 hw hS (c_X5_isEnd hl G f i) mS_X5_isEnd qM_X5_85 rfl rfl hl9.1 (Nat.le_of_ble_eq_true rfl) ⟨⟨Nat.le_of_ble_eq_true rfl, Nat.le_of_ble_eq_true rfl⟩, Nat.le_of_ble_eq_true rfl, Nat.le_of_ble_eq_true rfl⟩ dX5_asksEnd_2 (fun E ce q9 f1 H locs hPX hw hS hce hcv hcl => ?_) (fun v f1 H locs hP hw hS => ?_)
  · exact hPX.elim
  · obtain ⟨ef9, hv9⟩ := hP
    rw [ef9] at hw
    rcases hv9 with ⟨b9 | b9, ev9⟩ | ⟨hnE, ev9⟩
    · subst ev9
      subst b9
      refine W.eq (g2 := F0 m 5 ls [.int 1, .ref mo]) rfl ?_
      refine lv_if_eq (tgt := 12) hx hb dX5_asksEnd_5 (by decide) (fun c9 => absurd c9 (by decide)) (fun _ => ?_)
      refine lv_iconst (v := 0) hx hb dX5_asksEnd_8 (by decide) ?_
      refine lv_goto (tgt := 13) hx hb dX5_asksEnd_9 (by decide) ?_
      refine hp_put (fs1 := [.int 0, .ref dW, .ref dA, .ref dQ, .ref dM, .ref dS, .ref dL, .ref dR, .ref dT, .ref dZ, .ref dI, .ref dH, .ref dN, .ref dK, .ref dJ, .ref dU, .ref dO, .int 0, .int 0, .ref dF, .ref dP, .ref dE, .ref dX, .ref dY, .int 0, .int 0, .ref dG]) (ty := .int) B0 hw hS 5 rfl in_X5 tyX5 tyX5_ok nmX5 k_mo 0 (by decide) qF_X5_77 rfl (by decide +kernel) rfl rfl (Nat.le_of_ble_eq_true rfl) rfl dX5_asksEnd_13 (fun H locs f2 ef2 hw hS => ?_)
      have h3 : f2 mo = some (.inr (5, [.int 0, .ref dW, .ref dA, .ref dQ, .ref dM, .ref dS, .ref dL, .ref dR, .ref dT, .ref dZ, .ref dI, .ref dH, .ref dN, .ref dK, .ref dJ, .ref dU, .ref dO, .int 0, .int 0, .ref dF, .ref dP, .ref dE, .ref dX, .ref dY, .int 0, .int 0, .ref dG])) := by rw [ef2, va_up_self]
      refine lv_aload_n hx hb dX5_asksEnd_16 rfl (lv_at hl9 0 rfl) ?_
      refine hp_get B0 hw 5 rfl in_X5 h3 0 (by decide) qF_X5_77 rfl dX5_asksEnd_17 ?_
      refine lv_if_ne (tgt := 27) hx hb dX5_asksEnd_20 (by decide) (fun c9 => absurd (by decide) c9) (fun _ => ?_)
      refine lv_iconst (v := 1) hx hb dX5_asksEnd_23 (by decide) ?_
      refine lv_goto (tgt := 28) hx hb dX5_asksEnd_24 (by decide) ?_
      exact hp_zret (v := 1) B0 hw hS hr ⟨Nat.le_of_ble_eq_true rfl, Nat.le_of_ble_eq_true rfl⟩ (rfl) dX5_asksEnd_28 (⟨Or.inl ⟨Or.inl rfl, rfl⟩, ⟨_, (by rw [show spc (sE 0) True = 0 from (spc_0 (Or.inl rfl) trivial)]; exact h3), rfl⟩, (show hKeep [mo] f f2 from (by rw [ef2]; exact hKeep.up (by simp)))⟩)
    · subst ev9
      subst b9
      refine W.eq (g2 := F0 m 5 ls [.int 1, .ref mo]) rfl ?_
      refine lv_if_eq (tgt := 12) hx hb dX5_asksEnd_5 (by decide) (fun c9 => absurd c9 (by decide)) (fun _ => ?_)
      refine lv_iconst (v := 0) hx hb dX5_asksEnd_8 (by decide) ?_
      refine lv_goto (tgt := 13) hx hb dX5_asksEnd_9 (by decide) ?_
      refine hp_put (fs1 := [.int 0, .ref dW, .ref dA, .ref dQ, .ref dM, .ref dS, .ref dL, .ref dR, .ref dT, .ref dZ, .ref dI, .ref dH, .ref dN, .ref dK, .ref dJ, .ref dU, .ref dO, .int 0, .int 0, .ref dF, .ref dP, .ref dE, .ref dX, .ref dY, .int 0, .int 0, .ref dG]) (ty := .int) B0 hw hS 5 rfl in_X5 tyX5 tyX5_ok nmX5 k_mo 0 (by decide) qF_X5_77 rfl (by decide +kernel) rfl rfl (Nat.le_of_ble_eq_true rfl) rfl dX5_asksEnd_13 (fun H locs f4 ef4 hw hS => ?_)
      have h5 : f4 mo = some (.inr (5, [.int 0, .ref dW, .ref dA, .ref dQ, .ref dM, .ref dS, .ref dL, .ref dR, .ref dT, .ref dZ, .ref dI, .ref dH, .ref dN, .ref dK, .ref dJ, .ref dU, .ref dO, .int 0, .int 0, .ref dF, .ref dP, .ref dE, .ref dX, .ref dY, .int 0, .int 0, .ref dG])) := by rw [ef4, va_up_self]
      refine lv_aload_n hx hb dX5_asksEnd_16 rfl (lv_at hl9 0 rfl) ?_
      refine hp_get B0 hw 5 rfl in_X5 h5 0 (by decide) qF_X5_77 rfl dX5_asksEnd_17 ?_
      refine lv_if_ne (tgt := 27) hx hb dX5_asksEnd_20 (by decide) (fun c9 => absurd (by decide) c9) (fun _ => ?_)
      refine lv_iconst (v := 1) hx hb dX5_asksEnd_23 (by decide) ?_
      refine lv_goto (tgt := 28) hx hb dX5_asksEnd_24 (by decide) ?_
      exact hp_zret (v := 1) B0 hw hS hr ⟨Nat.le_of_ble_eq_true rfl, Nat.le_of_ble_eq_true rfl⟩ (rfl) dX5_asksEnd_28 (⟨Or.inl ⟨Or.inr rfl, rfl⟩, ⟨_, (by rw [show spc (sE 1) True = 0 from (spc_0 (Or.inr rfl) trivial)]; exact h5), rfl⟩, (show hKeep [mo] f f4 from (by rw [ef4]; exact hKeep.up (by simp)))⟩)
    · subst ev9
      refine W.eq (g2 := F0 m 5 ls [.int 0, .ref mo]) rfl ?_
      refine lv_if_eq (tgt := 12) hx hb dX5_asksEnd_5 (by decide) (fun _ => ?_) (fun c9 => absurd (by decide) c9)
      refine lv_iconst (v := 1) hx hb dX5_asksEnd_12 (by decide) ?_
      refine hp_put (fs1 := [.int 1, .ref dW, .ref dA, .ref dQ, .ref dM, .ref dS, .ref dL, .ref dR, .ref dT, .ref dZ, .ref dI, .ref dH, .ref dN, .ref dK, .ref dJ, .ref dU, .ref dO, .int 0, .int 0, .ref dF, .ref dP, .ref dE, .ref dX, .ref dY, .int 0, .int 0, .ref dG]) (ty := .int) B0 hw hS 5 rfl in_X5 tyX5 tyX5_ok nmX5 k_mo 0 (by decide) qF_X5_77 rfl (by decide +kernel) rfl rfl (Nat.le_of_ble_eq_true rfl) rfl dX5_asksEnd_13 (fun H locs f6 ef6 hw hS => ?_)
      have h7 : f6 mo = some (.inr (5, [.int 1, .ref dW, .ref dA, .ref dQ, .ref dM, .ref dS, .ref dL, .ref dR, .ref dT, .ref dZ, .ref dI, .ref dH, .ref dN, .ref dK, .ref dJ, .ref dU, .ref dO, .int 0, .int 0, .ref dF, .ref dP, .ref dE, .ref dX, .ref dY, .int 0, .int 0, .ref dG])) := by rw [ef6, va_up_self]
      refine lv_aload_n hx hb dX5_asksEnd_16 rfl (lv_at hl9 0 rfl) ?_
      refine hp_get B0 hw 5 rfl in_X5 h7 0 (by decide) qF_X5_77 rfl dX5_asksEnd_17 ?_
      refine lv_if_ne (tgt := 27) hx hb dX5_asksEnd_20 (by decide) (fun _ => ?_) (fun c9 => absurd c9 (by decide))
      refine lv_iconst (v := 0) hx hb dX5_asksEnd_27 (by decide) ?_
      exact hp_zret (v := 0) B0 hw hS hr ⟨Nat.le_of_ble_eq_true rfl, Nat.le_of_ble_eq_true rfl⟩ (rfl) dX5_asksEnd_28 (⟨Or.inr ⟨hnE, rfl⟩, ⟨_, (by rw [show spc (sE i) True = 1 from (spc_1 hnE)]; exact h7), rfl⟩, (show hKeep [mo] f f6 from (by rw [ef6]; exact hKeep.up (by simp)))⟩)

set_option maxHeartbeats 4000000 in
set_option maxRecDepth 100000 in
theorem c_X5_stateOf0 {l : Launch} (hl : l.stackTraces = false) (G : hG) (f : hM) (mo dW dA dQ dM dS dL dR dT dZ dI dH dN dK dJ dU dO dF dP dE dX dY dG : Nat) (th : Int32) (k_mo : f mo = some (.inr (5, [.int th, .ref dW, .ref dA, .ref dQ, .ref dM, .ref dS, .ref dL, .ref dR, .ref dT, .ref dZ, .ref dI, .ref dH, .ref dN, .ref dK, .ref dJ, .ref dU, .ref dO, .int 0, .int 0, .ref dF, .ref dP, .ref dE, .ref dX, .ref dY, .int 0, .int 0, .ref dG]))) (k_dS : f dS = some (.inl (cI G, 2, .inl (fun _ => 0)))) (i : Int32) : CT l yX5_stateOf (.code yX5_stateOf cX5_stateOf 2 (some .int)) 3 63 0 0 G [.ref mo, .int i] f (fun v f1 => (∃ r : Int32, v = some (.int r) ∧ (spc (sE i) True = 0 → r = 0)) ∧ (∃ c9 : List Value, f1 mo = some (.inr (5, .int (spc (sE i) True) :: c9))) ∧ hKeep [mo] f f1) (fun E f1 => False) := by
  refine hp_start hl (own := RX5) (by decide) rfl (Nat.le_of_ble_eq_true rfl) ?_
  intro p e s m args below meth c B0 hr hnm hout hw hS ls hl9
  have hx := B0.1
  have hb := B0.2.1
  have hl9 : lv_has ls 2 [(0, .ref mo), (1, .int i)] := hl9
  refine lv_aload_n hx hb dX5_stateOf_0 rfl (lv_at hl9 0 rfl) ?_
  refine lv_iload_n hx hb dX5_stateOf_1 rfl (lv_at hl9 1 rfl) ?_
  refine hp_V (ci := 5) (As := [.int i]) (rest := []) B0 hw hS (c_X5_asksEnd0 hl G f mo dW dA dQ dM dS dL dR dT dZ dI dH dN dK dJ dU dO dF dP dE dX dY dG th k_mo i) mV_X5_asksEnd qM_X5_133 rfl k_mo rfl rfl hl9.1 (Nat.le_of_ble_eq_true rfl) ⟨⟨Nat.le_of_ble_eq_true rfl, Nat.le_of_ble_eq_true rfl⟩, Nat.le_of_ble_eq_true rfl, Nat.le_of_ble_eq_true rfl⟩ dX5_stateOf_2 (fun E ce q9 f1 H locs hPX hw hS hce hcv hcl => ?_) (fun v f1 H locs hP hw hS => ?_)
  · exact hPX.elim
  · obtain ⟨hv9, ⟨t9, hm9, et9⟩, kk9⟩ := hP
    rcases hv9 with ⟨b9 | b9, ev9⟩ | ⟨hnE, ev9⟩
    · subst ev9
      subst b9
      have h2 : f1 mo = some (.inr (5, [.int 0, .ref dW, .ref dA, .ref dQ, .ref dM, .ref dS, .ref dL, .ref dR, .ref dT, .ref dZ, .ref dI, .ref dH, .ref dN, .ref dK, .ref dJ, .ref dU, .ref dO, .int 0, .int 0, .ref dF, .ref dP, .ref dE, .ref dX, .ref dY, .int 0, .int 0, .ref dG])) := by rw [hm9, spc_0 (Or.inl rfl) trivial]
      refine W.eq (g2 := F0 m 5 ls [.int 1]) rfl ?_
      refine lv_if_eq (tgt := 17) hx hb dX5_stateOf_5 (by decide) (fun c9 => absurd c9 (by decide)) (fun _ => ?_)
      refine lv_aload_n hx hb dX5_stateOf_8 rfl (lv_at hl9 0 rfl) ?_
      refine hp_get B0 hw 5 rfl in_X5 h2 5 (by decide) qF_X5_22 rfl dX5_stateOf_9 ?_
      refine lv_iload_n hx hb dX5_stateOf_12 rfl (lv_at hl9 1 rfl) ?_
      have n4 : dS ≠ mo := hne k_dS k_mo (Nat.ne_of_beq_eq_false rfl)
      have h3 : f1 dS = some (.inl (cI G, 2, .inl (fun _ => 0))) := kk9 _ _ k_dS (ninc n4 nin0)
      refine hp_iald B0 hw h3 (by unfold vp_in; decide) dX5_stateOf_13 ?_
      refine hp_c (v := 0) (rfl) ?_
      refine lv_goto (tgt := 18) hx hb dX5_stateOf_14 (by decide) ?_
      exact hp_iret (v := 0) B0 hw hS hr ⟨Nat.le_of_ble_eq_true rfl, Nat.le_of_ble_eq_true rfl⟩ dX5_stateOf_18 (⟨⟨_, rfl, fun _ => rfl⟩, ⟨_, (by rw [show spc (sE 0) True = 0 from (spc_0 (Or.inl rfl) trivial)]; exact h2)⟩, (show hKeep [mo] f f1 from (kk9.mono (fun x9 hx9 => by simp only [List.mem_cons, List.not_mem_nil, or_false] at hx9 ⊢; omega)))⟩)
    · subst ev9
      subst b9
      have h5 : f1 mo = some (.inr (5, [.int 0, .ref dW, .ref dA, .ref dQ, .ref dM, .ref dS, .ref dL, .ref dR, .ref dT, .ref dZ, .ref dI, .ref dH, .ref dN, .ref dK, .ref dJ, .ref dU, .ref dO, .int 0, .int 0, .ref dF, .ref dP, .ref dE, .ref dX, .ref dY, .int 0, .int 0, .ref dG])) := by rw [hm9, spc_0 (Or.inr rfl) trivial]
      refine W.eq (g2 := F0 m 5 ls [.int 1]) rfl ?_
      refine lv_if_eq (tgt := 17) hx hb dX5_stateOf_5 (by decide) (fun c9 => absurd c9 (by decide)) (fun _ => ?_)
      refine lv_aload_n hx hb dX5_stateOf_8 rfl (lv_at hl9 0 rfl) ?_
      refine hp_get B0 hw 5 rfl in_X5 h5 5 (by decide) qF_X5_22 rfl dX5_stateOf_9 ?_
      refine lv_iload_n hx hb dX5_stateOf_12 rfl (lv_at hl9 1 rfl) ?_
      have n7 : dS ≠ mo := hne k_dS k_mo (Nat.ne_of_beq_eq_false rfl)
      have h6 : f1 dS = some (.inl (cI G, 2, .inl (fun _ => 0))) := kk9 _ _ k_dS (ninc n7 nin0)
      refine hp_iald B0 hw h6 (by unfold vp_in; decide) dX5_stateOf_13 ?_
      refine hp_c (v := 0) (rfl) ?_
      refine lv_goto (tgt := 18) hx hb dX5_stateOf_14 (by decide) ?_
      exact hp_iret (v := 0) B0 hw hS hr ⟨Nat.le_of_ble_eq_true rfl, Nat.le_of_ble_eq_true rfl⟩ dX5_stateOf_18 (⟨⟨_, rfl, fun _ => rfl⟩, ⟨_, (by rw [show spc (sE 1) True = 0 from (spc_0 (Or.inr rfl) trivial)]; exact h5)⟩, (show hKeep [mo] f f1 from (kk9.mono (fun x9 hx9 => by simp only [List.mem_cons, List.not_mem_nil, or_false] at hx9 ⊢; omega)))⟩)
    · subst ev9
      have h8 : f1 mo = some (.inr (5, [.int 1, .ref dW, .ref dA, .ref dQ, .ref dM, .ref dS, .ref dL, .ref dR, .ref dT, .ref dZ, .ref dI, .ref dH, .ref dN, .ref dK, .ref dJ, .ref dU, .ref dO, .int 0, .int 0, .ref dF, .ref dP, .ref dE, .ref dX, .ref dY, .int 0, .int 0, .ref dG])) := by rw [hm9, spc_1 hnE]
      refine W.eq (g2 := F0 m 5 ls [.int 0]) rfl ?_
      refine lv_if_eq (tgt := 17) hx hb dX5_stateOf_5 (by decide) (fun _ => ?_) (fun c9 => absurd (by decide) c9)
      refine lv_iconst (v := 0) hx hb dX5_stateOf_17 (by decide) ?_
      exact hp_iret (v := 0) B0 hw hS hr ⟨Nat.le_of_ble_eq_true rfl, Nat.le_of_ble_eq_true rfl⟩ dX5_stateOf_18 (⟨⟨_, rfl, fun h9 => absurd (h9.symm.trans (spc_1 hnE)) (by decide)⟩, ⟨_, (by rw [show spc (sE i) True = 1 from (spc_1 hnE)]; exact h8)⟩, (show hKeep [mo] f f1 from (kk9.mono (fun x9 hx9 => by simp only [List.mem_cons, List.not_mem_nil, or_false] at hx9 ⊢; omega)))⟩)

set_option maxHeartbeats 4000000 in
set_option maxRecDepth 100000 in
theorem c_X5_requests0 {l : Launch} (hl : l.stackTraces = false) (G : hG) (f : hM) (mo dW dA dQ dM dS dL dR dT dZ dI dH dN dK dJ dU dO dF dP dE dX dY dG : Nat) (th : Int32) (k_mo : f mo = some (.inr (5, [.int th, .ref dW, .ref dA, .ref dQ, .ref dM, .ref dS, .ref dL, .ref dR, .ref dT, .ref dZ, .ref dI, .ref dH, .ref dN, .ref dK, .ref dJ, .ref dU, .ref dO, .int 0, .int 0, .ref dF, .ref dP, .ref dE, .ref dX, .ref dY, .int 0, .int 0, .ref dG]))) (k_dR : f dR = some (.inl (cI G, 2, .inl (fun _ => 0)))) (i : Int32) : CT l yX5_requests (.code yX5_requests cX5_requests 2 (some .int)) 3 63 0 0 G [.ref mo, .int i] f (fun v f1 => (∃ r : Int32, v = some (.int r) ∧ (spc (sE i) True = 0 → r = 0)) ∧ (∃ c9 : List Value, f1 mo = some (.inr (5, .int (spc (sE i) True) :: c9))) ∧ hKeep [mo] f f1) (fun E f1 => False) := by
  refine hp_start hl (own := RX5) (by decide) rfl (Nat.le_of_ble_eq_true rfl) ?_
  intro p e s m args below meth c B0 hr hnm hout hw hS ls hl9
  have hx := B0.1
  have hb := B0.2.1
  have hl9 : lv_has ls 2 [(0, .ref mo), (1, .int i)] := hl9
  refine lv_aload_n hx hb dX5_requests_0 rfl (lv_at hl9 0 rfl) ?_
  refine lv_iload_n hx hb dX5_requests_1 rfl (lv_at hl9 1 rfl) ?_
  refine hp_V (ci := 5) (As := [.int i]) (rest := []) B0 hw hS (c_X5_asksEnd0 hl G f mo dW dA dQ dM dS dL dR dT dZ dI dH dN dK dJ dU dO dF dP dE dX dY dG th k_mo i) mV_X5_asksEnd qM_X5_133 rfl k_mo rfl rfl hl9.1 (Nat.le_of_ble_eq_true rfl) ⟨⟨Nat.le_of_ble_eq_true rfl, Nat.le_of_ble_eq_true rfl⟩, Nat.le_of_ble_eq_true rfl, Nat.le_of_ble_eq_true rfl⟩ dX5_requests_2 (fun E ce q9 f1 H locs hPX hw hS hce hcv hcl => ?_) (fun v f1 H locs hP hw hS => ?_)
  · exact hPX.elim
  · obtain ⟨hv9, ⟨t9, hm9, et9⟩, kk9⟩ := hP
    rcases hv9 with ⟨b9 | b9, ev9⟩ | ⟨hnE, ev9⟩
    · subst ev9
      subst b9
      have h2 : f1 mo = some (.inr (5, [.int 0, .ref dW, .ref dA, .ref dQ, .ref dM, .ref dS, .ref dL, .ref dR, .ref dT, .ref dZ, .ref dI, .ref dH, .ref dN, .ref dK, .ref dJ, .ref dU, .ref dO, .int 0, .int 0, .ref dF, .ref dP, .ref dE, .ref dX, .ref dY, .int 0, .int 0, .ref dG])) := by rw [hm9, spc_0 (Or.inl rfl) trivial]
      refine W.eq (g2 := F0 m 5 ls [.int 1]) rfl ?_
      refine lv_if_eq (tgt := 17) hx hb dX5_requests_5 (by decide) (fun c9 => absurd c9 (by decide)) (fun _ => ?_)
      refine lv_aload_n hx hb dX5_requests_8 rfl (lv_at hl9 0 rfl) ?_
      refine hp_get B0 hw 5 rfl in_X5 h2 7 (by decide) qF_X5_28 rfl dX5_requests_9 ?_
      refine lv_iload_n hx hb dX5_requests_12 rfl (lv_at hl9 1 rfl) ?_
      have n4 : dR ≠ mo := hne k_dR k_mo (Nat.ne_of_beq_eq_false rfl)
      have h3 : f1 dR = some (.inl (cI G, 2, .inl (fun _ => 0))) := kk9 _ _ k_dR (ninc n4 nin0)
      refine hp_iald B0 hw h3 (by unfold vp_in; decide) dX5_requests_13 ?_
      refine hp_c (v := 0) (rfl) ?_
      refine lv_goto (tgt := 18) hx hb dX5_requests_14 (by decide) ?_
      exact hp_iret (v := 0) B0 hw hS hr ⟨Nat.le_of_ble_eq_true rfl, Nat.le_of_ble_eq_true rfl⟩ dX5_requests_18 (⟨⟨_, rfl, fun _ => rfl⟩, ⟨_, (by rw [show spc (sE 0) True = 0 from (spc_0 (Or.inl rfl) trivial)]; exact h2)⟩, (show hKeep [mo] f f1 from (kk9.mono (fun x9 hx9 => by simp only [List.mem_cons, List.not_mem_nil, or_false] at hx9 ⊢; omega)))⟩)
    · subst ev9
      subst b9
      have h5 : f1 mo = some (.inr (5, [.int 0, .ref dW, .ref dA, .ref dQ, .ref dM, .ref dS, .ref dL, .ref dR, .ref dT, .ref dZ, .ref dI, .ref dH, .ref dN, .ref dK, .ref dJ, .ref dU, .ref dO, .int 0, .int 0, .ref dF, .ref dP, .ref dE, .ref dX, .ref dY, .int 0, .int 0, .ref dG])) := by rw [hm9, spc_0 (Or.inr rfl) trivial]
      refine W.eq (g2 := F0 m 5 ls [.int 1]) rfl ?_
      refine lv_if_eq (tgt := 17) hx hb dX5_requests_5 (by decide) (fun c9 => absurd c9 (by decide)) (fun _ => ?_)
      refine lv_aload_n hx hb dX5_requests_8 rfl (lv_at hl9 0 rfl) ?_
      refine hp_get B0 hw 5 rfl in_X5 h5 7 (by decide) qF_X5_28 rfl dX5_requests_9 ?_
      refine lv_iload_n hx hb dX5_requests_12 rfl (lv_at hl9 1 rfl) ?_
      have n7 : dR ≠ mo := hne k_dR k_mo (Nat.ne_of_beq_eq_false rfl)
      have h6 : f1 dR = some (.inl (cI G, 2, .inl (fun _ => 0))) := kk9 _ _ k_dR (ninc n7 nin0)
      refine hp_iald B0 hw h6 (by unfold vp_in; decide) dX5_requests_13 ?_
      refine hp_c (v := 0) (rfl) ?_
      refine lv_goto (tgt := 18) hx hb dX5_requests_14 (by decide) ?_
      exact hp_iret (v := 0) B0 hw hS hr ⟨Nat.le_of_ble_eq_true rfl, Nat.le_of_ble_eq_true rfl⟩ dX5_requests_18 (⟨⟨_, rfl, fun _ => rfl⟩, ⟨_, (by rw [show spc (sE 1) True = 0 from (spc_0 (Or.inr rfl) trivial)]; exact h5)⟩, (show hKeep [mo] f f1 from (kk9.mono (fun x9 hx9 => by simp only [List.mem_cons, List.not_mem_nil, or_false] at hx9 ⊢; omega)))⟩)
    · subst ev9
      have h8 : f1 mo = some (.inr (5, [.int 1, .ref dW, .ref dA, .ref dQ, .ref dM, .ref dS, .ref dL, .ref dR, .ref dT, .ref dZ, .ref dI, .ref dH, .ref dN, .ref dK, .ref dJ, .ref dU, .ref dO, .int 0, .int 0, .ref dF, .ref dP, .ref dE, .ref dX, .ref dY, .int 0, .int 0, .ref dG])) := by rw [hm9, spc_1 hnE]
      refine W.eq (g2 := F0 m 5 ls [.int 0]) rfl ?_
      refine lv_if_eq (tgt := 17) hx hb dX5_requests_5 (by decide) (fun _ => ?_) (fun c9 => absurd (by decide) c9)
      refine lv_iconst (v := 0) hx hb dX5_requests_17 (by decide) ?_
      exact hp_iret (v := 0) B0 hw hS hr ⟨Nat.le_of_ble_eq_true rfl, Nat.le_of_ble_eq_true rfl⟩ dX5_requests_18 (⟨⟨_, rfl, fun h9 => absurd (h9.symm.trans (spc_1 hnE)) (by decide)⟩, ⟨_, (by rw [show spc (sE i) True = 1 from (spc_1 hnE)]; exact h8)⟩, (show hKeep [mo] f f1 from (kk9.mono (fun x9 hx9 => by simp only [List.mem_cons, List.not_mem_nil, or_false] at hx9 ⊢; omega)))⟩)

set_option maxHeartbeats 4000000 in
set_option maxRecDepth 100000 in
theorem c_X5_isLooped0 {l : Launch} (hl : l.stackTraces = false) (G : hG) (f : hM) (mo dW dA dQ dM dS dL dR dT dZ dI dH dN dK dJ dU dO dF dP dE dX dY dG : Nat) (th : Int32) (k_mo : f mo = some (.inr (5, [.int th, .ref dW, .ref dA, .ref dQ, .ref dM, .ref dS, .ref dL, .ref dR, .ref dT, .ref dZ, .ref dI, .ref dH, .ref dN, .ref dK, .ref dJ, .ref dU, .ref dO, .int 0, .int 0, .ref dF, .ref dP, .ref dE, .ref dX, .ref dY, .int 0, .int 0, .ref dG]))) (k_dZ : f dZ = some (.inl (cZ G, 2, .inl (fun _ => 0)))) (i : Int32) : CT l yX5_isLooped (.code yX5_isLooped cX5_isLooped 2 (some .boolean)) 3 63 0 0 G [.ref mo, .int i] f (fun v f1 => (∃ r : Int32, v = some (.int r) ∧ (spc (sE i) True = 0 → r = 0)) ∧ (∃ c9 : List Value, f1 mo = some (.inr (5, .int (spc (sE i) True) :: c9))) ∧ hKeep [mo] f f1) (fun E f1 => False) := by
  refine hp_start hl (own := RX5) (by decide) rfl (Nat.le_of_ble_eq_true rfl) ?_
  intro p e s m args below meth c B0 hr hnm hout hw hS ls hl9
  have hx := B0.1
  have hb := B0.2.1
  have hl9 : lv_has ls 2 [(0, .ref mo), (1, .int i)] := hl9
  refine lv_aload_n hx hb dX5_isLooped_0 rfl (lv_at hl9 0 rfl) ?_
  refine lv_iload_n hx hb dX5_isLooped_1 rfl (lv_at hl9 1 rfl) ?_
  refine hp_V (ci := 5) (As := [.int i]) (rest := []) B0 hw hS (c_X5_asksEnd0 hl G f mo dW dA dQ dM dS dL dR dT dZ dI dH dN dK dJ dU dO dF dP dE dX dY dG th k_mo i) mV_X5_asksEnd qM_X5_133 rfl k_mo rfl rfl hl9.1 (Nat.le_of_ble_eq_true rfl) ⟨⟨Nat.le_of_ble_eq_true rfl, Nat.le_of_ble_eq_true rfl⟩, Nat.le_of_ble_eq_true rfl, Nat.le_of_ble_eq_true rfl⟩ dX5_isLooped_2 (fun E ce q9 f1 H locs hPX hw hS hce hcv hcl => ?_) (fun v f1 H locs hP hw hS => ?_)
  · exact hPX.elim
  · obtain ⟨hv9, ⟨t9, hm9, et9⟩, kk9⟩ := hP
    rcases hv9 with ⟨b9 | b9, ev9⟩ | ⟨hnE, ev9⟩
    · subst ev9
      subst b9
      have h2 : f1 mo = some (.inr (5, [.int 0, .ref dW, .ref dA, .ref dQ, .ref dM, .ref dS, .ref dL, .ref dR, .ref dT, .ref dZ, .ref dI, .ref dH, .ref dN, .ref dK, .ref dJ, .ref dU, .ref dO, .int 0, .int 0, .ref dF, .ref dP, .ref dE, .ref dX, .ref dY, .int 0, .int 0, .ref dG])) := by rw [hm9, spc_0 (Or.inl rfl) trivial]
      refine W.eq (g2 := F0 m 5 ls [.int 1]) rfl ?_
      refine lv_if_eq (tgt := 21) hx hb dX5_isLooped_5 (by decide) (fun c9 => absurd c9 (by decide)) (fun _ => ?_)
      refine lv_aload_n hx hb dX5_isLooped_8 rfl (lv_at hl9 0 rfl) ?_
      refine hp_get B0 hw 5 rfl in_X5 h2 9 (by decide) qF_X5_34 rfl dX5_isLooped_9 ?_
      refine lv_iload_n hx hb dX5_isLooped_12 rfl (lv_at hl9 1 rfl) ?_
      have n4 : dZ ≠ mo := hne k_dZ k_mo (Nat.ne_of_beq_eq_false rfl)
      have h3 : f1 dZ = some (.inl (cZ G, 2, .inl (fun _ => 0))) := kk9 _ _ k_dZ (ninc n4 nin0)
      refine hp_zald B0 hw h3 (by unfold vp_in; decide) dX5_isLooped_13 ?_
      refine hp_c (v := 0) (rfl) ?_
      refine lv_if_eq (tgt := 21) hx hb dX5_isLooped_14 (by decide) (fun _ => ?_) (fun c9 => absurd (by decide) c9)
      refine lv_iconst (v := 0) hx hb dX5_isLooped_21 (by decide) ?_
      exact hp_zret (v := 0) B0 hw hS hr ⟨Nat.le_of_ble_eq_true rfl, Nat.le_of_ble_eq_true rfl⟩ (rfl) dX5_isLooped_22 (⟨⟨_, rfl, fun _ => rfl⟩, ⟨_, (by rw [show spc (sE 0) True = 0 from (spc_0 (Or.inl rfl) trivial)]; exact h2)⟩, (show hKeep [mo] f f1 from (kk9.mono (fun x9 hx9 => by simp only [List.mem_cons, List.not_mem_nil, or_false] at hx9 ⊢; omega)))⟩)
    · subst ev9
      subst b9
      have h5 : f1 mo = some (.inr (5, [.int 0, .ref dW, .ref dA, .ref dQ, .ref dM, .ref dS, .ref dL, .ref dR, .ref dT, .ref dZ, .ref dI, .ref dH, .ref dN, .ref dK, .ref dJ, .ref dU, .ref dO, .int 0, .int 0, .ref dF, .ref dP, .ref dE, .ref dX, .ref dY, .int 0, .int 0, .ref dG])) := by rw [hm9, spc_0 (Or.inr rfl) trivial]
      refine W.eq (g2 := F0 m 5 ls [.int 1]) rfl ?_
      refine lv_if_eq (tgt := 21) hx hb dX5_isLooped_5 (by decide) (fun c9 => absurd c9 (by decide)) (fun _ => ?_)
      refine lv_aload_n hx hb dX5_isLooped_8 rfl (lv_at hl9 0 rfl) ?_
      refine hp_get B0 hw 5 rfl in_X5 h5 9 (by decide) qF_X5_34 rfl dX5_isLooped_9 ?_
      refine lv_iload_n hx hb dX5_isLooped_12 rfl (lv_at hl9 1 rfl) ?_
      have n7 : dZ ≠ mo := hne k_dZ k_mo (Nat.ne_of_beq_eq_false rfl)
      have h6 : f1 dZ = some (.inl (cZ G, 2, .inl (fun _ => 0))) := kk9 _ _ k_dZ (ninc n7 nin0)
      refine hp_zald B0 hw h6 (by unfold vp_in; decide) dX5_isLooped_13 ?_
      refine hp_c (v := 0) (rfl) ?_
      refine lv_if_eq (tgt := 21) hx hb dX5_isLooped_14 (by decide) (fun _ => ?_) (fun c9 => absurd (by decide) c9)
      refine lv_iconst (v := 0) hx hb dX5_isLooped_21 (by decide) ?_
      exact hp_zret (v := 0) B0 hw hS hr ⟨Nat.le_of_ble_eq_true rfl, Nat.le_of_ble_eq_true rfl⟩ (rfl) dX5_isLooped_22 (⟨⟨_, rfl, fun _ => rfl⟩, ⟨_, (by rw [show spc (sE 1) True = 0 from (spc_0 (Or.inr rfl) trivial)]; exact h5)⟩, (show hKeep [mo] f f1 from (kk9.mono (fun x9 hx9 => by simp only [List.mem_cons, List.not_mem_nil, or_false] at hx9 ⊢; omega)))⟩)
    · subst ev9
      have h8 : f1 mo = some (.inr (5, [.int 1, .ref dW, .ref dA, .ref dQ, .ref dM, .ref dS, .ref dL, .ref dR, .ref dT, .ref dZ, .ref dI, .ref dH, .ref dN, .ref dK, .ref dJ, .ref dU, .ref dO, .int 0, .int 0, .ref dF, .ref dP, .ref dE, .ref dX, .ref dY, .int 0, .int 0, .ref dG])) := by rw [hm9, spc_1 hnE]
      refine W.eq (g2 := F0 m 5 ls [.int 0]) rfl ?_
      refine lv_if_eq (tgt := 21) hx hb dX5_isLooped_5 (by decide) (fun _ => ?_) (fun c9 => absurd (by decide) c9)
      refine lv_iconst (v := 0) hx hb dX5_isLooped_21 (by decide) ?_
      exact hp_zret (v := 0) B0 hw hS hr ⟨Nat.le_of_ble_eq_true rfl, Nat.le_of_ble_eq_true rfl⟩ (rfl) dX5_isLooped_22 (⟨⟨_, rfl, fun h9 => absurd (h9.symm.trans (spc_1 hnE)) (by decide)⟩, ⟨_, (by rw [show spc (sE i) True = 1 from (spc_1 hnE)]; exact h8)⟩, (show hKeep [mo] f f1 from (kk9.mono (fun x9 hx9 => by simp only [List.mem_cons, List.not_mem_nil, or_false] at hx9 ⊢; omega)))⟩)

set_option maxHeartbeats 4000000 in
set_option maxRecDepth 100000 in
theorem c_X5_underWay0 {l : Launch} (hl : l.stackTraces = false) (G : hG) (f : hM) (mo dW dA dQ dM dS dL dR dT dZ dI dH dN dK dJ dU dO dF dP dE dX dY dG : Nat) (th : Int32) (k_mo : f mo = some (.inr (5, [.int th, .ref dW, .ref dA, .ref dQ, .ref dM, .ref dS, .ref dL, .ref dR, .ref dT, .ref dZ, .ref dI, .ref dH, .ref dN, .ref dK, .ref dJ, .ref dU, .ref dO, .int 0, .int 0, .ref dF, .ref dP, .ref dE, .ref dX, .ref dY, .int 0, .int 0, .ref dG]))) (k_dN : f dN = some (.inl (cI G, 2, .inl (fun _ => 0)))) (i : Int32) : CT l yX5_underWay (.code yX5_underWay cX5_underWay 2 (some .int)) 3 63 0 0 G [.ref mo, .int i] f (fun v f1 => (∃ r : Int32, v = some (.int r) ∧ (spc (sE i) True = 0 → r = 0)) ∧ (∃ c9 : List Value, f1 mo = some (.inr (5, .int (spc (sE i) True) :: c9))) ∧ hKeep [mo] f f1) (fun E f1 => False) := by
  refine hp_start hl (own := RX5) (by decide) rfl (Nat.le_of_ble_eq_true rfl) ?_
  intro p e s m args below meth c B0 hr hnm hout hw hS ls hl9
  have hx := B0.1
  have hb := B0.2.1
  have hl9 : lv_has ls 2 [(0, .ref mo), (1, .int i)] := hl9
  refine lv_aload_n hx hb dX5_underWay_0 rfl (lv_at hl9 0 rfl) ?_
  refine lv_iload_n hx hb dX5_underWay_1 rfl (lv_at hl9 1 rfl) ?_
  refine hp_V (ci := 5) (As := [.int i]) (rest := []) B0 hw hS (c_X5_asksEnd0 hl G f mo dW dA dQ dM dS dL dR dT dZ dI dH dN dK dJ dU dO dF dP dE dX dY dG th k_mo i) mV_X5_asksEnd qM_X5_133 rfl k_mo rfl rfl hl9.1 (Nat.le_of_ble_eq_true rfl) ⟨⟨Nat.le_of_ble_eq_true rfl, Nat.le_of_ble_eq_true rfl⟩, Nat.le_of_ble_eq_true rfl, Nat.le_of_ble_eq_true rfl⟩ dX5_underWay_2 (fun E ce q9 f1 H locs hPX hw hS hce hcv hcl => ?_) (fun v f1 H locs hP hw hS => ?_)
  · exact hPX.elim
  · obtain ⟨hv9, ⟨t9, hm9, et9⟩, kk9⟩ := hP
    rcases hv9 with ⟨b9 | b9, ev9⟩ | ⟨hnE, ev9⟩
    · subst ev9
      subst b9
      have h2 : f1 mo = some (.inr (5, [.int 0, .ref dW, .ref dA, .ref dQ, .ref dM, .ref dS, .ref dL, .ref dR, .ref dT, .ref dZ, .ref dI, .ref dH, .ref dN, .ref dK, .ref dJ, .ref dU, .ref dO, .int 0, .int 0, .ref dF, .ref dP, .ref dE, .ref dX, .ref dY, .int 0, .int 0, .ref dG])) := by rw [hm9, spc_0 (Or.inl rfl) trivial]
      refine W.eq (g2 := F0 m 5 ls [.int 1]) rfl ?_
      refine lv_if_eq (tgt := 17) hx hb dX5_underWay_5 (by decide) (fun c9 => absurd c9 (by decide)) (fun _ => ?_)
      refine lv_aload_n hx hb dX5_underWay_8 rfl (lv_at hl9 0 rfl) ?_
      refine hp_get B0 hw 5 rfl in_X5 h2 12 (by decide) qF_X5_44 rfl dX5_underWay_9 ?_
      refine lv_iload_n hx hb dX5_underWay_12 rfl (lv_at hl9 1 rfl) ?_
      have n4 : dN ≠ mo := hne k_dN k_mo (Nat.ne_of_beq_eq_false rfl)
      have h3 : f1 dN = some (.inl (cI G, 2, .inl (fun _ => 0))) := kk9 _ _ k_dN (ninc n4 nin0)
      refine hp_iald B0 hw h3 (by unfold vp_in; decide) dX5_underWay_13 ?_
      refine hp_c (v := 0) (rfl) ?_
      refine lv_goto (tgt := 18) hx hb dX5_underWay_14 (by decide) ?_
      exact hp_iret (v := 0) B0 hw hS hr ⟨Nat.le_of_ble_eq_true rfl, Nat.le_of_ble_eq_true rfl⟩ dX5_underWay_18 (⟨⟨_, rfl, fun _ => rfl⟩, ⟨_, (by rw [show spc (sE 0) True = 0 from (spc_0 (Or.inl rfl) trivial)]; exact h2)⟩, (show hKeep [mo] f f1 from (kk9.mono (fun x9 hx9 => by simp only [List.mem_cons, List.not_mem_nil, or_false] at hx9 ⊢; omega)))⟩)
    · subst ev9
      subst b9
      have h5 : f1 mo = some (.inr (5, [.int 0, .ref dW, .ref dA, .ref dQ, .ref dM, .ref dS, .ref dL, .ref dR, .ref dT, .ref dZ, .ref dI, .ref dH, .ref dN, .ref dK, .ref dJ, .ref dU, .ref dO, .int 0, .int 0, .ref dF, .ref dP, .ref dE, .ref dX, .ref dY, .int 0, .int 0, .ref dG])) := by rw [hm9, spc_0 (Or.inr rfl) trivial]
      refine W.eq (g2 := F0 m 5 ls [.int 1]) rfl ?_
      refine lv_if_eq (tgt := 17) hx hb dX5_underWay_5 (by decide) (fun c9 => absurd c9 (by decide)) (fun _ => ?_)
      refine lv_aload_n hx hb dX5_underWay_8 rfl (lv_at hl9 0 rfl) ?_
      refine hp_get B0 hw 5 rfl in_X5 h5 12 (by decide) qF_X5_44 rfl dX5_underWay_9 ?_
      refine lv_iload_n hx hb dX5_underWay_12 rfl (lv_at hl9 1 rfl) ?_
      have n7 : dN ≠ mo := hne k_dN k_mo (Nat.ne_of_beq_eq_false rfl)
      have h6 : f1 dN = some (.inl (cI G, 2, .inl (fun _ => 0))) := kk9 _ _ k_dN (ninc n7 nin0)
      refine hp_iald B0 hw h6 (by unfold vp_in; decide) dX5_underWay_13 ?_
      refine hp_c (v := 0) (rfl) ?_
      refine lv_goto (tgt := 18) hx hb dX5_underWay_14 (by decide) ?_
      exact hp_iret (v := 0) B0 hw hS hr ⟨Nat.le_of_ble_eq_true rfl, Nat.le_of_ble_eq_true rfl⟩ dX5_underWay_18 (⟨⟨_, rfl, fun _ => rfl⟩, ⟨_, (by rw [show spc (sE 1) True = 0 from (spc_0 (Or.inr rfl) trivial)]; exact h5)⟩, (show hKeep [mo] f f1 from (kk9.mono (fun x9 hx9 => by simp only [List.mem_cons, List.not_mem_nil, or_false] at hx9 ⊢; omega)))⟩)
    · subst ev9
      have h8 : f1 mo = some (.inr (5, [.int 1, .ref dW, .ref dA, .ref dQ, .ref dM, .ref dS, .ref dL, .ref dR, .ref dT, .ref dZ, .ref dI, .ref dH, .ref dN, .ref dK, .ref dJ, .ref dU, .ref dO, .int 0, .int 0, .ref dF, .ref dP, .ref dE, .ref dX, .ref dY, .int 0, .int 0, .ref dG])) := by rw [hm9, spc_1 hnE]
      refine W.eq (g2 := F0 m 5 ls [.int 0]) rfl ?_
      refine lv_if_eq (tgt := 17) hx hb dX5_underWay_5 (by decide) (fun _ => ?_) (fun c9 => absurd (by decide) c9)
      refine lv_iconst (v := 0) hx hb dX5_underWay_17 (by decide) ?_
      exact hp_iret (v := 0) B0 hw hS hr ⟨Nat.le_of_ble_eq_true rfl, Nat.le_of_ble_eq_true rfl⟩ dX5_underWay_18 (⟨⟨_, rfl, fun h9 => absurd (h9.symm.trans (spc_1 hnE)) (by decide)⟩, ⟨_, (by rw [show spc (sE i) True = 1 from (spc_1 hnE)]; exact h8)⟩, (show hKeep [mo] f f1 from (kk9.mono (fun x9 hx9 => by simp only [List.mem_cons, List.not_mem_nil, or_false] at hx9 ⊢; omega)))⟩)

set_option maxHeartbeats 4000000 in
set_option maxRecDepth 100000 in
theorem c_X5_missed0 {l : Launch} (hl : l.stackTraces = false) (G : hG) (f : hM) (mo dW dA dQ dM dS dL dR dT dZ dI dH dN dK dJ dU dO dF dP dE dX dY dG : Nat) (th : Int32) (k_mo : f mo = some (.inr (5, [.int th, .ref dW, .ref dA, .ref dQ, .ref dM, .ref dS, .ref dL, .ref dR, .ref dT, .ref dZ, .ref dI, .ref dH, .ref dN, .ref dK, .ref dJ, .ref dU, .ref dO, .int 0, .int 0, .ref dF, .ref dP, .ref dE, .ref dX, .ref dY, .int 0, .int 0, .ref dG]))) (k_dI : f dI = some (.inl (cI G, 2, .inl (fun _ => 0)))) (i : Int32) : CT l yX5_missed (.code yX5_missed cX5_missed 2 (some .int)) 3 63 0 0 G [.ref mo, .int i] f (fun v f1 => (∃ r : Int32, v = some (.int r) ∧ (spc (sE i) True = 0 → r = 0)) ∧ (∃ c9 : List Value, f1 mo = some (.inr (5, .int (spc (sE i) True) :: c9))) ∧ hKeep [mo] f f1) (fun E f1 => False) := by
  refine hp_start hl (own := RX5) (by decide) rfl (Nat.le_of_ble_eq_true rfl) ?_
  intro p e s m args below meth c B0 hr hnm hout hw hS ls hl9
  have hx := B0.1
  have hb := B0.2.1
  have hl9 : lv_has ls 2 [(0, .ref mo), (1, .int i)] := hl9
  refine lv_aload_n hx hb dX5_missed_0 rfl (lv_at hl9 0 rfl) ?_
  refine lv_iload_n hx hb dX5_missed_1 rfl (lv_at hl9 1 rfl) ?_
  refine hp_V (ci := 5) (As := [.int i]) (rest := []) B0 hw hS (c_X5_asksEnd0 hl G f mo dW dA dQ dM dS dL dR dT dZ dI dH dN dK dJ dU dO dF dP dE dX dY dG th k_mo i) mV_X5_asksEnd qM_X5_133 rfl k_mo rfl rfl hl9.1 (Nat.le_of_ble_eq_true rfl) ⟨⟨Nat.le_of_ble_eq_true rfl, Nat.le_of_ble_eq_true rfl⟩, Nat.le_of_ble_eq_true rfl, Nat.le_of_ble_eq_true rfl⟩ dX5_missed_2 (fun E ce q9 f1 H locs hPX hw hS hce hcv hcl => ?_) (fun v f1 H locs hP hw hS => ?_)
  · exact hPX.elim
  · obtain ⟨hv9, ⟨t9, hm9, et9⟩, kk9⟩ := hP
    rcases hv9 with ⟨b9 | b9, ev9⟩ | ⟨hnE, ev9⟩
    · subst ev9
      subst b9
      have h2 : f1 mo = some (.inr (5, [.int 0, .ref dW, .ref dA, .ref dQ, .ref dM, .ref dS, .ref dL, .ref dR, .ref dT, .ref dZ, .ref dI, .ref dH, .ref dN, .ref dK, .ref dJ, .ref dU, .ref dO, .int 0, .int 0, .ref dF, .ref dP, .ref dE, .ref dX, .ref dY, .int 0, .int 0, .ref dG])) := by rw [hm9, spc_0 (Or.inl rfl) trivial]
      refine W.eq (g2 := F0 m 5 ls [.int 1]) rfl ?_
      refine lv_if_eq (tgt := 17) hx hb dX5_missed_5 (by decide) (fun c9 => absurd c9 (by decide)) (fun _ => ?_)
      refine lv_aload_n hx hb dX5_missed_8 rfl (lv_at hl9 0 rfl) ?_
      refine hp_get B0 hw 5 rfl in_X5 h2 10 (by decide) qF_X5_38 rfl dX5_missed_9 ?_
      refine lv_iload_n hx hb dX5_missed_12 rfl (lv_at hl9 1 rfl) ?_
      have n4 : dI ≠ mo := hne k_dI k_mo (Nat.ne_of_beq_eq_false rfl)
      have h3 : f1 dI = some (.inl (cI G, 2, .inl (fun _ => 0))) := kk9 _ _ k_dI (ninc n4 nin0)
      refine hp_iald B0 hw h3 (by unfold vp_in; decide) dX5_missed_13 ?_
      refine hp_c (v := 0) (rfl) ?_
      refine lv_goto (tgt := 18) hx hb dX5_missed_14 (by decide) ?_
      exact hp_iret (v := 0) B0 hw hS hr ⟨Nat.le_of_ble_eq_true rfl, Nat.le_of_ble_eq_true rfl⟩ dX5_missed_18 (⟨⟨_, rfl, fun _ => rfl⟩, ⟨_, (by rw [show spc (sE 0) True = 0 from (spc_0 (Or.inl rfl) trivial)]; exact h2)⟩, (show hKeep [mo] f f1 from (kk9.mono (fun x9 hx9 => by simp only [List.mem_cons, List.not_mem_nil, or_false] at hx9 ⊢; omega)))⟩)
    · subst ev9
      subst b9
      have h5 : f1 mo = some (.inr (5, [.int 0, .ref dW, .ref dA, .ref dQ, .ref dM, .ref dS, .ref dL, .ref dR, .ref dT, .ref dZ, .ref dI, .ref dH, .ref dN, .ref dK, .ref dJ, .ref dU, .ref dO, .int 0, .int 0, .ref dF, .ref dP, .ref dE, .ref dX, .ref dY, .int 0, .int 0, .ref dG])) := by rw [hm9, spc_0 (Or.inr rfl) trivial]
      refine W.eq (g2 := F0 m 5 ls [.int 1]) rfl ?_
      refine lv_if_eq (tgt := 17) hx hb dX5_missed_5 (by decide) (fun c9 => absurd c9 (by decide)) (fun _ => ?_)
      refine lv_aload_n hx hb dX5_missed_8 rfl (lv_at hl9 0 rfl) ?_
      refine hp_get B0 hw 5 rfl in_X5 h5 10 (by decide) qF_X5_38 rfl dX5_missed_9 ?_
      refine lv_iload_n hx hb dX5_missed_12 rfl (lv_at hl9 1 rfl) ?_
      have n7 : dI ≠ mo := hne k_dI k_mo (Nat.ne_of_beq_eq_false rfl)
      have h6 : f1 dI = some (.inl (cI G, 2, .inl (fun _ => 0))) := kk9 _ _ k_dI (ninc n7 nin0)
      refine hp_iald B0 hw h6 (by unfold vp_in; decide) dX5_missed_13 ?_
      refine hp_c (v := 0) (rfl) ?_
      refine lv_goto (tgt := 18) hx hb dX5_missed_14 (by decide) ?_
      exact hp_iret (v := 0) B0 hw hS hr ⟨Nat.le_of_ble_eq_true rfl, Nat.le_of_ble_eq_true rfl⟩ dX5_missed_18 (⟨⟨_, rfl, fun _ => rfl⟩, ⟨_, (by rw [show spc (sE 1) True = 0 from (spc_0 (Or.inr rfl) trivial)]; exact h5)⟩, (show hKeep [mo] f f1 from (kk9.mono (fun x9 hx9 => by simp only [List.mem_cons, List.not_mem_nil, or_false] at hx9 ⊢; omega)))⟩)
    · subst ev9
      have h8 : f1 mo = some (.inr (5, [.int 1, .ref dW, .ref dA, .ref dQ, .ref dM, .ref dS, .ref dL, .ref dR, .ref dT, .ref dZ, .ref dI, .ref dH, .ref dN, .ref dK, .ref dJ, .ref dU, .ref dO, .int 0, .int 0, .ref dF, .ref dP, .ref dE, .ref dX, .ref dY, .int 0, .int 0, .ref dG])) := by rw [hm9, spc_1 hnE]
      refine W.eq (g2 := F0 m 5 ls [.int 0]) rfl ?_
      refine lv_if_eq (tgt := 17) hx hb dX5_missed_5 (by decide) (fun _ => ?_) (fun c9 => absurd (by decide) c9)
      refine lv_iconst (v := 0) hx hb dX5_missed_17 (by decide) ?_
      exact hp_iret (v := 0) B0 hw hS hr ⟨Nat.le_of_ble_eq_true rfl, Nat.le_of_ble_eq_true rfl⟩ dX5_missed_18 (⟨⟨_, rfl, fun h9 => absurd (h9.symm.trans (spc_1 hnE)) (by decide)⟩, ⟨_, (by rw [show spc (sE i) True = 1 from (spc_1 hnE)]; exact h8)⟩, (show hKeep [mo] f f1 from (kk9.mono (fun x9 hx9 => by simp only [List.mem_cons, List.not_mem_nil, or_false] at hx9 ⊢; omega)))⟩)

set_option maxHeartbeats 4000000 in
set_option maxRecDepth 100000 in
theorem c_X5_asked0 {l : Launch} (hl : l.stackTraces = false) (G : hG) (f : hM) (mo dW dA dQ dM dS dL dR dT dZ dI dH dN dK dJ dU dO dF dP dE dX dY dG : Nat) (th : Int32) (k_mo : f mo = some (.inr (5, [.int th, .ref dW, .ref dA, .ref dQ, .ref dM, .ref dS, .ref dL, .ref dR, .ref dT, .ref dZ, .ref dI, .ref dH, .ref dN, .ref dK, .ref dJ, .ref dU, .ref dO, .int 0, .int 0, .ref dF, .ref dP, .ref dE, .ref dX, .ref dY, .int 0, .int 0, .ref dG]))) (k_dQ : f dQ = some (.inl (cI G, 12, .inl mA12))) (i o : Int32) : CT l yX5_asked (.code yX5_asked cX5_asked 3 (some .int)) 2 42 0 0 G [.ref mo, .int i, .int o] f (fun v f1 => (∃ r : Int32, v = some (.int r) ∧ (spc (sE i ∧ sO o) True = 0 → r = -1)) ∧ (∃ c9 : List Value, f1 mo = some (.inr (5, .int (spc (sE i ∧ sO o) True) :: c9))) ∧ hKeep [mo] f f1) (fun E f1 => False) := by
  refine hp_start hl (own := RX5) (by decide) rfl (Nat.le_of_ble_eq_true rfl) ?_
  intro p e s m args below meth c B0 hr hnm hout hw hS ls hl9
  have hx := B0.1
  have hb := B0.2.1
  have hl9 : lv_has ls 3 [(0, .ref mo), (1, .int i), (2, .int o)] := hl9
  refine lv_aload_n hx hb dX5_asked_0 rfl (lv_at hl9 0 rfl) ?_
  refine lv_iload_n hx hb dX5_asked_1 rfl (lv_at hl9 1 rfl) ?_
  refine hp_S (As := [.int i]) (rest := [.ref mo]) B0 hw hS (c_X5_isEnd hl G f i) mS_X5_isEnd qM_X5_85 rfl rfl hl9.1 (Nat.le_of_ble_eq_true rfl) ⟨⟨Nat.le_of_ble_eq_true rfl, Nat.le_of_ble_eq_true rfl⟩, Nat.le_of_ble_eq_true rfl, Nat.le_of_ble_eq_true rfl⟩ dX5_asked_2 (fun E ce q9 f1 H locs hPX hw hS hce hcv hcl => ?_) (fun v f1 H locs hP hw hS => ?_)
  · exact hPX.elim
  · obtain ⟨ef9, hv9⟩ := hP
    rw [ef9] at hw
    rcases hv9 with ⟨b2, ev9⟩ | ⟨b2, ev9⟩
    · subst ev9
      refine W.eq (g2 := F0 m 5 ls [.int 1, .ref mo]) rfl ?_
      refine lv_if_eq (tgt := 19) hx hb dX5_asked_5 (by decide) (fun c9 => absurd c9 (by decide)) (fun _ => ?_)
      refine lv_iload_n hx hb dX5_asked_8 rfl (lv_at hl9 2 rfl) ?_
      refine hp_S (As := [.int o]) (rest := [.ref mo]) B0 hw hS (c_X5_isOption hl G f o) mS_X5_isOption qM_X5_89 rfl rfl hl9.1 (Nat.le_of_ble_eq_true rfl) ⟨⟨Nat.le_of_ble_eq_true rfl, Nat.le_of_ble_eq_true rfl⟩, Nat.le_of_ble_eq_true rfl, Nat.le_of_ble_eq_true rfl⟩ dX5_asked_9 (fun E ce q9 f3 H locs hPX hw hS hce hcv hcl => ?_) (fun v f3 H locs hP hw hS => ?_)
      · exact hPX.elim
      · obtain ⟨ef9, hv9⟩ := hP
        rw [ef9] at hw
        rcases hv9 with ⟨b4, ev9⟩ | ⟨b4, ev9⟩
        · subst ev9
          refine W.eq (g2 := F0 m 12 ls [.int 1, .ref mo]) rfl ?_
          refine lv_if_eq (tgt := 19) hx hb dX5_asked_12 (by decide) (fun c9 => absurd c9 (by decide)) (fun _ => ?_)
          refine lv_iconst (v := 0) hx hb dX5_asked_15 (by decide) ?_
          refine lv_goto (tgt := 20) hx hb dX5_asked_16 (by decide) ?_
          refine hp_put (fs1 := [.int 0, .ref dW, .ref dA, .ref dQ, .ref dM, .ref dS, .ref dL, .ref dR, .ref dT, .ref dZ, .ref dI, .ref dH, .ref dN, .ref dK, .ref dJ, .ref dU, .ref dO, .int 0, .int 0, .ref dF, .ref dP, .ref dE, .ref dX, .ref dY, .int 0, .int 0, .ref dG]) (ty := .int) B0 hw hS 5 rfl in_X5 tyX5 tyX5_ok nmX5 k_mo 0 (by decide) qF_X5_77 rfl (by decide +kernel) rfl rfl (Nat.le_of_ble_eq_true rfl) rfl dX5_asked_20 (fun H locs f5 ef5 hw hS => ?_)
          have h6 : f5 mo = some (.inr (5, [.int 0, .ref dW, .ref dA, .ref dQ, .ref dM, .ref dS, .ref dL, .ref dR, .ref dT, .ref dZ, .ref dI, .ref dH, .ref dN, .ref dK, .ref dJ, .ref dU, .ref dO, .int 0, .int 0, .ref dF, .ref dP, .ref dE, .ref dX, .ref dY, .int 0, .int 0, .ref dG])) := by rw [ef5, va_up_self]
          refine lv_aload_n hx hb dX5_asked_23 rfl (lv_at hl9 0 rfl) ?_
          refine hp_get B0 hw 5 rfl in_X5 h6 0 (by decide) qF_X5_77 rfl dX5_asked_24 ?_
          refine lv_if_le (tgt := 34) hx hb dX5_asked_27 (by decide) (fun _ => ?_) (fun c9 => absurd (by decide) c9)
          refine lv_aload_n hx hb dX5_asked_34 rfl (lv_at hl9 0 rfl) ?_
          refine hp_get B0 hw 5 rfl in_X5 h6 3 (by decide) qF_X5_16 rfl dX5_asked_35 ?_
          refine lv_bipush (v := 6) hx hb dX5_asked_38 (by decide) ?_
          refine lv_iload_n hx hb dX5_asked_40 rfl (lv_at hl9 1 rfl) ?_
          refine lv_imul hx hb dX5_asked_41 ?_
          refine lv_iload_n hx hb dX5_asked_42 rfl (lv_at hl9 2 rfl) ?_
          refine lv_iadd hx hb dX5_asked_43 ?_
          have n8 : dQ ≠ mo := hne k_dQ k_mo (Nat.ne_of_beq_eq_false rfl)
          have h7 : f5 dQ = some (.inl (cI G, 12, .inl mA12)) := by rw [ef5, va_up_ne _ _ n8]; exact k_dQ
          refine hp_iald B0 hw h7 (vin12 b2 b4) dX5_asked_44 ?_
          exact hp_iret (v := (mA12 (((6 * i) + o) : Int32).toNatClampNeg)) B0 hw hS hr ⟨Nat.le_of_ble_eq_true rfl, Nat.le_of_ble_eq_true rfl⟩ dX5_asked_45 (⟨⟨_, rfl, fun _ => mA12_in _ (cn_lt (vin12 b2 b4))⟩, ⟨_, (by rw [show spc (sE i ∧ sO o) True = 0 from (spc_0 ⟨b2, b4⟩ trivial)]; exact h6)⟩, (show hKeep [mo] f f5 from (by rw [ef5]; exact hKeep.up (by simp)))⟩)
        · subst ev9
          refine W.eq (g2 := F0 m 12 ls [.int 0, .ref mo]) rfl ?_
          refine lv_if_eq (tgt := 19) hx hb dX5_asked_12 (by decide) (fun _ => ?_) (fun c9 => absurd (by decide) c9)
          refine lv_iconst (v := 1) hx hb dX5_asked_19 (by decide) ?_
          refine hp_put (fs1 := [.int 1, .ref dW, .ref dA, .ref dQ, .ref dM, .ref dS, .ref dL, .ref dR, .ref dT, .ref dZ, .ref dI, .ref dH, .ref dN, .ref dK, .ref dJ, .ref dU, .ref dO, .int 0, .int 0, .ref dF, .ref dP, .ref dE, .ref dX, .ref dY, .int 0, .int 0, .ref dG]) (ty := .int) B0 hw hS 5 rfl in_X5 tyX5 tyX5_ok nmX5 k_mo 0 (by decide) qF_X5_77 rfl (by decide +kernel) rfl rfl (Nat.le_of_ble_eq_true rfl) rfl dX5_asked_20 (fun H locs f9 ef9 hw hS => ?_)
          have h10 : f9 mo = some (.inr (5, [.int 1, .ref dW, .ref dA, .ref dQ, .ref dM, .ref dS, .ref dL, .ref dR, .ref dT, .ref dZ, .ref dI, .ref dH, .ref dN, .ref dK, .ref dJ, .ref dU, .ref dO, .int 0, .int 0, .ref dF, .ref dP, .ref dE, .ref dX, .ref dY, .int 0, .int 0, .ref dG])) := by rw [ef9, va_up_self]
          refine lv_aload_n hx hb dX5_asked_23 rfl (lv_at hl9 0 rfl) ?_
          refine hp_get B0 hw 5 rfl in_X5 h10 0 (by decide) qF_X5_77 rfl dX5_asked_24 ?_
          refine lv_if_le (tgt := 34) hx hb dX5_asked_27 (by decide) (fun c9 => absurd c9 (by decide)) (fun _ => ?_)
          refine lv_iconst (v := 0) hx hb dX5_asked_30 (by decide) ?_
          refine lv_goto (tgt := 45) hx hb dX5_asked_31 (by decide) ?_
          exact hp_iret (v := 0) B0 hw hS hr ⟨Nat.le_of_ble_eq_true rfl, Nat.le_of_ble_eq_true rfl⟩ dX5_asked_45 (⟨⟨_, rfl, fun h9 => absurd (h9.symm.trans (spc_1 (fun h9 => b4 h9.2))) (by decide)⟩, ⟨_, (by rw [show spc (sE i ∧ sO o) True = 1 from (spc_1 (fun h9 => b4 h9.2))]; exact h10)⟩, (show hKeep [mo] f f9 from (by rw [ef9]; exact hKeep.up (by simp)))⟩)
    · subst ev9
      refine W.eq (g2 := F0 m 5 ls [.int 0, .ref mo]) rfl ?_
      refine lv_if_eq (tgt := 19) hx hb dX5_asked_5 (by decide) (fun _ => ?_) (fun c9 => absurd (by decide) c9)
      refine lv_iconst (v := 1) hx hb dX5_asked_19 (by decide) ?_
      refine hp_put (fs1 := [.int 1, .ref dW, .ref dA, .ref dQ, .ref dM, .ref dS, .ref dL, .ref dR, .ref dT, .ref dZ, .ref dI, .ref dH, .ref dN, .ref dK, .ref dJ, .ref dU, .ref dO, .int 0, .int 0, .ref dF, .ref dP, .ref dE, .ref dX, .ref dY, .int 0, .int 0, .ref dG]) (ty := .int) B0 hw hS 5 rfl in_X5 tyX5 tyX5_ok nmX5 k_mo 0 (by decide) qF_X5_77 rfl (by decide +kernel) rfl rfl (Nat.le_of_ble_eq_true rfl) rfl dX5_asked_20 (fun H locs f11 ef11 hw hS => ?_)
      have h12 : f11 mo = some (.inr (5, [.int 1, .ref dW, .ref dA, .ref dQ, .ref dM, .ref dS, .ref dL, .ref dR, .ref dT, .ref dZ, .ref dI, .ref dH, .ref dN, .ref dK, .ref dJ, .ref dU, .ref dO, .int 0, .int 0, .ref dF, .ref dP, .ref dE, .ref dX, .ref dY, .int 0, .int 0, .ref dG])) := by rw [ef11, va_up_self]
      refine lv_aload_n hx hb dX5_asked_23 rfl (lv_at hl9 0 rfl) ?_
      refine hp_get B0 hw 5 rfl in_X5 h12 0 (by decide) qF_X5_77 rfl dX5_asked_24 ?_
      refine lv_if_le (tgt := 34) hx hb dX5_asked_27 (by decide) (fun c9 => absurd c9 (by decide)) (fun _ => ?_)
      refine lv_iconst (v := 0) hx hb dX5_asked_30 (by decide) ?_
      refine lv_goto (tgt := 45) hx hb dX5_asked_31 (by decide) ?_
      exact hp_iret (v := 0) B0 hw hS hr ⟨Nat.le_of_ble_eq_true rfl, Nat.le_of_ble_eq_true rfl⟩ dX5_asked_45 (⟨⟨_, rfl, fun h9 => absurd (h9.symm.trans (spc_1 (fun h9 => b2 h9.1))) (by decide)⟩, ⟨_, (by rw [show spc (sE i ∧ sO o) True = 1 from (spc_1 (fun h9 => b2 h9.1))]; exact h12)⟩, (show hKeep [mo] f f11 from (by rw [ef11]; exact hKeep.up (by simp)))⟩)

set_option maxHeartbeats 4000000 in
set_option maxRecDepth 100000 in
theorem c_X5_place0 {l : Launch} (hl : l.stackTraces = false) (G : hG) (f : hM)  : CT l yX5_place (.code yX5_place cX5_place 3 (some .int)) 0 0 0 0 G [.int 0] f (fun v f1 => v = some (.int 1) ∧ f1 = f) (fun E f1 => False) := by
  refine hp_start hl (own := RX5) (by decide) rfl (Nat.le_of_ble_eq_true rfl) ?_
  intro p e s m args below meth c B0 hr hnm hout hw hS ls hl9
  have hx := B0.1
  have hb := B0.2.1
  have hl9 : lv_has ls 3 [(0, .int 0)] := hl9
  refine lv_iconst (v := 1) hx hb dX5_place_0 (by decide) ?_
  refine lv_istore_n (lv' := [(1, .int 1), (0, .int 0)]) hx hb dX5_place_1 rfl hl9 (by decide) rfl (fun ls hl9 => ?_)
  refine lv_iconst (v := 0) hx hb dX5_place_2 (by decide) ?_
  refine lv_istore_n (lv' := [(2, .int 0), (1, .int 1), (0, .int 0)]) hx hb dX5_place_3 rfl hl9 (by decide) rfl (fun ls hl9 => ?_)
  refine lv_iload_n hx hb dX5_place_4 rfl (lv_at hl9 0 rfl) ?_
  refine lv_iload_n hx hb dX5_place_5 rfl (lv_at hl9 2 rfl) ?_
  refine lv_icmp_ge (tgt := 20) hx hb dX5_place_6 (by decide) (fun _ => ?_) (fun c9 => absurd (by decide) c9)
  refine lv_iload_n hx hb dX5_place_20 rfl (lv_at hl9 1 rfl) ?_
  exact hp_iret (v := 1) B0 hw hS hr ⟨Nat.le_of_ble_eq_true rfl, Nat.le_of_ble_eq_true rfl⟩ dX5_place_21 (⟨rfl, rfl⟩)

set_option maxHeartbeats 4000000 in
set_option maxRecDepth 100000 in
theorem c_X5_place1 {l : Launch} (hl : l.stackTraces = false) (G : hG) (f : hM)  : CT l yX5_place (.code yX5_place cX5_place 3 (some .int)) 0 0 0 0 G [.int 1] f (fun v f1 => v = some (.int 11) ∧ f1 = f) (fun E f1 => False) := by
  refine hp_start hl (own := RX5) (by decide) rfl (Nat.le_of_ble_eq_true rfl) ?_
  intro p e s m args below meth c B0 hr hnm hout hw hS ls hl9
  have hx := B0.1
  have hb := B0.2.1
  have hl9 : lv_has ls 3 [(0, .int 1)] := hl9
  refine lv_iconst (v := 1) hx hb dX5_place_0 (by decide) ?_
  refine lv_istore_n (lv' := [(1, .int 1), (0, .int 1)]) hx hb dX5_place_1 rfl hl9 (by decide) rfl (fun ls hl9 => ?_)
  refine lv_iconst (v := 0) hx hb dX5_place_2 (by decide) ?_
  refine lv_istore_n (lv' := [(2, .int 0), (1, .int 1), (0, .int 1)]) hx hb dX5_place_3 rfl hl9 (by decide) rfl (fun ls hl9 => ?_)
  refine lv_iload_n hx hb dX5_place_4 rfl (lv_at hl9 0 rfl) ?_
  refine lv_iload_n hx hb dX5_place_5 rfl (lv_at hl9 2 rfl) ?_
  refine lv_icmp_ge (tgt := 20) hx hb dX5_place_6 (by decide) (fun c9 => absurd c9 (by decide)) (fun _ => ?_)
  refine lv_iload_n hx hb dX5_place_9 rfl (lv_at hl9 1 rfl) ?_
  refine lv_bipush (v := 11) hx hb dX5_place_10 (by decide) ?_
  refine lv_imul hx hb dX5_place_12 ?_
  refine hp_c (v := 11) (by decide) ?_
  refine lv_istore_n (lv' := [(1, .int 11), (2, .int 0), (0, .int 1)]) hx hb dX5_place_13 rfl hl9 (by decide) rfl (fun ls hl9 => ?_)
  refine lv_iinc (v := 1) (lv' := [(2, .int 1), (1, .int 11), (0, .int 1)]) hx hb dX5_place_14 hl9 (k := 1) rfl (by decide) (by decide) rfl (fun ls hl9 => ?_)
  refine lv_goto (tgt := 4) hx hb dX5_place_17 (by decide) ?_
  refine lv_iload_n hx hb dX5_place_4 rfl (lv_at hl9 0 rfl) ?_
  refine lv_iload_n hx hb dX5_place_5 rfl (lv_at hl9 2 rfl) ?_
  refine lv_icmp_ge (tgt := 20) hx hb dX5_place_6 (by decide) (fun _ => ?_) (fun c9 => absurd (by decide) c9)
  refine lv_iload_n hx hb dX5_place_20 rfl (lv_at hl9 1 rfl) ?_
  exact hp_iret (v := 11) B0 hw hS hr ⟨Nat.le_of_ble_eq_true rfl, Nat.le_of_ble_eq_true rfl⟩ dX5_place_21 (⟨rfl, rfl⟩)

set_option maxHeartbeats 4000000 in
set_option maxRecDepth 100000 in
theorem c_X5_place2 {l : Launch} (hl : l.stackTraces = false) (G : hG) (f : hM)  : CT l yX5_place (.code yX5_place cX5_place 3 (some .int)) 0 0 0 0 G [.int 2] f (fun v f1 => v = some (.int 121) ∧ f1 = f) (fun E f1 => False) := by
  refine hp_start hl (own := RX5) (by decide) rfl (Nat.le_of_ble_eq_true rfl) ?_
  intro p e s m args below meth c B0 hr hnm hout hw hS ls hl9
  have hx := B0.1
  have hb := B0.2.1
  have hl9 : lv_has ls 3 [(0, .int 2)] := hl9
  refine lv_iconst (v := 1) hx hb dX5_place_0 (by decide) ?_
  refine lv_istore_n (lv' := [(1, .int 1), (0, .int 2)]) hx hb dX5_place_1 rfl hl9 (by decide) rfl (fun ls hl9 => ?_)
  refine lv_iconst (v := 0) hx hb dX5_place_2 (by decide) ?_
  refine lv_istore_n (lv' := [(2, .int 0), (1, .int 1), (0, .int 2)]) hx hb dX5_place_3 rfl hl9 (by decide) rfl (fun ls hl9 => ?_)
  refine lv_iload_n hx hb dX5_place_4 rfl (lv_at hl9 0 rfl) ?_
  refine lv_iload_n hx hb dX5_place_5 rfl (lv_at hl9 2 rfl) ?_
  refine lv_icmp_ge (tgt := 20) hx hb dX5_place_6 (by decide) (fun c9 => absurd c9 (by decide)) (fun _ => ?_)
  refine lv_iload_n hx hb dX5_place_9 rfl (lv_at hl9 1 rfl) ?_
  refine lv_bipush (v := 11) hx hb dX5_place_10 (by decide) ?_
  refine lv_imul hx hb dX5_place_12 ?_
  refine hp_c (v := 11) (by decide) ?_
  refine lv_istore_n (lv' := [(1, .int 11), (2, .int 0), (0, .int 2)]) hx hb dX5_place_13 rfl hl9 (by decide) rfl (fun ls hl9 => ?_)
  refine lv_iinc (v := 1) (lv' := [(2, .int 1), (1, .int 11), (0, .int 2)]) hx hb dX5_place_14 hl9 (k := 1) rfl (by decide) (by decide) rfl (fun ls hl9 => ?_)
  refine lv_goto (tgt := 4) hx hb dX5_place_17 (by decide) ?_
  refine lv_iload_n hx hb dX5_place_4 rfl (lv_at hl9 0 rfl) ?_
  refine lv_iload_n hx hb dX5_place_5 rfl (lv_at hl9 2 rfl) ?_
  refine lv_icmp_ge (tgt := 20) hx hb dX5_place_6 (by decide) (fun c9 => absurd c9 (by decide)) (fun _ => ?_)
  refine lv_iload_n hx hb dX5_place_9 rfl (lv_at hl9 1 rfl) ?_
  refine lv_bipush (v := 11) hx hb dX5_place_10 (by decide) ?_
  refine lv_imul hx hb dX5_place_12 ?_
  refine hp_c (v := 121) (by decide) ?_
  refine lv_istore_n (lv' := [(1, .int 121), (2, .int 1), (0, .int 2)]) hx hb dX5_place_13 rfl hl9 (by decide) rfl (fun ls hl9 => ?_)
  refine lv_iinc (v := 2) (lv' := [(2, .int 2), (1, .int 121), (0, .int 2)]) hx hb dX5_place_14 hl9 (k := 1) rfl (by decide) (by decide) rfl (fun ls hl9 => ?_)
  refine lv_goto (tgt := 4) hx hb dX5_place_17 (by decide) ?_
  refine lv_iload_n hx hb dX5_place_4 rfl (lv_at hl9 0 rfl) ?_
  refine lv_iload_n hx hb dX5_place_5 rfl (lv_at hl9 2 rfl) ?_
  refine lv_icmp_ge (tgt := 20) hx hb dX5_place_6 (by decide) (fun _ => ?_) (fun c9 => absurd (by decide) c9)
  refine lv_iload_n hx hb dX5_place_20 rfl (lv_at hl9 1 rfl) ?_
  exact hp_iret (v := 121) B0 hw hS hr ⟨Nat.le_of_ble_eq_true rfl, Nat.le_of_ble_eq_true rfl⟩ dX5_place_21 (⟨rfl, rfl⟩)

set_option maxHeartbeats 4000000 in
set_option maxRecDepth 100000 in
theorem c_X5_place3 {l : Launch} (hl : l.stackTraces = false) (G : hG) (f : hM)  : CT l yX5_place (.code yX5_place cX5_place 3 (some .int)) 0 0 0 0 G [.int 3] f (fun v f1 => v = some (.int 1331) ∧ f1 = f) (fun E f1 => False) := by
  refine hp_start hl (own := RX5) (by decide) rfl (Nat.le_of_ble_eq_true rfl) ?_
  intro p e s m args below meth c B0 hr hnm hout hw hS ls hl9
  have hx := B0.1
  have hb := B0.2.1
  have hl9 : lv_has ls 3 [(0, .int 3)] := hl9
  refine lv_iconst (v := 1) hx hb dX5_place_0 (by decide) ?_
  refine lv_istore_n (lv' := [(1, .int 1), (0, .int 3)]) hx hb dX5_place_1 rfl hl9 (by decide) rfl (fun ls hl9 => ?_)
  refine lv_iconst (v := 0) hx hb dX5_place_2 (by decide) ?_
  refine lv_istore_n (lv' := [(2, .int 0), (1, .int 1), (0, .int 3)]) hx hb dX5_place_3 rfl hl9 (by decide) rfl (fun ls hl9 => ?_)
  refine lv_iload_n hx hb dX5_place_4 rfl (lv_at hl9 0 rfl) ?_
  refine lv_iload_n hx hb dX5_place_5 rfl (lv_at hl9 2 rfl) ?_
  refine lv_icmp_ge (tgt := 20) hx hb dX5_place_6 (by decide) (fun c9 => absurd c9 (by decide)) (fun _ => ?_)
  refine lv_iload_n hx hb dX5_place_9 rfl (lv_at hl9 1 rfl) ?_
  refine lv_bipush (v := 11) hx hb dX5_place_10 (by decide) ?_
  refine lv_imul hx hb dX5_place_12 ?_
  refine hp_c (v := 11) (by decide) ?_
  refine lv_istore_n (lv' := [(1, .int 11), (2, .int 0), (0, .int 3)]) hx hb dX5_place_13 rfl hl9 (by decide) rfl (fun ls hl9 => ?_)
  refine lv_iinc (v := 1) (lv' := [(2, .int 1), (1, .int 11), (0, .int 3)]) hx hb dX5_place_14 hl9 (k := 1) rfl (by decide) (by decide) rfl (fun ls hl9 => ?_)
  refine lv_goto (tgt := 4) hx hb dX5_place_17 (by decide) ?_
  refine lv_iload_n hx hb dX5_place_4 rfl (lv_at hl9 0 rfl) ?_
  refine lv_iload_n hx hb dX5_place_5 rfl (lv_at hl9 2 rfl) ?_
  refine lv_icmp_ge (tgt := 20) hx hb dX5_place_6 (by decide) (fun c9 => absurd c9 (by decide)) (fun _ => ?_)
  refine lv_iload_n hx hb dX5_place_9 rfl (lv_at hl9 1 rfl) ?_
  refine lv_bipush (v := 11) hx hb dX5_place_10 (by decide) ?_
  refine lv_imul hx hb dX5_place_12 ?_
  refine hp_c (v := 121) (by decide) ?_
  refine lv_istore_n (lv' := [(1, .int 121), (2, .int 1), (0, .int 3)]) hx hb dX5_place_13 rfl hl9 (by decide) rfl (fun ls hl9 => ?_)
  refine lv_iinc (v := 2) (lv' := [(2, .int 2), (1, .int 121), (0, .int 3)]) hx hb dX5_place_14 hl9 (k := 1) rfl (by decide) (by decide) rfl (fun ls hl9 => ?_)
  refine lv_goto (tgt := 4) hx hb dX5_place_17 (by decide) ?_
  refine lv_iload_n hx hb dX5_place_4 rfl (lv_at hl9 0 rfl) ?_
  refine lv_iload_n hx hb dX5_place_5 rfl (lv_at hl9 2 rfl) ?_
  refine lv_icmp_ge (tgt := 20) hx hb dX5_place_6 (by decide) (fun c9 => absurd c9 (by decide)) (fun _ => ?_)
  refine lv_iload_n hx hb dX5_place_9 rfl (lv_at hl9 1 rfl) ?_
  refine lv_bipush (v := 11) hx hb dX5_place_10 (by decide) ?_
  refine lv_imul hx hb dX5_place_12 ?_
  refine hp_c (v := 1331) (by decide) ?_
  refine lv_istore_n (lv' := [(1, .int 1331), (2, .int 2), (0, .int 3)]) hx hb dX5_place_13 rfl hl9 (by decide) rfl (fun ls hl9 => ?_)
  refine lv_iinc (v := 3) (lv' := [(2, .int 3), (1, .int 1331), (0, .int 3)]) hx hb dX5_place_14 hl9 (k := 1) rfl (by decide) (by decide) rfl (fun ls hl9 => ?_)
  refine lv_goto (tgt := 4) hx hb dX5_place_17 (by decide) ?_
  refine lv_iload_n hx hb dX5_place_4 rfl (lv_at hl9 0 rfl) ?_
  refine lv_iload_n hx hb dX5_place_5 rfl (lv_at hl9 2 rfl) ?_
  refine lv_icmp_ge (tgt := 20) hx hb dX5_place_6 (by decide) (fun _ => ?_) (fun c9 => absurd (by decide) c9)
  refine lv_iload_n hx hb dX5_place_20 rfl (lv_at hl9 1 rfl) ?_
  exact hp_iret (v := 1331) B0 hw hS hr ⟨Nat.le_of_ble_eq_true rfl, Nat.le_of_ble_eq_true rfl⟩ dX5_place_21 (⟨rfl, rfl⟩)

set_option maxHeartbeats 4000000 in
set_option maxRecDepth 100000 in
theorem c_X5_place4 {l : Launch} (hl : l.stackTraces = false) (G : hG) (f : hM)  : CT l yX5_place (.code yX5_place cX5_place 3 (some .int)) 0 0 0 0 G [.int 4] f (fun v f1 => v = some (.int 14641) ∧ f1 = f) (fun E f1 => False) := by
  refine hp_start hl (own := RX5) (by decide) rfl (Nat.le_of_ble_eq_true rfl) ?_
  intro p e s m args below meth c B0 hr hnm hout hw hS ls hl9
  have hx := B0.1
  have hb := B0.2.1
  have hl9 : lv_has ls 3 [(0, .int 4)] := hl9
  refine lv_iconst (v := 1) hx hb dX5_place_0 (by decide) ?_
  refine lv_istore_n (lv' := [(1, .int 1), (0, .int 4)]) hx hb dX5_place_1 rfl hl9 (by decide) rfl (fun ls hl9 => ?_)
  refine lv_iconst (v := 0) hx hb dX5_place_2 (by decide) ?_
  refine lv_istore_n (lv' := [(2, .int 0), (1, .int 1), (0, .int 4)]) hx hb dX5_place_3 rfl hl9 (by decide) rfl (fun ls hl9 => ?_)
  refine lv_iload_n hx hb dX5_place_4 rfl (lv_at hl9 0 rfl) ?_
  refine lv_iload_n hx hb dX5_place_5 rfl (lv_at hl9 2 rfl) ?_
  refine lv_icmp_ge (tgt := 20) hx hb dX5_place_6 (by decide) (fun c9 => absurd c9 (by decide)) (fun _ => ?_)
  refine lv_iload_n hx hb dX5_place_9 rfl (lv_at hl9 1 rfl) ?_
  refine lv_bipush (v := 11) hx hb dX5_place_10 (by decide) ?_
  refine lv_imul hx hb dX5_place_12 ?_
  refine hp_c (v := 11) (by decide) ?_
  refine lv_istore_n (lv' := [(1, .int 11), (2, .int 0), (0, .int 4)]) hx hb dX5_place_13 rfl hl9 (by decide) rfl (fun ls hl9 => ?_)
  refine lv_iinc (v := 1) (lv' := [(2, .int 1), (1, .int 11), (0, .int 4)]) hx hb dX5_place_14 hl9 (k := 1) rfl (by decide) (by decide) rfl (fun ls hl9 => ?_)
  refine lv_goto (tgt := 4) hx hb dX5_place_17 (by decide) ?_
  refine lv_iload_n hx hb dX5_place_4 rfl (lv_at hl9 0 rfl) ?_
  refine lv_iload_n hx hb dX5_place_5 rfl (lv_at hl9 2 rfl) ?_
  refine lv_icmp_ge (tgt := 20) hx hb dX5_place_6 (by decide) (fun c9 => absurd c9 (by decide)) (fun _ => ?_)
  refine lv_iload_n hx hb dX5_place_9 rfl (lv_at hl9 1 rfl) ?_
  refine lv_bipush (v := 11) hx hb dX5_place_10 (by decide) ?_
  refine lv_imul hx hb dX5_place_12 ?_
  refine hp_c (v := 121) (by decide) ?_
  refine lv_istore_n (lv' := [(1, .int 121), (2, .int 1), (0, .int 4)]) hx hb dX5_place_13 rfl hl9 (by decide) rfl (fun ls hl9 => ?_)
  refine lv_iinc (v := 2) (lv' := [(2, .int 2), (1, .int 121), (0, .int 4)]) hx hb dX5_place_14 hl9 (k := 1) rfl (by decide) (by decide) rfl (fun ls hl9 => ?_)
  refine lv_goto (tgt := 4) hx hb dX5_place_17 (by decide) ?_
  refine lv_iload_n hx hb dX5_place_4 rfl (lv_at hl9 0 rfl) ?_
  refine lv_iload_n hx hb dX5_place_5 rfl (lv_at hl9 2 rfl) ?_
  refine lv_icmp_ge (tgt := 20) hx hb dX5_place_6 (by decide) (fun c9 => absurd c9 (by decide)) (fun _ => ?_)
  refine lv_iload_n hx hb dX5_place_9 rfl (lv_at hl9 1 rfl) ?_
  refine lv_bipush (v := 11) hx hb dX5_place_10 (by decide) ?_
  refine lv_imul hx hb dX5_place_12 ?_
  refine hp_c (v := 1331) (by decide) ?_
  refine lv_istore_n (lv' := [(1, .int 1331), (2, .int 2), (0, .int 4)]) hx hb dX5_place_13 rfl hl9 (by decide) rfl (fun ls hl9 => ?_)
  refine lv_iinc (v := 3) (lv' := [(2, .int 3), (1, .int 1331), (0, .int 4)]) hx hb dX5_place_14 hl9 (k := 1) rfl (by decide) (by decide) rfl (fun ls hl9 => ?_)
  refine lv_goto (tgt := 4) hx hb dX5_place_17 (by decide) ?_
  refine lv_iload_n hx hb dX5_place_4 rfl (lv_at hl9 0 rfl) ?_
  refine lv_iload_n hx hb dX5_place_5 rfl (lv_at hl9 2 rfl) ?_
  refine lv_icmp_ge (tgt := 20) hx hb dX5_place_6 (by decide) (fun c9 => absurd c9 (by decide)) (fun _ => ?_)
  refine lv_iload_n hx hb dX5_place_9 rfl (lv_at hl9 1 rfl) ?_
  refine lv_bipush (v := 11) hx hb dX5_place_10 (by decide) ?_
  refine lv_imul hx hb dX5_place_12 ?_
  refine hp_c (v := 14641) (by decide) ?_
  refine lv_istore_n (lv' := [(1, .int 14641), (2, .int 3), (0, .int 4)]) hx hb dX5_place_13 rfl hl9 (by decide) rfl (fun ls hl9 => ?_)
  refine lv_iinc (v := 4) (lv' := [(2, .int 4), (1, .int 14641), (0, .int 4)]) hx hb dX5_place_14 hl9 (k := 1) rfl (by decide) (by decide) rfl (fun ls hl9 => ?_)
  refine lv_goto (tgt := 4) hx hb dX5_place_17 (by decide) ?_
  refine lv_iload_n hx hb dX5_place_4 rfl (lv_at hl9 0 rfl) ?_
  refine lv_iload_n hx hb dX5_place_5 rfl (lv_at hl9 2 rfl) ?_
  refine lv_icmp_ge (tgt := 20) hx hb dX5_place_6 (by decide) (fun _ => ?_) (fun c9 => absurd (by decide) c9)
  refine lv_iload_n hx hb dX5_place_20 rfl (lv_at hl9 1 rfl) ?_
  exact hp_iret (v := 14641) B0 hw hS hr ⟨Nat.le_of_ble_eq_true rfl, Nat.le_of_ble_eq_true rfl⟩ dX5_place_21 (⟨rfl, rfl⟩)

set_option maxHeartbeats 4000000 in
set_option maxRecDepth 100000 in
theorem c_X5_place5 {l : Launch} (hl : l.stackTraces = false) (G : hG) (f : hM)  : CT l yX5_place (.code yX5_place cX5_place 3 (some .int)) 0 0 0 0 G [.int 5] f (fun v f1 => v = some (.int 161051) ∧ f1 = f) (fun E f1 => False) := by
  refine hp_start hl (own := RX5) (by decide) rfl (Nat.le_of_ble_eq_true rfl) ?_
  intro p e s m args below meth c B0 hr hnm hout hw hS ls hl9
  have hx := B0.1
  have hb := B0.2.1
  have hl9 : lv_has ls 3 [(0, .int 5)] := hl9
  refine lv_iconst (v := 1) hx hb dX5_place_0 (by decide) ?_
  refine lv_istore_n (lv' := [(1, .int 1), (0, .int 5)]) hx hb dX5_place_1 rfl hl9 (by decide) rfl (fun ls hl9 => ?_)
  refine lv_iconst (v := 0) hx hb dX5_place_2 (by decide) ?_
  refine lv_istore_n (lv' := [(2, .int 0), (1, .int 1), (0, .int 5)]) hx hb dX5_place_3 rfl hl9 (by decide) rfl (fun ls hl9 => ?_)
  refine lv_iload_n hx hb dX5_place_4 rfl (lv_at hl9 0 rfl) ?_
  refine lv_iload_n hx hb dX5_place_5 rfl (lv_at hl9 2 rfl) ?_
  refine lv_icmp_ge (tgt := 20) hx hb dX5_place_6 (by decide) (fun c9 => absurd c9 (by decide)) (fun _ => ?_)
  refine lv_iload_n hx hb dX5_place_9 rfl (lv_at hl9 1 rfl) ?_
  refine lv_bipush (v := 11) hx hb dX5_place_10 (by decide) ?_
  refine lv_imul hx hb dX5_place_12 ?_
  refine hp_c (v := 11) (by decide) ?_
  refine lv_istore_n (lv' := [(1, .int 11), (2, .int 0), (0, .int 5)]) hx hb dX5_place_13 rfl hl9 (by decide) rfl (fun ls hl9 => ?_)
  refine lv_iinc (v := 1) (lv' := [(2, .int 1), (1, .int 11), (0, .int 5)]) hx hb dX5_place_14 hl9 (k := 1) rfl (by decide) (by decide) rfl (fun ls hl9 => ?_)
  refine lv_goto (tgt := 4) hx hb dX5_place_17 (by decide) ?_
  refine lv_iload_n hx hb dX5_place_4 rfl (lv_at hl9 0 rfl) ?_
  refine lv_iload_n hx hb dX5_place_5 rfl (lv_at hl9 2 rfl) ?_
  refine lv_icmp_ge (tgt := 20) hx hb dX5_place_6 (by decide) (fun c9 => absurd c9 (by decide)) (fun _ => ?_)
  refine lv_iload_n hx hb dX5_place_9 rfl (lv_at hl9 1 rfl) ?_
  refine lv_bipush (v := 11) hx hb dX5_place_10 (by decide) ?_
  refine lv_imul hx hb dX5_place_12 ?_
  refine hp_c (v := 121) (by decide) ?_
  refine lv_istore_n (lv' := [(1, .int 121), (2, .int 1), (0, .int 5)]) hx hb dX5_place_13 rfl hl9 (by decide) rfl (fun ls hl9 => ?_)
  refine lv_iinc (v := 2) (lv' := [(2, .int 2), (1, .int 121), (0, .int 5)]) hx hb dX5_place_14 hl9 (k := 1) rfl (by decide) (by decide) rfl (fun ls hl9 => ?_)
  refine lv_goto (tgt := 4) hx hb dX5_place_17 (by decide) ?_
  refine lv_iload_n hx hb dX5_place_4 rfl (lv_at hl9 0 rfl) ?_
  refine lv_iload_n hx hb dX5_place_5 rfl (lv_at hl9 2 rfl) ?_
  refine lv_icmp_ge (tgt := 20) hx hb dX5_place_6 (by decide) (fun c9 => absurd c9 (by decide)) (fun _ => ?_)
  refine lv_iload_n hx hb dX5_place_9 rfl (lv_at hl9 1 rfl) ?_
  refine lv_bipush (v := 11) hx hb dX5_place_10 (by decide) ?_
  refine lv_imul hx hb dX5_place_12 ?_
  refine hp_c (v := 1331) (by decide) ?_
  refine lv_istore_n (lv' := [(1, .int 1331), (2, .int 2), (0, .int 5)]) hx hb dX5_place_13 rfl hl9 (by decide) rfl (fun ls hl9 => ?_)
  refine lv_iinc (v := 3) (lv' := [(2, .int 3), (1, .int 1331), (0, .int 5)]) hx hb dX5_place_14 hl9 (k := 1) rfl (by decide) (by decide) rfl (fun ls hl9 => ?_)
  refine lv_goto (tgt := 4) hx hb dX5_place_17 (by decide) ?_
  refine lv_iload_n hx hb dX5_place_4 rfl (lv_at hl9 0 rfl) ?_
  refine lv_iload_n hx hb dX5_place_5 rfl (lv_at hl9 2 rfl) ?_
  refine lv_icmp_ge (tgt := 20) hx hb dX5_place_6 (by decide) (fun c9 => absurd c9 (by decide)) (fun _ => ?_)
  refine lv_iload_n hx hb dX5_place_9 rfl (lv_at hl9 1 rfl) ?_
  refine lv_bipush (v := 11) hx hb dX5_place_10 (by decide) ?_
  refine lv_imul hx hb dX5_place_12 ?_
  refine hp_c (v := 14641) (by decide) ?_
  refine lv_istore_n (lv' := [(1, .int 14641), (2, .int 3), (0, .int 5)]) hx hb dX5_place_13 rfl hl9 (by decide) rfl (fun ls hl9 => ?_)
  refine lv_iinc (v := 4) (lv' := [(2, .int 4), (1, .int 14641), (0, .int 5)]) hx hb dX5_place_14 hl9 (k := 1) rfl (by decide) (by decide) rfl (fun ls hl9 => ?_)
  refine lv_goto (tgt := 4) hx hb dX5_place_17 (by decide) ?_
  refine lv_iload_n hx hb dX5_place_4 rfl (lv_at hl9 0 rfl) ?_
  refine lv_iload_n hx hb dX5_place_5 rfl (lv_at hl9 2 rfl) ?_
  refine lv_icmp_ge (tgt := 20) hx hb dX5_place_6 (by decide) (fun c9 => absurd c9 (by decide)) (fun _ => ?_)
  refine lv_iload_n hx hb dX5_place_9 rfl (lv_at hl9 1 rfl) ?_
  refine lv_bipush (v := 11) hx hb dX5_place_10 (by decide) ?_
  refine lv_imul hx hb dX5_place_12 ?_
  refine hp_c (v := 161051) (by decide) ?_
  refine lv_istore_n (lv' := [(1, .int 161051), (2, .int 4), (0, .int 5)]) hx hb dX5_place_13 rfl hl9 (by decide) rfl (fun ls hl9 => ?_)
  refine lv_iinc (v := 5) (lv' := [(2, .int 5), (1, .int 161051), (0, .int 5)]) hx hb dX5_place_14 hl9 (k := 1) rfl (by decide) (by decide) rfl (fun ls hl9 => ?_)
  refine lv_goto (tgt := 4) hx hb dX5_place_17 (by decide) ?_
  refine lv_iload_n hx hb dX5_place_4 rfl (lv_at hl9 0 rfl) ?_
  refine lv_iload_n hx hb dX5_place_5 rfl (lv_at hl9 2 rfl) ?_
  refine lv_icmp_ge (tgt := 20) hx hb dX5_place_6 (by decide) (fun _ => ?_) (fun c9 => absurd (by decide) c9)
  refine lv_iload_n hx hb dX5_place_20 rfl (lv_at hl9 1 rfl) ?_
  exact hp_iret (v := 161051) B0 hw hS hr ⟨Nat.le_of_ble_eq_true rfl, Nat.le_of_ble_eq_true rfl⟩ dX5_place_21 (⟨rfl, rfl⟩)

set_option maxHeartbeats 4000000 in
set_option maxRecDepth 100000 in
theorem c_X5_sends0 {l : Launch} (hl : l.stackTraces = false) (G : hG) (f : hM) (mo dW dA dQ dM dS dL dR dT dZ dI dH dN dK dJ dU dO dF dP dE dX dY dG : Nat) (th : Int32) (k_mo : f mo = some (.inr (5, [.int th, .ref dW, .ref dA, .ref dQ, .ref dM, .ref dS, .ref dL, .ref dR, .ref dT, .ref dZ, .ref dI, .ref dH, .ref dN, .ref dK, .ref dJ, .ref dU, .ref dO, .int 0, .int 0, .ref dF, .ref dP, .ref dE, .ref dX, .ref dY, .int 0, .int 0, .ref dG]))) (k_dM : f dM = some (.inl (cI G, 2, .inl (mA2 1 2)))) (k_dH : f dH = some (.inl (cI G, 2, .inl (fun _ => 0)))) (k_dN : f dN = some (.inl (cI G, 2, .inl (fun _ => 0)))) (k_dK : f dK = some (.inl (cI G, 2048, .inl (fun _ => 0)))) (k_dJ : f dJ = some (.inl (cI G, 2048, .inl (fun _ => 0)))) (k_dU : f dU = some (.inl (cI G, 2048, .inl (fun _ => 0)))) (k_dO : f dO = some (.inl (cI G, 2048, .inl (fun _ => 0)))) (nd_dH_dJ : dH ≠ dJ) (nd_dH_dK : dH ≠ dK) (nd_dH_dM : dH ≠ dM) (nd_dH_dN : dH ≠ dN) (nd_dH_dO : dH ≠ dO) (nd_dH_dU : dH ≠ dU) (nd_dJ_dK : dJ ≠ dK) (nd_dJ_dM : dJ ≠ dM) (nd_dJ_dN : dJ ≠ dN) (nd_dJ_dO : dJ ≠ dO) (nd_dJ_dU : dJ ≠ dU) (nd_dK_dM : dK ≠ dM) (nd_dK_dN : dK ≠ dN) (nd_dK_dO : dK ≠ dO) (nd_dK_dU : dK ≠ dU) (nd_dM_dN : dM ≠ dN) (nd_dM_dO : dM ≠ dO) (nd_dM_dU : dM ≠ dU) (nd_dN_dO : dN ≠ dO) (nd_dN_dU : dN ≠ dU) (nd_dO_dU : dO ≠ dU) : CT l yX5_sends (.code yX5_sends cX5_sends 6 none) 0 0 0 0 G [.ref mo, .int 0, .int 0, .int 0, .int 0] f (fun v f1 => v = none ∧ hKeep [dK, dJ, dU, dO, dN] f f1) (fun E f1 => False) := by
  refine hp_start hl (own := RX5) (by decide) rfl (Nat.le_of_ble_eq_true rfl) ?_
  intro p e s m args below meth c B0 hr hnm hout hw hS ls hl9
  have hx := B0.1
  have hb := B0.2.1
  have hl9 : lv_has ls 6 [(0, .ref mo), (1, .int 0), (2, .int 0), (3, .int 0), (4, .int 0)] := hl9
  refine lv_sipush (v := 1024) hx hb dX5_sends_0 (by decide) ?_
  refine lv_iload_n hx hb dX5_sends_3 rfl (lv_at hl9 1 rfl) ?_
  refine lv_imul hx hb dX5_sends_4 ?_
  refine hp_c (v := 0) (by decide) ?_
  refine lv_aload_n hx hb dX5_sends_5 rfl (lv_at hl9 0 rfl) ?_
  refine hp_get B0 hw 5 rfl in_X5 k_mo 11 (by decide) qF_X5_41 rfl dX5_sends_6 ?_
  refine lv_iload_n hx hb dX5_sends_9 rfl (lv_at hl9 1 rfl) ?_
  refine hp_iald B0 hw k_dH (by unfold vp_in; decide) dX5_sends_10 ?_
  refine hp_c (v := 0) (rfl) ?_
  refine lv_aload_n hx hb dX5_sends_11 rfl (lv_at hl9 0 rfl) ?_
  refine hp_get B0 hw 5 rfl in_X5 k_mo 12 (by decide) qF_X5_44 rfl dX5_sends_12 ?_
  refine lv_iload_n hx hb dX5_sends_15 rfl (lv_at hl9 1 rfl) ?_
  refine hp_iald B0 hw k_dN (by unfold vp_in; decide) dX5_sends_16 ?_
  refine hp_c (v := 0) (rfl) ?_
  refine lv_iadd hx hb dX5_sends_17 ?_
  refine hp_c (v := 0) (by decide) ?_
  refine lv_sipush (v := 1024) hx hb dX5_sends_18 (by decide) ?_
  refine lv_irem hx hb dX5_sends_21 (by decide) ?_
  refine hp_c (v := 0) (by decide) ?_
  refine lv_iadd hx hb dX5_sends_22 ?_
  refine hp_c (v := 0) (by decide) ?_
  refine lv_istore (lv' := [(5, .int 0), (0, .ref mo), (1, .int 0), (2, .int 0), (3, .int 0), (4, .int 0)]) hx hb dX5_sends_23 hl9 (by decide) rfl (fun ls hl9 => ?_)
  refine lv_aload_n hx hb dX5_sends_25 rfl (lv_at hl9 1 rfl) ?_
  refine hp_get B0 hw 5 rfl in_X5 k_mo 13 (by decide) qF_X5_47 rfl dX5_sends_26 ?_
  refine lv_iload hx hb dX5_sends_29 (lv_at hl9 0 rfl) ?_
  refine lv_iload_n hx hb dX5_sends_31 rfl (lv_at hl9 3 rfl) ?_
  refine hp_iast B0 hw hS k_dK (by unfold vp_in; decide) dX5_sends_32 (fun H locs f1 ef1 hw hS => ?_)
  have h2 : f1 dK = some (.inl (cI G, 2048, .inl (upd (fun _ => 0) (0 : Int32).toNatClampNeg 0))) := by rw [ef1, va_up_self]
  refine lv_aload_n hx hb dX5_sends_33 rfl (lv_at hl9 1 rfl) ?_
  have n4 : mo ≠ dK := hne k_mo k_dK (Nat.ne_of_beq_eq_false rfl)
  have h3 : f1 mo = some (.inr (5, [.int th, .ref dW, .ref dA, .ref dQ, .ref dM, .ref dS, .ref dL, .ref dR, .ref dT, .ref dZ, .ref dI, .ref dH, .ref dN, .ref dK, .ref dJ, .ref dU, .ref dO, .int 0, .int 0, .ref dF, .ref dP, .ref dE, .ref dX, .ref dY, .int 0, .int 0, .ref dG])) := by rw [ef1, va_up_ne _ _ n4]; exact k_mo
  refine hp_get B0 hw 5 rfl in_X5 h3 14 (by decide) qF_X5_50 rfl dX5_sends_34 ?_
  refine lv_iload hx hb dX5_sends_37 (lv_at hl9 0 rfl) ?_
  refine lv_iload_n hx hb dX5_sends_39 rfl (lv_at hl9 4 rfl) ?_
  have h5 : f1 dJ = some (.inl (cI G, 2048, .inl (fun _ => 0))) := by rw [ef1, va_up_ne _ _ nd_dJ_dK]; exact k_dJ
  refine hp_iast B0 hw hS h5 (by unfold vp_in; decide) dX5_sends_40 (fun H locs f6 ef6 hw hS => ?_)
  have h7 : f6 dJ = some (.inl (cI G, 2048, .inl (upd (fun _ => 0) (0 : Int32).toNatClampNeg 0))) := by rw [ef6, va_up_self]
  refine lv_aload_n hx hb dX5_sends_41 rfl (lv_at hl9 1 rfl) ?_
  have n9 : mo ≠ dJ := hne k_mo k_dJ (Nat.ne_of_beq_eq_false rfl)
  have h8 : f6 mo = some (.inr (5, [.int th, .ref dW, .ref dA, .ref dQ, .ref dM, .ref dS, .ref dL, .ref dR, .ref dT, .ref dZ, .ref dI, .ref dH, .ref dN, .ref dK, .ref dJ, .ref dU, .ref dO, .int 0, .int 0, .ref dF, .ref dP, .ref dE, .ref dX, .ref dY, .int 0, .int 0, .ref dG])) := by rw [ef6, va_up_ne _ _ n9]; exact h3
  refine hp_get B0 hw 5 rfl in_X5 h8 15 (by decide) qF_X5_53 rfl dX5_sends_42 ?_
  refine lv_iload hx hb dX5_sends_45 (lv_at hl9 0 rfl) ?_
  refine lv_aload_n hx hb dX5_sends_47 rfl (lv_at hl9 1 rfl) ?_
  refine hp_get B0 hw 5 rfl in_X5 h8 4 (by decide) qF_X5_19 rfl dX5_sends_48 ?_
  refine lv_iload_n hx hb dX5_sends_51 rfl (lv_at hl9 2 rfl) ?_
  have h10 : f1 dM = some (.inl (cI G, 2, .inl (mA2 1 2))) := by rw [ef1, va_up_ne _ _ (Ne.symm nd_dK_dM)]; exact k_dM
  have h11 : f6 dM = some (.inl (cI G, 2, .inl (mA2 1 2))) := by rw [ef6, va_up_ne _ _ (Ne.symm nd_dJ_dM)]; exact h10
  refine hp_iald B0 hw h11 (by unfold vp_in; decide) dX5_sends_52 ?_
  refine hp_c (v := 1) (rfl) ?_
  have h12 : f1 dU = some (.inl (cI G, 2048, .inl (fun _ => 0))) := by rw [ef1, va_up_ne _ _ (Ne.symm nd_dK_dU)]; exact k_dU
  have h13 : f6 dU = some (.inl (cI G, 2048, .inl (fun _ => 0))) := by rw [ef6, va_up_ne _ _ (Ne.symm nd_dJ_dU)]; exact h12
  refine hp_iast B0 hw hS h13 (by unfold vp_in; decide) dX5_sends_53 (fun H locs f14 ef14 hw hS => ?_)
  have h15 : f14 dU = some (.inl (cI G, 2048, .inl (upd (fun _ => 0) (0 : Int32).toNatClampNeg 1))) := by rw [ef14, va_up_self]
  refine lv_aload_n hx hb dX5_sends_54 rfl (lv_at hl9 1 rfl) ?_
  have n17 : mo ≠ dU := hne k_mo k_dU (Nat.ne_of_beq_eq_false rfl)
  have h16 : f14 mo = some (.inr (5, [.int th, .ref dW, .ref dA, .ref dQ, .ref dM, .ref dS, .ref dL, .ref dR, .ref dT, .ref dZ, .ref dI, .ref dH, .ref dN, .ref dK, .ref dJ, .ref dU, .ref dO, .int 0, .int 0, .ref dF, .ref dP, .ref dE, .ref dX, .ref dY, .int 0, .int 0, .ref dG])) := by rw [ef14, va_up_ne _ _ n17]; exact h8
  refine hp_get B0 hw 5 rfl in_X5 h16 16 (by decide) qF_X5_56 rfl dX5_sends_55 ?_
  refine lv_iload hx hb dX5_sends_58 (lv_at hl9 0 rfl) ?_
  refine lv_iload hx hb dX5_sends_60 (lv_at hl9 5 rfl) ?_
  have h18 : f1 dO = some (.inl (cI G, 2048, .inl (fun _ => 0))) := by rw [ef1, va_up_ne _ _ (Ne.symm nd_dK_dO)]; exact k_dO
  have h19 : f6 dO = some (.inl (cI G, 2048, .inl (fun _ => 0))) := by rw [ef6, va_up_ne _ _ (Ne.symm nd_dJ_dO)]; exact h18
  have h20 : f14 dO = some (.inl (cI G, 2048, .inl (fun _ => 0))) := by rw [ef14, va_up_ne _ _ nd_dO_dU]; exact h19
  refine hp_iast B0 hw hS h20 (by unfold vp_in; decide) dX5_sends_62 (fun H locs f21 ef21 hw hS => ?_)
  have h22 : f21 dO = some (.inl (cI G, 2048, .inl (upd (fun _ => 0) (0 : Int32).toNatClampNeg 0))) := by rw [ef21, va_up_self]
  refine lv_aload_n hx hb dX5_sends_63 rfl (lv_at hl9 1 rfl) ?_
  have n24 : mo ≠ dO := hne k_mo k_dO (Nat.ne_of_beq_eq_false rfl)
  have h23 : f21 mo = some (.inr (5, [.int th, .ref dW, .ref dA, .ref dQ, .ref dM, .ref dS, .ref dL, .ref dR, .ref dT, .ref dZ, .ref dI, .ref dH, .ref dN, .ref dK, .ref dJ, .ref dU, .ref dO, .int 0, .int 0, .ref dF, .ref dP, .ref dE, .ref dX, .ref dY, .int 0, .int 0, .ref dG])) := by rw [ef21, va_up_ne _ _ n24]; exact h16
  refine hp_get B0 hw 5 rfl in_X5 h23 12 (by decide) qF_X5_44 rfl dX5_sends_64 ?_
  refine lv_iload_n hx hb dX5_sends_67 rfl (lv_at hl9 2 rfl) ?_
  refine lv_dup2_11 hx hb dX5_sends_68 rfl rfl ?_
  have h25 : f1 dN = some (.inl (cI G, 2, .inl (fun _ => 0))) := by rw [ef1, va_up_ne _ _ (Ne.symm nd_dK_dN)]; exact k_dN
  have h26 : f6 dN = some (.inl (cI G, 2, .inl (fun _ => 0))) := by rw [ef6, va_up_ne _ _ (Ne.symm nd_dJ_dN)]; exact h25
  have h27 : f14 dN = some (.inl (cI G, 2, .inl (fun _ => 0))) := by rw [ef14, va_up_ne _ _ nd_dN_dU]; exact h26
  have h28 : f21 dN = some (.inl (cI G, 2, .inl (fun _ => 0))) := by rw [ef21, va_up_ne _ _ nd_dN_dO]; exact h27
  refine hp_iald B0 hw h28 (by unfold vp_in; decide) dX5_sends_69 ?_
  refine hp_c (v := 0) (rfl) ?_
  refine lv_iconst (v := 1) hx hb dX5_sends_70 (by decide) ?_
  refine lv_iadd hx hb dX5_sends_71 ?_
  refine hp_c (v := 1) (by decide) ?_
  refine hp_iast B0 hw hS h28 (by unfold vp_in; decide) dX5_sends_72 (fun H locs f29 ef29 hw hS => ?_)
  have h30 : f29 dN = some (.inl (cI G, 2, .inl (upd (fun _ => 0) (0 : Int32).toNatClampNeg 1))) := by rw [ef29, va_up_self]
  exact hp_vret B0 hw hS hr ⟨Nat.le_of_ble_eq_true rfl, Nat.le_of_ble_eq_true rfl⟩ dX5_sends_73 (⟨rfl, ((show hKeep [dK, dJ, dU, dO, dN] f f1 from (by rw [ef1]; exact hKeep.up (by simp))).tr ((show hKeep [dK, dJ, dU, dO, dN] f1 f6 from (by rw [ef6]; exact hKeep.up (by simp))).tr ((show hKeep [dK, dJ, dU, dO, dN] f6 f14 from (by rw [ef14]; exact hKeep.up (by simp))).tr ((show hKeep [dK, dJ, dU, dO, dN] f14 f21 from (by rw [ef21]; exact hKeep.up (by simp))).tr (show hKeep [dK, dJ, dU, dO, dN] f21 f29 from (by rw [ef29]; exact hKeep.up (by simp)))))))⟩)

set_option maxHeartbeats 4000000 in
set_option maxRecDepth 100000 in
theorem c_X5_sends1 {l : Launch} (hl : l.stackTraces = false) (G : hG) (f : hM) (mo dW dA dQ dM dS dL dR dT dZ dI dH dN dK dJ dU dO dF dP dE dX dY dG : Nat) (th : Int32) (k_mo : f mo = some (.inr (5, [.int th, .ref dW, .ref dA, .ref dQ, .ref dM, .ref dS, .ref dL, .ref dR, .ref dT, .ref dZ, .ref dI, .ref dH, .ref dN, .ref dK, .ref dJ, .ref dU, .ref dO, .int 0, .int 0, .ref dF, .ref dP, .ref dE, .ref dX, .ref dY, .int 0, .int 0, .ref dG]))) (k_dM : f dM = some (.inl (cI G, 2, .inl (mA2 1 2)))) (k_dH : f dH = some (.inl (cI G, 2, .inl (fun _ => 0)))) (k_dN : f dN = some (.inl (cI G, 2, .inl (fun _ => 0)))) (k_dK : f dK = some (.inl (cI G, 2048, .inl (fun _ => 0)))) (k_dJ : f dJ = some (.inl (cI G, 2048, .inl (fun _ => 0)))) (k_dU : f dU = some (.inl (cI G, 2048, .inl (fun _ => 0)))) (k_dO : f dO = some (.inl (cI G, 2048, .inl (fun _ => 0)))) (nd_dH_dJ : dH ≠ dJ) (nd_dH_dK : dH ≠ dK) (nd_dH_dM : dH ≠ dM) (nd_dH_dN : dH ≠ dN) (nd_dH_dO : dH ≠ dO) (nd_dH_dU : dH ≠ dU) (nd_dJ_dK : dJ ≠ dK) (nd_dJ_dM : dJ ≠ dM) (nd_dJ_dN : dJ ≠ dN) (nd_dJ_dO : dJ ≠ dO) (nd_dJ_dU : dJ ≠ dU) (nd_dK_dM : dK ≠ dM) (nd_dK_dN : dK ≠ dN) (nd_dK_dO : dK ≠ dO) (nd_dK_dU : dK ≠ dU) (nd_dM_dN : dM ≠ dN) (nd_dM_dO : dM ≠ dO) (nd_dM_dU : dM ≠ dU) (nd_dN_dO : dN ≠ dO) (nd_dN_dU : dN ≠ dU) (nd_dO_dU : dO ≠ dU) : CT l yX5_sends (.code yX5_sends cX5_sends 6 none) 0 0 0 0 G [.ref mo, .int 1, .int 0, .int 0, .int 0] f (fun v f1 => v = none ∧ hKeep [dK, dJ, dU, dO, dN] f f1) (fun E f1 => False) := by
  refine hp_start hl (own := RX5) (by decide) rfl (Nat.le_of_ble_eq_true rfl) ?_
  intro p e s m args below meth c B0 hr hnm hout hw hS ls hl9
  have hx := B0.1
  have hb := B0.2.1
  have hl9 : lv_has ls 6 [(0, .ref mo), (1, .int 1), (2, .int 0), (3, .int 0), (4, .int 0)] := hl9
  refine lv_sipush (v := 1024) hx hb dX5_sends_0 (by decide) ?_
  refine lv_iload_n hx hb dX5_sends_3 rfl (lv_at hl9 1 rfl) ?_
  refine lv_imul hx hb dX5_sends_4 ?_
  refine hp_c (v := 1024) (by decide) ?_
  refine lv_aload_n hx hb dX5_sends_5 rfl (lv_at hl9 0 rfl) ?_
  refine hp_get B0 hw 5 rfl in_X5 k_mo 11 (by decide) qF_X5_41 rfl dX5_sends_6 ?_
  refine lv_iload_n hx hb dX5_sends_9 rfl (lv_at hl9 1 rfl) ?_
  refine hp_iald B0 hw k_dH (by unfold vp_in; decide) dX5_sends_10 ?_
  refine hp_c (v := 0) (rfl) ?_
  refine lv_aload_n hx hb dX5_sends_11 rfl (lv_at hl9 0 rfl) ?_
  refine hp_get B0 hw 5 rfl in_X5 k_mo 12 (by decide) qF_X5_44 rfl dX5_sends_12 ?_
  refine lv_iload_n hx hb dX5_sends_15 rfl (lv_at hl9 1 rfl) ?_
  refine hp_iald B0 hw k_dN (by unfold vp_in; decide) dX5_sends_16 ?_
  refine hp_c (v := 0) (rfl) ?_
  refine lv_iadd hx hb dX5_sends_17 ?_
  refine hp_c (v := 0) (by decide) ?_
  refine lv_sipush (v := 1024) hx hb dX5_sends_18 (by decide) ?_
  refine lv_irem hx hb dX5_sends_21 (by decide) ?_
  refine hp_c (v := 0) (by decide) ?_
  refine lv_iadd hx hb dX5_sends_22 ?_
  refine hp_c (v := 1024) (by decide) ?_
  refine lv_istore (lv' := [(5, .int 1024), (0, .ref mo), (1, .int 1), (2, .int 0), (3, .int 0), (4, .int 0)]) hx hb dX5_sends_23 hl9 (by decide) rfl (fun ls hl9 => ?_)
  refine lv_aload_n hx hb dX5_sends_25 rfl (lv_at hl9 1 rfl) ?_
  refine hp_get B0 hw 5 rfl in_X5 k_mo 13 (by decide) qF_X5_47 rfl dX5_sends_26 ?_
  refine lv_iload hx hb dX5_sends_29 (lv_at hl9 0 rfl) ?_
  refine lv_iload_n hx hb dX5_sends_31 rfl (lv_at hl9 3 rfl) ?_
  refine hp_iast B0 hw hS k_dK (by unfold vp_in; decide) dX5_sends_32 (fun H locs f1 ef1 hw hS => ?_)
  have h2 : f1 dK = some (.inl (cI G, 2048, .inl (upd (fun _ => 0) (1024 : Int32).toNatClampNeg 0))) := by rw [ef1, va_up_self]
  refine lv_aload_n hx hb dX5_sends_33 rfl (lv_at hl9 1 rfl) ?_
  have n4 : mo ≠ dK := hne k_mo k_dK (Nat.ne_of_beq_eq_false rfl)
  have h3 : f1 mo = some (.inr (5, [.int th, .ref dW, .ref dA, .ref dQ, .ref dM, .ref dS, .ref dL, .ref dR, .ref dT, .ref dZ, .ref dI, .ref dH, .ref dN, .ref dK, .ref dJ, .ref dU, .ref dO, .int 0, .int 0, .ref dF, .ref dP, .ref dE, .ref dX, .ref dY, .int 0, .int 0, .ref dG])) := by rw [ef1, va_up_ne _ _ n4]; exact k_mo
  refine hp_get B0 hw 5 rfl in_X5 h3 14 (by decide) qF_X5_50 rfl dX5_sends_34 ?_
  refine lv_iload hx hb dX5_sends_37 (lv_at hl9 0 rfl) ?_
  refine lv_iload_n hx hb dX5_sends_39 rfl (lv_at hl9 4 rfl) ?_
  have h5 : f1 dJ = some (.inl (cI G, 2048, .inl (fun _ => 0))) := by rw [ef1, va_up_ne _ _ nd_dJ_dK]; exact k_dJ
  refine hp_iast B0 hw hS h5 (by unfold vp_in; decide) dX5_sends_40 (fun H locs f6 ef6 hw hS => ?_)
  have h7 : f6 dJ = some (.inl (cI G, 2048, .inl (upd (fun _ => 0) (1024 : Int32).toNatClampNeg 0))) := by rw [ef6, va_up_self]
  refine lv_aload_n hx hb dX5_sends_41 rfl (lv_at hl9 1 rfl) ?_
  have n9 : mo ≠ dJ := hne k_mo k_dJ (Nat.ne_of_beq_eq_false rfl)
  have h8 : f6 mo = some (.inr (5, [.int th, .ref dW, .ref dA, .ref dQ, .ref dM, .ref dS, .ref dL, .ref dR, .ref dT, .ref dZ, .ref dI, .ref dH, .ref dN, .ref dK, .ref dJ, .ref dU, .ref dO, .int 0, .int 0, .ref dF, .ref dP, .ref dE, .ref dX, .ref dY, .int 0, .int 0, .ref dG])) := by rw [ef6, va_up_ne _ _ n9]; exact h3
  refine hp_get B0 hw 5 rfl in_X5 h8 15 (by decide) qF_X5_53 rfl dX5_sends_42 ?_
  refine lv_iload hx hb dX5_sends_45 (lv_at hl9 0 rfl) ?_
  refine lv_aload_n hx hb dX5_sends_47 rfl (lv_at hl9 1 rfl) ?_
  refine hp_get B0 hw 5 rfl in_X5 h8 4 (by decide) qF_X5_19 rfl dX5_sends_48 ?_
  refine lv_iload_n hx hb dX5_sends_51 rfl (lv_at hl9 2 rfl) ?_
  have h10 : f1 dM = some (.inl (cI G, 2, .inl (mA2 1 2))) := by rw [ef1, va_up_ne _ _ (Ne.symm nd_dK_dM)]; exact k_dM
  have h11 : f6 dM = some (.inl (cI G, 2, .inl (mA2 1 2))) := by rw [ef6, va_up_ne _ _ (Ne.symm nd_dJ_dM)]; exact h10
  refine hp_iald B0 hw h11 (by unfold vp_in; decide) dX5_sends_52 ?_
  refine hp_c (v := 2) (rfl) ?_
  have h12 : f1 dU = some (.inl (cI G, 2048, .inl (fun _ => 0))) := by rw [ef1, va_up_ne _ _ (Ne.symm nd_dK_dU)]; exact k_dU
  have h13 : f6 dU = some (.inl (cI G, 2048, .inl (fun _ => 0))) := by rw [ef6, va_up_ne _ _ (Ne.symm nd_dJ_dU)]; exact h12
  refine hp_iast B0 hw hS h13 (by unfold vp_in; decide) dX5_sends_53 (fun H locs f14 ef14 hw hS => ?_)
  have h15 : f14 dU = some (.inl (cI G, 2048, .inl (upd (fun _ => 0) (1024 : Int32).toNatClampNeg 2))) := by rw [ef14, va_up_self]
  refine lv_aload_n hx hb dX5_sends_54 rfl (lv_at hl9 1 rfl) ?_
  have n17 : mo ≠ dU := hne k_mo k_dU (Nat.ne_of_beq_eq_false rfl)
  have h16 : f14 mo = some (.inr (5, [.int th, .ref dW, .ref dA, .ref dQ, .ref dM, .ref dS, .ref dL, .ref dR, .ref dT, .ref dZ, .ref dI, .ref dH, .ref dN, .ref dK, .ref dJ, .ref dU, .ref dO, .int 0, .int 0, .ref dF, .ref dP, .ref dE, .ref dX, .ref dY, .int 0, .int 0, .ref dG])) := by rw [ef14, va_up_ne _ _ n17]; exact h8
  refine hp_get B0 hw 5 rfl in_X5 h16 16 (by decide) qF_X5_56 rfl dX5_sends_55 ?_
  refine lv_iload hx hb dX5_sends_58 (lv_at hl9 0 rfl) ?_
  refine lv_iload hx hb dX5_sends_60 (lv_at hl9 5 rfl) ?_
  have h18 : f1 dO = some (.inl (cI G, 2048, .inl (fun _ => 0))) := by rw [ef1, va_up_ne _ _ (Ne.symm nd_dK_dO)]; exact k_dO
  have h19 : f6 dO = some (.inl (cI G, 2048, .inl (fun _ => 0))) := by rw [ef6, va_up_ne _ _ (Ne.symm nd_dJ_dO)]; exact h18
  have h20 : f14 dO = some (.inl (cI G, 2048, .inl (fun _ => 0))) := by rw [ef14, va_up_ne _ _ nd_dO_dU]; exact h19
  refine hp_iast B0 hw hS h20 (by unfold vp_in; decide) dX5_sends_62 (fun H locs f21 ef21 hw hS => ?_)
  have h22 : f21 dO = some (.inl (cI G, 2048, .inl (upd (fun _ => 0) (1024 : Int32).toNatClampNeg 0))) := by rw [ef21, va_up_self]
  refine lv_aload_n hx hb dX5_sends_63 rfl (lv_at hl9 1 rfl) ?_
  have n24 : mo ≠ dO := hne k_mo k_dO (Nat.ne_of_beq_eq_false rfl)
  have h23 : f21 mo = some (.inr (5, [.int th, .ref dW, .ref dA, .ref dQ, .ref dM, .ref dS, .ref dL, .ref dR, .ref dT, .ref dZ, .ref dI, .ref dH, .ref dN, .ref dK, .ref dJ, .ref dU, .ref dO, .int 0, .int 0, .ref dF, .ref dP, .ref dE, .ref dX, .ref dY, .int 0, .int 0, .ref dG])) := by rw [ef21, va_up_ne _ _ n24]; exact h16
  refine hp_get B0 hw 5 rfl in_X5 h23 12 (by decide) qF_X5_44 rfl dX5_sends_64 ?_
  refine lv_iload_n hx hb dX5_sends_67 rfl (lv_at hl9 2 rfl) ?_
  refine lv_dup2_11 hx hb dX5_sends_68 rfl rfl ?_
  have h25 : f1 dN = some (.inl (cI G, 2, .inl (fun _ => 0))) := by rw [ef1, va_up_ne _ _ (Ne.symm nd_dK_dN)]; exact k_dN
  have h26 : f6 dN = some (.inl (cI G, 2, .inl (fun _ => 0))) := by rw [ef6, va_up_ne _ _ (Ne.symm nd_dJ_dN)]; exact h25
  have h27 : f14 dN = some (.inl (cI G, 2, .inl (fun _ => 0))) := by rw [ef14, va_up_ne _ _ nd_dN_dU]; exact h26
  have h28 : f21 dN = some (.inl (cI G, 2, .inl (fun _ => 0))) := by rw [ef21, va_up_ne _ _ nd_dN_dO]; exact h27
  refine hp_iald B0 hw h28 (by unfold vp_in; decide) dX5_sends_69 ?_
  refine hp_c (v := 0) (rfl) ?_
  refine lv_iconst (v := 1) hx hb dX5_sends_70 (by decide) ?_
  refine lv_iadd hx hb dX5_sends_71 ?_
  refine hp_c (v := 1) (by decide) ?_
  refine hp_iast B0 hw hS h28 (by unfold vp_in; decide) dX5_sends_72 (fun H locs f29 ef29 hw hS => ?_)
  have h30 : f29 dN = some (.inl (cI G, 2, .inl (upd (fun _ => 0) (1 : Int32).toNatClampNeg 1))) := by rw [ef29, va_up_self]
  exact hp_vret B0 hw hS hr ⟨Nat.le_of_ble_eq_true rfl, Nat.le_of_ble_eq_true rfl⟩ dX5_sends_73 (⟨rfl, ((show hKeep [dK, dJ, dU, dO, dN] f f1 from (by rw [ef1]; exact hKeep.up (by simp))).tr ((show hKeep [dK, dJ, dU, dO, dN] f1 f6 from (by rw [ef6]; exact hKeep.up (by simp))).tr ((show hKeep [dK, dJ, dU, dO, dN] f6 f14 from (by rw [ef14]; exact hKeep.up (by simp))).tr ((show hKeep [dK, dJ, dU, dO, dN] f14 f21 from (by rw [ef21]; exact hKeep.up (by simp))).tr (show hKeep [dK, dJ, dU, dO, dN] f21 f29 from (by rw [ef29]; exact hKeep.up (by simp)))))))⟩)

set_option maxHeartbeats 4000000 in
set_option maxRecDepth 100000 in
theorem c_X5_begs0 {l : Launch} (hl : l.stackTraces = false) (G : hG) (f : hM) (mo dW dA dQ dM dS dL dR dT dZ dI dH dN dK dJ dU dO dF dP dE dX dY dG : Nat) (th : Int32) (k_mo : f mo = some (.inr (5, [.int th, .ref dW, .ref dA, .ref dQ, .ref dM, .ref dS, .ref dL, .ref dR, .ref dT, .ref dZ, .ref dI, .ref dH, .ref dN, .ref dK, .ref dJ, .ref dU, .ref dO, .int 0, .int 0, .ref dF, .ref dP, .ref dE, .ref dX, .ref dY, .int 0, .int 0, .ref dG]))) (k_dR : f dR = some (.inl (cI G, 2, .inl (upd (fun _ => 0) (0 : Int32).toNatClampNeg 0)))) (k_dL : f dL = some (.inl (cI G, 2, .inl (mA2 (-1) (-1))))) (k_dT : f dT = some (.inl (cI G, 2, .inl (fun _ => 0)))) (k_dQ : f dQ = some (.inl (cI G, 12, .inl (upd (upd (upd (upd (upd (upd mA12 (0 : Int32).toNatClampNeg (-1)) (1 : Int32).toNatClampNeg (-1)) (2 : Int32).toNatClampNeg (-1)) (3 : Int32).toNatClampNeg (-1)) (4 : Int32).toNatClampNeg (-1)) (5 : Int32).toNatClampNeg (-1))))) (k_dM : f dM = some (.inl (cI G, 2, .inl (mA2 1 2)))) (k_dH : f dH = some (.inl (cI G, 2, .inl (fun _ => 0)))) (k_dN : f dN = some (.inl (cI G, 2, .inl (fun _ => 0)))) (k_dK : f dK = some (.inl (cI G, 2048, .inl (fun _ => 0)))) (k_dJ : f dJ = some (.inl (cI G, 2048, .inl (fun _ => 0)))) (k_dU : f dU = some (.inl (cI G, 2048, .inl (fun _ => 0)))) (k_dO : f dO = some (.inl (cI G, 2048, .inl (fun _ => 0)))) (nd_dH_dJ : dH ≠ dJ) (nd_dH_dK : dH ≠ dK) (nd_dH_dL : dH ≠ dL) (nd_dH_dM : dH ≠ dM) (nd_dH_dN : dH ≠ dN) (nd_dH_dO : dH ≠ dO) (nd_dH_dQ : dH ≠ dQ) (nd_dH_dR : dH ≠ dR) (nd_dH_dT : dH ≠ dT) (nd_dH_dU : dH ≠ dU) (nd_dJ_dK : dJ ≠ dK) (nd_dJ_dL : dJ ≠ dL) (nd_dJ_dM : dJ ≠ dM) (nd_dJ_dN : dJ ≠ dN) (nd_dJ_dO : dJ ≠ dO) (nd_dJ_dQ : dJ ≠ dQ) (nd_dJ_dR : dJ ≠ dR) (nd_dJ_dT : dJ ≠ dT) (nd_dJ_dU : dJ ≠ dU) (nd_dK_dL : dK ≠ dL) (nd_dK_dM : dK ≠ dM) (nd_dK_dN : dK ≠ dN) (nd_dK_dO : dK ≠ dO) (nd_dK_dQ : dK ≠ dQ) (nd_dK_dR : dK ≠ dR) (nd_dK_dT : dK ≠ dT) (nd_dK_dU : dK ≠ dU) (nd_dL_dM : dL ≠ dM) (nd_dL_dN : dL ≠ dN) (nd_dL_dO : dL ≠ dO) (nd_dL_dQ : dL ≠ dQ) (nd_dL_dR : dL ≠ dR) (nd_dL_dT : dL ≠ dT) (nd_dL_dU : dL ≠ dU) (nd_dM_dN : dM ≠ dN) (nd_dM_dO : dM ≠ dO) (nd_dM_dQ : dM ≠ dQ) (nd_dM_dR : dM ≠ dR) (nd_dM_dT : dM ≠ dT) (nd_dM_dU : dM ≠ dU) (nd_dN_dO : dN ≠ dO) (nd_dN_dQ : dN ≠ dQ) (nd_dN_dR : dN ≠ dR) (nd_dN_dT : dN ≠ dT) (nd_dN_dU : dN ≠ dU) (nd_dO_dQ : dO ≠ dQ) (nd_dO_dR : dO ≠ dR) (nd_dO_dT : dO ≠ dT) (nd_dO_dU : dO ≠ dU) (nd_dQ_dR : dQ ≠ dR) (nd_dQ_dT : dQ ≠ dT) (nd_dQ_dU : dQ ≠ dU) (nd_dR_dT : dR ≠ dT) (nd_dR_dU : dR ≠ dU) (nd_dT_dU : dT ≠ dU) : CT l yX5_begs (.code yX5_begs cX5_begs 4 (some .boolean)) 1 25 0 0 G [.ref mo, .int 0] f (fun v f1 => v = some (.int 1) ∧ f1 dL = some (.inl (cI G, 2, .inl (upd (mA2 (-1) (-1)) (0 : Int32).toNatClampNeg 0))) ∧ hKeep [dL, dR, dT, dK, dJ, dU, dO, dN] f f1) (fun E f1 => False) := by
  refine hp_start hl (own := RX5) (by decide) rfl (Nat.le_of_ble_eq_true rfl) ?_
  intro p e s m args below meth c B0 hr hnm hout hw hS ls hl9
  have hx := B0.1
  have hb := B0.2.1
  have hl9 : lv_has ls 4 [(0, .ref mo), (1, .int 0)] := hl9
  refine lv_aload_n hx hb dX5_begs_0 rfl (lv_at hl9 0 rfl) ?_
  refine hp_get B0 hw 5 rfl in_X5 k_mo 7 (by decide) qF_X5_28 rfl dX5_begs_1 ?_
  refine lv_iload_n hx hb dX5_begs_4 rfl (lv_at hl9 1 rfl) ?_
  refine hp_iald B0 hw k_dR (by unfold vp_in; decide) dX5_begs_5 ?_
  refine hp_c (v := 0) (rfl) ?_
  refine lv_bipush (v := 10) hx hb dX5_begs_6 (by decide) ?_
  refine lv_icmp_ne (tgt := 20) hx hb dX5_begs_8 (by decide) (fun _ => ?_) (fun c9 => absurd c9 (by decide))
  refine lv_aload_n hx hb dX5_begs_20 rfl (lv_at hl9 0 rfl) ?_
  refine hp_get B0 hw 5 rfl in_X5 k_mo 6 (by decide) qF_X5_25 rfl dX5_begs_21 ?_
  refine lv_iload_n hx hb dX5_begs_24 rfl (lv_at hl9 1 rfl) ?_
  refine lv_dup2_11 hx hb dX5_begs_25 rfl rfl ?_
  refine hp_iald B0 hw k_dL (by unfold vp_in; decide) dX5_begs_26 ?_
  refine hp_c (v := (-1)) (rfl) ?_
  refine lv_iconst (v := 1) hx hb dX5_begs_27 (by decide) ?_
  refine lv_iadd hx hb dX5_begs_28 ?_
  refine hp_c (v := 0) (by decide) ?_
  refine hp_iast B0 hw hS k_dL (by unfold vp_in; decide) dX5_begs_29 (fun H locs f1 ef1 hw hS => ?_)
  have h2 : f1 dL = some (.inl (cI G, 2, .inl (upd (mA2 (-1) (-1)) (0 : Int32).toNatClampNeg 0))) := by rw [ef1, va_up_self]
  refine lv_aload_n hx hb dX5_begs_30 rfl (lv_at hl9 0 rfl) ?_
  have n4 : mo ≠ dL := hne k_mo k_dL (Nat.ne_of_beq_eq_false rfl)
  have h3 : f1 mo = some (.inr (5, [.int th, .ref dW, .ref dA, .ref dQ, .ref dM, .ref dS, .ref dL, .ref dR, .ref dT, .ref dZ, .ref dI, .ref dH, .ref dN, .ref dK, .ref dJ, .ref dU, .ref dO, .int 0, .int 0, .ref dF, .ref dP, .ref dE, .ref dX, .ref dY, .int 0, .int 0, .ref dG])) := by rw [ef1, va_up_ne _ _ n4]; exact k_mo
  refine hp_get B0 hw 5 rfl in_X5 h3 7 (by decide) qF_X5_28 rfl dX5_begs_31 ?_
  refine lv_iload_n hx hb dX5_begs_34 rfl (lv_at hl9 1 rfl) ?_
  refine lv_dup2_11 hx hb dX5_begs_35 rfl rfl ?_
  have h5 : f1 dR = some (.inl (cI G, 2, .inl (upd (fun _ => 0) (0 : Int32).toNatClampNeg 0))) := by rw [ef1, va_up_ne _ _ (Ne.symm nd_dL_dR)]; exact k_dR
  refine hp_iald B0 hw h5 (by unfold vp_in; decide) dX5_begs_36 ?_
  refine hp_c (v := 0) (rfl) ?_
  refine lv_iconst (v := 1) hx hb dX5_begs_37 (by decide) ?_
  refine lv_iadd hx hb dX5_begs_38 ?_
  refine hp_c (v := 1) (by decide) ?_
  refine hp_iast B0 hw hS h5 (by unfold vp_in; decide) dX5_begs_39 (fun H locs f6 ef6 hw hS => ?_)
  have h7 : f6 dR = some (.inl (cI G, 2, .inl (upd (upd (fun _ => 0) (0 : Int32).toNatClampNeg 0) (0 : Int32).toNatClampNeg 1))) := by rw [ef6, va_up_self]
  refine lv_aload_n hx hb dX5_begs_40 rfl (lv_at hl9 0 rfl) ?_
  have n9 : mo ≠ dR := hne k_mo k_dR (Nat.ne_of_beq_eq_false rfl)
  have h8 : f6 mo = some (.inr (5, [.int th, .ref dW, .ref dA, .ref dQ, .ref dM, .ref dS, .ref dL, .ref dR, .ref dT, .ref dZ, .ref dI, .ref dH, .ref dN, .ref dK, .ref dJ, .ref dU, .ref dO, .int 0, .int 0, .ref dF, .ref dP, .ref dE, .ref dX, .ref dY, .int 0, .int 0, .ref dG])) := by rw [ef6, va_up_ne _ _ n9]; exact h3
  refine hp_get B0 hw 5 rfl in_X5 h8 8 (by decide) qF_X5_31 rfl dX5_begs_41 ?_
  refine lv_iload_n hx hb dX5_begs_44 rfl (lv_at hl9 1 rfl) ?_
  refine lv_iconst (v := 3) hx hb dX5_begs_45 (by decide) ?_
  have h10 : f1 dT = some (.inl (cI G, 2, .inl (fun _ => 0))) := by rw [ef1, va_up_ne _ _ (Ne.symm nd_dL_dT)]; exact k_dT
  have h11 : f6 dT = some (.inl (cI G, 2, .inl (fun _ => 0))) := by rw [ef6, va_up_ne _ _ (Ne.symm nd_dR_dT)]; exact h10
  refine hp_iast B0 hw hS h11 (by unfold vp_in; decide) dX5_begs_46 (fun H locs f12 ef12 hw hS => ?_)
  have h13 : f12 dT = some (.inl (cI G, 2, .inl (upd (fun _ => 0) (0 : Int32).toNatClampNeg 3))) := by rw [ef12, va_up_self]
  refine lv_iconst (v := 0) hx hb dX5_begs_47 (by decide) ?_
  refine lv_istore_n (lv' := [(2, .int 0), (0, .ref mo), (1, .int 0)]) hx hb dX5_begs_48 rfl hl9 (by decide) rfl (fun ls hl9 => ?_)
  refine lv_iconst (v := 0) hx hb dX5_begs_49 (by decide) ?_
  refine lv_istore_n (lv' := [(3, .int 0), (2, .int 0), (0, .ref mo), (1, .int 0)]) hx hb dX5_begs_50 rfl hl9 (by decide) rfl (fun ls hl9 => ?_)
  refine lv_iload_n hx hb dX5_begs_51 rfl (lv_at hl9 0 rfl) ?_
  refine lv_bipush (v := 6) hx hb dX5_begs_52 (by decide) ?_
  refine lv_icmp_ge (tgt := 84) hx hb dX5_begs_54 (by decide) (fun c9 => absurd c9 (by decide)) (fun _ => ?_)
  refine lv_iload_n hx hb dX5_begs_57 rfl (lv_at hl9 1 rfl) ?_
  refine lv_iload_n hx hb dX5_begs_58 rfl (lv_at hl9 0 rfl) ?_
  refine hp_S (As := [.int 0]) (rest := [.int 0]) B0 hw hS (c_X5_place0 hl G f12) mS_X5_place qM_X5_92 rfl rfl hl9.1 (Nat.le_of_ble_eq_true rfl) ⟨⟨Nat.le_of_ble_eq_true rfl, Nat.le_of_ble_eq_true rfl⟩, Nat.le_of_ble_eq_true rfl, Nat.le_of_ble_eq_true rfl⟩ dX5_begs_59 (fun E ce q9 f14 H locs hPX hw hS hce hcv hcl => ?_) (fun v f14 H locs hP hw hS => ?_)
  · exact hPX.elim
  · obtain ⟨ev9, ef9⟩ := hP
    rw [ef9] at hw
    subst ev9
    refine W.eq (g2 := F0 m 62 ls [.int 1, .int 0]) rfl ?_
    refine lv_aload_n hx hb dX5_begs_62 rfl (lv_at hl9 2 rfl) ?_
    have n16 : mo ≠ dT := hne k_mo k_dT (Nat.ne_of_beq_eq_false rfl)
    have h15 : f12 mo = some (.inr (5, [.int th, .ref dW, .ref dA, .ref dQ, .ref dM, .ref dS, .ref dL, .ref dR, .ref dT, .ref dZ, .ref dI, .ref dH, .ref dN, .ref dK, .ref dJ, .ref dU, .ref dO, .int 0, .int 0, .ref dF, .ref dP, .ref dE, .ref dX, .ref dY, .int 0, .int 0, .ref dG])) := by rw [ef12, va_up_ne _ _ n16]; exact h8
    refine hp_get B0 hw 5 rfl in_X5 h15 3 (by decide) qF_X5_16 rfl dX5_begs_63 ?_
    refine lv_bipush (v := 6) hx hb dX5_begs_66 (by decide) ?_
    refine lv_iload_n hx hb dX5_begs_68 rfl (lv_at hl9 3 rfl) ?_
    refine lv_imul hx hb dX5_begs_69 ?_
    refine hp_c (v := 0) (by decide) ?_
    refine lv_iload_n hx hb dX5_begs_70 rfl (lv_at hl9 0 rfl) ?_
    refine lv_iadd hx hb dX5_begs_71 ?_
    refine hp_c (v := 0) (by decide) ?_
    have h17 : f1 dQ = some (.inl (cI G, 12, .inl (upd (upd (upd (upd (upd (upd mA12 (0 : Int32).toNatClampNeg (-1)) (1 : Int32).toNatClampNeg (-1)) (2 : Int32).toNatClampNeg (-1)) (3 : Int32).toNatClampNeg (-1)) (4 : Int32).toNatClampNeg (-1)) (5 : Int32).toNatClampNeg (-1)))) := by rw [ef1, va_up_ne _ _ (Ne.symm nd_dL_dQ)]; exact k_dQ
    have h18 : f6 dQ = some (.inl (cI G, 12, .inl (upd (upd (upd (upd (upd (upd mA12 (0 : Int32).toNatClampNeg (-1)) (1 : Int32).toNatClampNeg (-1)) (2 : Int32).toNatClampNeg (-1)) (3 : Int32).toNatClampNeg (-1)) (4 : Int32).toNatClampNeg (-1)) (5 : Int32).toNatClampNeg (-1)))) := by rw [ef6, va_up_ne _ _ nd_dQ_dR]; exact h17
    have h19 : f12 dQ = some (.inl (cI G, 12, .inl (upd (upd (upd (upd (upd (upd mA12 (0 : Int32).toNatClampNeg (-1)) (1 : Int32).toNatClampNeg (-1)) (2 : Int32).toNatClampNeg (-1)) (3 : Int32).toNatClampNeg (-1)) (4 : Int32).toNatClampNeg (-1)) (5 : Int32).toNatClampNeg (-1)))) := by rw [ef12, va_up_ne _ _ nd_dQ_dT]; exact h18
    refine hp_iald B0 hw h19 (by unfold vp_in; decide) dX5_begs_72 ?_
    refine hp_c (v := (-1)) (rfl) ?_
    refine lv_iconst (v := 1) hx hb dX5_begs_73 (by decide) ?_
    refine lv_iadd hx hb dX5_begs_74 ?_
    refine hp_c (v := 0) (by decide) ?_
    refine lv_imul hx hb dX5_begs_75 ?_
    refine hp_c (v := 0) (by decide) ?_
    refine lv_iadd hx hb dX5_begs_76 ?_
    refine hp_c (v := 0) (by decide) ?_
    refine lv_istore_n (lv' := [(2, .int 0), (3, .int 0), (0, .ref mo), (1, .int 0)]) hx hb dX5_begs_77 rfl hl9 (by decide) rfl (fun ls hl9 => ?_)
    refine lv_iinc (v := 1) (lv' := [(3, .int 1), (2, .int 0), (0, .ref mo), (1, .int 0)]) hx hb dX5_begs_78 hl9 (k := 1) rfl (by decide) (by decide) rfl (fun ls hl9 => ?_)
    refine lv_goto (tgt := 51) hx hb dX5_begs_81 (by decide) ?_
    refine lv_iload_n hx hb dX5_begs_51 rfl (lv_at hl9 0 rfl) ?_
    refine lv_bipush (v := 6) hx hb dX5_begs_52 (by decide) ?_
    refine lv_icmp_ge (tgt := 84) hx hb dX5_begs_54 (by decide) (fun c9 => absurd c9 (by decide)) (fun _ => ?_)
    refine lv_iload_n hx hb dX5_begs_57 rfl (lv_at hl9 1 rfl) ?_
    refine lv_iload_n hx hb dX5_begs_58 rfl (lv_at hl9 0 rfl) ?_
    refine hp_S (As := [.int 1]) (rest := [.int 0]) B0 hw hS (c_X5_place1 hl G f12) mS_X5_place qM_X5_92 rfl rfl hl9.1 (Nat.le_of_ble_eq_true rfl) ⟨⟨Nat.le_of_ble_eq_true rfl, Nat.le_of_ble_eq_true rfl⟩, Nat.le_of_ble_eq_true rfl, Nat.le_of_ble_eq_true rfl⟩ dX5_begs_59 (fun E ce q9 f20 H locs hPX hw hS hce hcv hcl => ?_) (fun v f20 H locs hP hw hS => ?_)
    · exact hPX.elim
    · obtain ⟨ev9, ef9⟩ := hP
      rw [ef9] at hw
      subst ev9
      refine W.eq (g2 := F0 m 62 ls [.int 11, .int 0]) rfl ?_
      refine lv_aload_n hx hb dX5_begs_62 rfl (lv_at hl9 2 rfl) ?_
      refine hp_get B0 hw 5 rfl in_X5 h15 3 (by decide) qF_X5_16 rfl dX5_begs_63 ?_
      refine lv_bipush (v := 6) hx hb dX5_begs_66 (by decide) ?_
      refine lv_iload_n hx hb dX5_begs_68 rfl (lv_at hl9 3 rfl) ?_
      refine lv_imul hx hb dX5_begs_69 ?_
      refine hp_c (v := 0) (by decide) ?_
      refine lv_iload_n hx hb dX5_begs_70 rfl (lv_at hl9 0 rfl) ?_
      refine lv_iadd hx hb dX5_begs_71 ?_
      refine hp_c (v := 1) (by decide) ?_
      refine hp_iald B0 hw h19 (by unfold vp_in; decide) dX5_begs_72 ?_
      refine hp_c (v := (-1)) (rfl) ?_
      refine lv_iconst (v := 1) hx hb dX5_begs_73 (by decide) ?_
      refine lv_iadd hx hb dX5_begs_74 ?_
      refine hp_c (v := 0) (by decide) ?_
      refine lv_imul hx hb dX5_begs_75 ?_
      refine hp_c (v := 0) (by decide) ?_
      refine lv_iadd hx hb dX5_begs_76 ?_
      refine hp_c (v := 0) (by decide) ?_
      refine lv_istore_n (lv' := [(2, .int 0), (3, .int 1), (0, .ref mo), (1, .int 0)]) hx hb dX5_begs_77 rfl hl9 (by decide) rfl (fun ls hl9 => ?_)
      refine lv_iinc (v := 2) (lv' := [(3, .int 2), (2, .int 0), (0, .ref mo), (1, .int 0)]) hx hb dX5_begs_78 hl9 (k := 1) rfl (by decide) (by decide) rfl (fun ls hl9 => ?_)
      refine lv_goto (tgt := 51) hx hb dX5_begs_81 (by decide) ?_
      refine lv_iload_n hx hb dX5_begs_51 rfl (lv_at hl9 0 rfl) ?_
      refine lv_bipush (v := 6) hx hb dX5_begs_52 (by decide) ?_
      refine lv_icmp_ge (tgt := 84) hx hb dX5_begs_54 (by decide) (fun c9 => absurd c9 (by decide)) (fun _ => ?_)
      refine lv_iload_n hx hb dX5_begs_57 rfl (lv_at hl9 1 rfl) ?_
      refine lv_iload_n hx hb dX5_begs_58 rfl (lv_at hl9 0 rfl) ?_
      refine hp_S (As := [.int 2]) (rest := [.int 0]) B0 hw hS (c_X5_place2 hl G f12) mS_X5_place qM_X5_92 rfl rfl hl9.1 (Nat.le_of_ble_eq_true rfl) ⟨⟨Nat.le_of_ble_eq_true rfl, Nat.le_of_ble_eq_true rfl⟩, Nat.le_of_ble_eq_true rfl, Nat.le_of_ble_eq_true rfl⟩ dX5_begs_59 (fun E ce q9 f21 H locs hPX hw hS hce hcv hcl => ?_) (fun v f21 H locs hP hw hS => ?_)
      · exact hPX.elim
      · obtain ⟨ev9, ef9⟩ := hP
        rw [ef9] at hw
        subst ev9
        refine W.eq (g2 := F0 m 62 ls [.int 121, .int 0]) rfl ?_
        refine lv_aload_n hx hb dX5_begs_62 rfl (lv_at hl9 2 rfl) ?_
        refine hp_get B0 hw 5 rfl in_X5 h15 3 (by decide) qF_X5_16 rfl dX5_begs_63 ?_
        refine lv_bipush (v := 6) hx hb dX5_begs_66 (by decide) ?_
        refine lv_iload_n hx hb dX5_begs_68 rfl (lv_at hl9 3 rfl) ?_
        refine lv_imul hx hb dX5_begs_69 ?_
        refine hp_c (v := 0) (by decide) ?_
        refine lv_iload_n hx hb dX5_begs_70 rfl (lv_at hl9 0 rfl) ?_
        refine lv_iadd hx hb dX5_begs_71 ?_
        refine hp_c (v := 2) (by decide) ?_
        refine hp_iald B0 hw h19 (by unfold vp_in; decide) dX5_begs_72 ?_
        refine hp_c (v := (-1)) (rfl) ?_
        refine lv_iconst (v := 1) hx hb dX5_begs_73 (by decide) ?_
        refine lv_iadd hx hb dX5_begs_74 ?_
        refine hp_c (v := 0) (by decide) ?_
        refine lv_imul hx hb dX5_begs_75 ?_
        refine hp_c (v := 0) (by decide) ?_
        refine lv_iadd hx hb dX5_begs_76 ?_
        refine hp_c (v := 0) (by decide) ?_
        refine lv_istore_n (lv' := [(2, .int 0), (3, .int 2), (0, .ref mo), (1, .int 0)]) hx hb dX5_begs_77 rfl hl9 (by decide) rfl (fun ls hl9 => ?_)
        refine lv_iinc (v := 3) (lv' := [(3, .int 3), (2, .int 0), (0, .ref mo), (1, .int 0)]) hx hb dX5_begs_78 hl9 (k := 1) rfl (by decide) (by decide) rfl (fun ls hl9 => ?_)
        refine lv_goto (tgt := 51) hx hb dX5_begs_81 (by decide) ?_
        refine lv_iload_n hx hb dX5_begs_51 rfl (lv_at hl9 0 rfl) ?_
        refine lv_bipush (v := 6) hx hb dX5_begs_52 (by decide) ?_
        refine lv_icmp_ge (tgt := 84) hx hb dX5_begs_54 (by decide) (fun c9 => absurd c9 (by decide)) (fun _ => ?_)
        refine lv_iload_n hx hb dX5_begs_57 rfl (lv_at hl9 1 rfl) ?_
        refine lv_iload_n hx hb dX5_begs_58 rfl (lv_at hl9 0 rfl) ?_
        refine hp_S (As := [.int 3]) (rest := [.int 0]) B0 hw hS (c_X5_place3 hl G f12) mS_X5_place qM_X5_92 rfl rfl hl9.1 (Nat.le_of_ble_eq_true rfl) ⟨⟨Nat.le_of_ble_eq_true rfl, Nat.le_of_ble_eq_true rfl⟩, Nat.le_of_ble_eq_true rfl, Nat.le_of_ble_eq_true rfl⟩ dX5_begs_59 (fun E ce q9 f22 H locs hPX hw hS hce hcv hcl => ?_) (fun v f22 H locs hP hw hS => ?_)
        · exact hPX.elim
        · obtain ⟨ev9, ef9⟩ := hP
          rw [ef9] at hw
          subst ev9
          refine W.eq (g2 := F0 m 62 ls [.int 1331, .int 0]) rfl ?_
          refine lv_aload_n hx hb dX5_begs_62 rfl (lv_at hl9 2 rfl) ?_
          refine hp_get B0 hw 5 rfl in_X5 h15 3 (by decide) qF_X5_16 rfl dX5_begs_63 ?_
          refine lv_bipush (v := 6) hx hb dX5_begs_66 (by decide) ?_
          refine lv_iload_n hx hb dX5_begs_68 rfl (lv_at hl9 3 rfl) ?_
          refine lv_imul hx hb dX5_begs_69 ?_
          refine hp_c (v := 0) (by decide) ?_
          refine lv_iload_n hx hb dX5_begs_70 rfl (lv_at hl9 0 rfl) ?_
          refine lv_iadd hx hb dX5_begs_71 ?_
          refine hp_c (v := 3) (by decide) ?_
          refine hp_iald B0 hw h19 (by unfold vp_in; decide) dX5_begs_72 ?_
          refine hp_c (v := (-1)) (rfl) ?_
          refine lv_iconst (v := 1) hx hb dX5_begs_73 (by decide) ?_
          refine lv_iadd hx hb dX5_begs_74 ?_
          refine hp_c (v := 0) (by decide) ?_
          refine lv_imul hx hb dX5_begs_75 ?_
          refine hp_c (v := 0) (by decide) ?_
          refine lv_iadd hx hb dX5_begs_76 ?_
          refine hp_c (v := 0) (by decide) ?_
          refine lv_istore_n (lv' := [(2, .int 0), (3, .int 3), (0, .ref mo), (1, .int 0)]) hx hb dX5_begs_77 rfl hl9 (by decide) rfl (fun ls hl9 => ?_)
          refine lv_iinc (v := 4) (lv' := [(3, .int 4), (2, .int 0), (0, .ref mo), (1, .int 0)]) hx hb dX5_begs_78 hl9 (k := 1) rfl (by decide) (by decide) rfl (fun ls hl9 => ?_)
          refine lv_goto (tgt := 51) hx hb dX5_begs_81 (by decide) ?_
          refine lv_iload_n hx hb dX5_begs_51 rfl (lv_at hl9 0 rfl) ?_
          refine lv_bipush (v := 6) hx hb dX5_begs_52 (by decide) ?_
          refine lv_icmp_ge (tgt := 84) hx hb dX5_begs_54 (by decide) (fun c9 => absurd c9 (by decide)) (fun _ => ?_)
          refine lv_iload_n hx hb dX5_begs_57 rfl (lv_at hl9 1 rfl) ?_
          refine lv_iload_n hx hb dX5_begs_58 rfl (lv_at hl9 0 rfl) ?_
          refine hp_S (As := [.int 4]) (rest := [.int 0]) B0 hw hS (c_X5_place4 hl G f12) mS_X5_place qM_X5_92 rfl rfl hl9.1 (Nat.le_of_ble_eq_true rfl) ⟨⟨Nat.le_of_ble_eq_true rfl, Nat.le_of_ble_eq_true rfl⟩, Nat.le_of_ble_eq_true rfl, Nat.le_of_ble_eq_true rfl⟩ dX5_begs_59 (fun E ce q9 f23 H locs hPX hw hS hce hcv hcl => ?_) (fun v f23 H locs hP hw hS => ?_)
          · exact hPX.elim
          · obtain ⟨ev9, ef9⟩ := hP
            rw [ef9] at hw
            subst ev9
            refine W.eq (g2 := F0 m 62 ls [.int 14641, .int 0]) rfl ?_
            refine lv_aload_n hx hb dX5_begs_62 rfl (lv_at hl9 2 rfl) ?_
            refine hp_get B0 hw 5 rfl in_X5 h15 3 (by decide) qF_X5_16 rfl dX5_begs_63 ?_
            refine lv_bipush (v := 6) hx hb dX5_begs_66 (by decide) ?_
            refine lv_iload_n hx hb dX5_begs_68 rfl (lv_at hl9 3 rfl) ?_
            refine lv_imul hx hb dX5_begs_69 ?_
            refine hp_c (v := 0) (by decide) ?_
            refine lv_iload_n hx hb dX5_begs_70 rfl (lv_at hl9 0 rfl) ?_
            refine lv_iadd hx hb dX5_begs_71 ?_
            refine hp_c (v := 4) (by decide) ?_
            refine hp_iald B0 hw h19 (by unfold vp_in; decide) dX5_begs_72 ?_
            refine hp_c (v := (-1)) (rfl) ?_
            refine lv_iconst (v := 1) hx hb dX5_begs_73 (by decide) ?_
            refine lv_iadd hx hb dX5_begs_74 ?_
            refine hp_c (v := 0) (by decide) ?_
            refine lv_imul hx hb dX5_begs_75 ?_
            refine hp_c (v := 0) (by decide) ?_
            refine lv_iadd hx hb dX5_begs_76 ?_
            refine hp_c (v := 0) (by decide) ?_
            refine lv_istore_n (lv' := [(2, .int 0), (3, .int 4), (0, .ref mo), (1, .int 0)]) hx hb dX5_begs_77 rfl hl9 (by decide) rfl (fun ls hl9 => ?_)
            refine lv_iinc (v := 5) (lv' := [(3, .int 5), (2, .int 0), (0, .ref mo), (1, .int 0)]) hx hb dX5_begs_78 hl9 (k := 1) rfl (by decide) (by decide) rfl (fun ls hl9 => ?_)
            refine lv_goto (tgt := 51) hx hb dX5_begs_81 (by decide) ?_
            refine lv_iload_n hx hb dX5_begs_51 rfl (lv_at hl9 0 rfl) ?_
            refine lv_bipush (v := 6) hx hb dX5_begs_52 (by decide) ?_
            refine lv_icmp_ge (tgt := 84) hx hb dX5_begs_54 (by decide) (fun c9 => absurd c9 (by decide)) (fun _ => ?_)
            refine lv_iload_n hx hb dX5_begs_57 rfl (lv_at hl9 1 rfl) ?_
            refine lv_iload_n hx hb dX5_begs_58 rfl (lv_at hl9 0 rfl) ?_
            refine hp_S (As := [.int 5]) (rest := [.int 0]) B0 hw hS (c_X5_place5 hl G f12) mS_X5_place qM_X5_92 rfl rfl hl9.1 (Nat.le_of_ble_eq_true rfl) ⟨⟨Nat.le_of_ble_eq_true rfl, Nat.le_of_ble_eq_true rfl⟩, Nat.le_of_ble_eq_true rfl, Nat.le_of_ble_eq_true rfl⟩ dX5_begs_59 (fun E ce q9 f24 H locs hPX hw hS hce hcv hcl => ?_) (fun v f24 H locs hP hw hS => ?_)
            · exact hPX.elim
            · obtain ⟨ev9, ef9⟩ := hP
              rw [ef9] at hw
              subst ev9
              refine W.eq (g2 := F0 m 62 ls [.int 161051, .int 0]) rfl ?_
              refine lv_aload_n hx hb dX5_begs_62 rfl (lv_at hl9 2 rfl) ?_
              refine hp_get B0 hw 5 rfl in_X5 h15 3 (by decide) qF_X5_16 rfl dX5_begs_63 ?_
              refine lv_bipush (v := 6) hx hb dX5_begs_66 (by decide) ?_
              refine lv_iload_n hx hb dX5_begs_68 rfl (lv_at hl9 3 rfl) ?_
              refine lv_imul hx hb dX5_begs_69 ?_
              refine hp_c (v := 0) (by decide) ?_
              refine lv_iload_n hx hb dX5_begs_70 rfl (lv_at hl9 0 rfl) ?_
              refine lv_iadd hx hb dX5_begs_71 ?_
              refine hp_c (v := 5) (by decide) ?_
              refine hp_iald B0 hw h19 (by unfold vp_in; decide) dX5_begs_72 ?_
              refine hp_c (v := (-1)) (rfl) ?_
              refine lv_iconst (v := 1) hx hb dX5_begs_73 (by decide) ?_
              refine lv_iadd hx hb dX5_begs_74 ?_
              refine hp_c (v := 0) (by decide) ?_
              refine lv_imul hx hb dX5_begs_75 ?_
              refine hp_c (v := 0) (by decide) ?_
              refine lv_iadd hx hb dX5_begs_76 ?_
              refine hp_c (v := 0) (by decide) ?_
              refine lv_istore_n (lv' := [(2, .int 0), (3, .int 5), (0, .ref mo), (1, .int 0)]) hx hb dX5_begs_77 rfl hl9 (by decide) rfl (fun ls hl9 => ?_)
              refine lv_iinc (v := 6) (lv' := [(3, .int 6), (2, .int 0), (0, .ref mo), (1, .int 0)]) hx hb dX5_begs_78 hl9 (k := 1) rfl (by decide) (by decide) rfl (fun ls hl9 => ?_)
              refine lv_goto (tgt := 51) hx hb dX5_begs_81 (by decide) ?_
              refine lv_iload_n hx hb dX5_begs_51 rfl (lv_at hl9 0 rfl) ?_
              refine lv_bipush (v := 6) hx hb dX5_begs_52 (by decide) ?_
              refine lv_icmp_ge (tgt := 84) hx hb dX5_begs_54 (by decide) (fun _ => ?_) (fun c9 => absurd (by decide) c9)
              refine lv_aload_n hx hb dX5_begs_84 rfl (lv_at hl9 2 rfl) ?_
              refine lv_iload_n hx hb dX5_begs_85 rfl (lv_at hl9 3 rfl) ?_
              refine lv_iconst (v := 0) hx hb dX5_begs_86 (by decide) ?_
              refine lv_aload_n hx hb dX5_begs_87 rfl (lv_at hl9 2 rfl) ?_
              refine hp_get B0 hw 5 rfl in_X5 h15 6 (by decide) qF_X5_25 rfl dX5_begs_88 ?_
              refine lv_iload_n hx hb dX5_begs_91 rfl (lv_at hl9 3 rfl) ?_
              have h25 : f6 dL = some (.inl (cI G, 2, .inl (upd (mA2 (-1) (-1)) (0 : Int32).toNatClampNeg 0))) := by rw [ef6, va_up_ne _ _ nd_dL_dR]; exact h2
              have h26 : f12 dL = some (.inl (cI G, 2, .inl (upd (mA2 (-1) (-1)) (0 : Int32).toNatClampNeg 0))) := by rw [ef12, va_up_ne _ _ nd_dL_dT]; exact h25
              refine hp_iald B0 hw h26 (by unfold vp_in; decide) dX5_begs_92 ?_
              refine hp_c (v := 0) (rfl) ?_
              refine lv_iload_n hx hb dX5_begs_93 rfl (lv_at hl9 1 rfl) ?_
              have h27 : f1 dM = some (.inl (cI G, 2, .inl (mA2 1 2))) := by rw [ef1, va_up_ne _ _ (Ne.symm nd_dL_dM)]; exact k_dM
              have h28 : f6 dM = some (.inl (cI G, 2, .inl (mA2 1 2))) := by rw [ef6, va_up_ne _ _ nd_dM_dR]; exact h27
              have h29 : f12 dM = some (.inl (cI G, 2, .inl (mA2 1 2))) := by rw [ef12, va_up_ne _ _ nd_dM_dT]; exact h28
              have h30 : f1 dH = some (.inl (cI G, 2, .inl (fun _ => 0))) := by rw [ef1, va_up_ne _ _ nd_dH_dL]; exact k_dH
              have h31 : f6 dH = some (.inl (cI G, 2, .inl (fun _ => 0))) := by rw [ef6, va_up_ne _ _ nd_dH_dR]; exact h30
              have h32 : f12 dH = some (.inl (cI G, 2, .inl (fun _ => 0))) := by rw [ef12, va_up_ne _ _ nd_dH_dT]; exact h31
              have h33 : f1 dN = some (.inl (cI G, 2, .inl (fun _ => 0))) := by rw [ef1, va_up_ne _ _ (Ne.symm nd_dL_dN)]; exact k_dN
              have h34 : f6 dN = some (.inl (cI G, 2, .inl (fun _ => 0))) := by rw [ef6, va_up_ne _ _ nd_dN_dR]; exact h33
              have h35 : f12 dN = some (.inl (cI G, 2, .inl (fun _ => 0))) := by rw [ef12, va_up_ne _ _ nd_dN_dT]; exact h34
              have h36 : f1 dK = some (.inl (cI G, 2048, .inl (fun _ => 0))) := by rw [ef1, va_up_ne _ _ nd_dK_dL]; exact k_dK
              have h37 : f6 dK = some (.inl (cI G, 2048, .inl (fun _ => 0))) := by rw [ef6, va_up_ne _ _ nd_dK_dR]; exact h36
              have h38 : f12 dK = some (.inl (cI G, 2048, .inl (fun _ => 0))) := by rw [ef12, va_up_ne _ _ nd_dK_dT]; exact h37
              have h39 : f1 dJ = some (.inl (cI G, 2048, .inl (fun _ => 0))) := by rw [ef1, va_up_ne _ _ nd_dJ_dL]; exact k_dJ
              have h40 : f6 dJ = some (.inl (cI G, 2048, .inl (fun _ => 0))) := by rw [ef6, va_up_ne _ _ nd_dJ_dR]; exact h39
              have h41 : f12 dJ = some (.inl (cI G, 2048, .inl (fun _ => 0))) := by rw [ef12, va_up_ne _ _ nd_dJ_dT]; exact h40
              have h42 : f1 dU = some (.inl (cI G, 2048, .inl (fun _ => 0))) := by rw [ef1, va_up_ne _ _ (Ne.symm nd_dL_dU)]; exact k_dU
              have h43 : f6 dU = some (.inl (cI G, 2048, .inl (fun _ => 0))) := by rw [ef6, va_up_ne _ _ (Ne.symm nd_dR_dU)]; exact h42
              have h44 : f12 dU = some (.inl (cI G, 2048, .inl (fun _ => 0))) := by rw [ef12, va_up_ne _ _ (Ne.symm nd_dT_dU)]; exact h43
              have h45 : f1 dO = some (.inl (cI G, 2048, .inl (fun _ => 0))) := by rw [ef1, va_up_ne _ _ (Ne.symm nd_dL_dO)]; exact k_dO
              have h46 : f6 dO = some (.inl (cI G, 2048, .inl (fun _ => 0))) := by rw [ef6, va_up_ne _ _ nd_dO_dR]; exact h45
              have h47 : f12 dO = some (.inl (cI G, 2048, .inl (fun _ => 0))) := by rw [ef12, va_up_ne _ _ nd_dO_dT]; exact h46
              refine hp_V (ci := 5) (As := [.int 0, .int 0, .int 0, .int 0]) (rest := []) B0 hw hS (c_X5_sends0 hl G f12 mo dW dA dQ dM dS dL dR dT dZ dI dH dN dK dJ dU dO dF dP dE dX dY dG th h15 h29 h32 h35 h38 h41 h44 h47 nd_dH_dJ nd_dH_dK nd_dH_dM nd_dH_dN nd_dH_dO nd_dH_dU nd_dJ_dK nd_dJ_dM nd_dJ_dN nd_dJ_dO nd_dJ_dU nd_dK_dM nd_dK_dN nd_dK_dO nd_dK_dU nd_dM_dN nd_dM_dO nd_dM_dU nd_dN_dO nd_dN_dU nd_dO_dU) mV_X5_sends qM_X5_96 rfl h15 rfl rfl hl9.1 (Nat.le_of_ble_eq_true rfl) ⟨⟨Nat.le_of_ble_eq_true rfl, Nat.le_of_ble_eq_true rfl⟩, Nat.le_of_ble_eq_true rfl, Nat.le_of_ble_eq_true rfl⟩ dX5_begs_94 (fun E ce q9 f48 H locs hPX hw hS hce hcv hcl => ?_) (fun v f48 H locs hP hw hS => ?_)
              · exact hPX.elim
              · obtain ⟨ev9, k49⟩ := hP
                subst ev9
                refine W.eq (g2 := F0 m 97 ls []) rfl ?_
                refine lv_iconst (v := 1) hx hb dX5_begs_97 (by decide) ?_
                have h50 : f48 dL = some (.inl (cI G, 2, .inl (upd (mA2 (-1) (-1)) (0 : Int32).toNatClampNeg 0))) := k49 _ _ h26 (ninc (Ne.symm nd_dK_dL) (ninc (Ne.symm nd_dJ_dL) (ninc nd_dL_dU (ninc nd_dL_dO (ninc nd_dL_dN nin0)))))
                exact hp_zret (v := 1) B0 hw hS hr ⟨Nat.le_of_ble_eq_true rfl, Nat.le_of_ble_eq_true rfl⟩ (rfl) dX5_begs_98 (⟨rfl, h50, ((show hKeep [dL, dR, dT, dK, dJ, dU, dO, dN] f f1 from (by rw [ef1]; exact hKeep.up (by simp))).tr ((show hKeep [dL, dR, dT, dK, dJ, dU, dO, dN] f1 f6 from (by rw [ef6]; exact hKeep.up (by simp))).tr ((show hKeep [dL, dR, dT, dK, dJ, dU, dO, dN] f6 f12 from (by rw [ef12]; exact hKeep.up (by simp))).tr (show hKeep [dL, dR, dT, dK, dJ, dU, dO, dN] f12 f48 from (k49.mono (fun x9 hx9 => by simp only [List.mem_cons, List.not_mem_nil, or_false] at hx9 ⊢; omega))))))⟩)

set_option maxHeartbeats 4000000 in
set_option maxRecDepth 100000 in
theorem c_X5_begs1 {l : Launch} (hl : l.stackTraces = false) (G : hG) (f : hM) (mo dW dA dQ dM dS dL dR dT dZ dI dH dN dK dJ dU dO dF dP dE dX dY dG : Nat) (th : Int32) (k_mo : f mo = some (.inr (5, [.int th, .ref dW, .ref dA, .ref dQ, .ref dM, .ref dS, .ref dL, .ref dR, .ref dT, .ref dZ, .ref dI, .ref dH, .ref dN, .ref dK, .ref dJ, .ref dU, .ref dO, .int 0, .int 0, .ref dF, .ref dP, .ref dE, .ref dX, .ref dY, .int 0, .int 0, .ref dG]))) (k_dR : f dR = some (.inl (cI G, 2, .inl (upd (fun _ => 0) (1 : Int32).toNatClampNeg 0)))) (k_dL : f dL = some (.inl (cI G, 2, .inl (mA2 (-1) (-1))))) (k_dT : f dT = some (.inl (cI G, 2, .inl (fun _ => 0)))) (k_dQ : f dQ = some (.inl (cI G, 12, .inl (upd (upd (upd (upd (upd (upd mA12 (6 : Int32).toNatClampNeg (-1)) (7 : Int32).toNatClampNeg (-1)) (8 : Int32).toNatClampNeg (-1)) (9 : Int32).toNatClampNeg (-1)) (10 : Int32).toNatClampNeg (-1)) (11 : Int32).toNatClampNeg (-1))))) (k_dM : f dM = some (.inl (cI G, 2, .inl (mA2 1 2)))) (k_dH : f dH = some (.inl (cI G, 2, .inl (fun _ => 0)))) (k_dN : f dN = some (.inl (cI G, 2, .inl (fun _ => 0)))) (k_dK : f dK = some (.inl (cI G, 2048, .inl (fun _ => 0)))) (k_dJ : f dJ = some (.inl (cI G, 2048, .inl (fun _ => 0)))) (k_dU : f dU = some (.inl (cI G, 2048, .inl (fun _ => 0)))) (k_dO : f dO = some (.inl (cI G, 2048, .inl (fun _ => 0)))) (nd_dH_dJ : dH ≠ dJ) (nd_dH_dK : dH ≠ dK) (nd_dH_dL : dH ≠ dL) (nd_dH_dM : dH ≠ dM) (nd_dH_dN : dH ≠ dN) (nd_dH_dO : dH ≠ dO) (nd_dH_dQ : dH ≠ dQ) (nd_dH_dR : dH ≠ dR) (nd_dH_dT : dH ≠ dT) (nd_dH_dU : dH ≠ dU) (nd_dJ_dK : dJ ≠ dK) (nd_dJ_dL : dJ ≠ dL) (nd_dJ_dM : dJ ≠ dM) (nd_dJ_dN : dJ ≠ dN) (nd_dJ_dO : dJ ≠ dO) (nd_dJ_dQ : dJ ≠ dQ) (nd_dJ_dR : dJ ≠ dR) (nd_dJ_dT : dJ ≠ dT) (nd_dJ_dU : dJ ≠ dU) (nd_dK_dL : dK ≠ dL) (nd_dK_dM : dK ≠ dM) (nd_dK_dN : dK ≠ dN) (nd_dK_dO : dK ≠ dO) (nd_dK_dQ : dK ≠ dQ) (nd_dK_dR : dK ≠ dR) (nd_dK_dT : dK ≠ dT) (nd_dK_dU : dK ≠ dU) (nd_dL_dM : dL ≠ dM) (nd_dL_dN : dL ≠ dN) (nd_dL_dO : dL ≠ dO) (nd_dL_dQ : dL ≠ dQ) (nd_dL_dR : dL ≠ dR) (nd_dL_dT : dL ≠ dT) (nd_dL_dU : dL ≠ dU) (nd_dM_dN : dM ≠ dN) (nd_dM_dO : dM ≠ dO) (nd_dM_dQ : dM ≠ dQ) (nd_dM_dR : dM ≠ dR) (nd_dM_dT : dM ≠ dT) (nd_dM_dU : dM ≠ dU) (nd_dN_dO : dN ≠ dO) (nd_dN_dQ : dN ≠ dQ) (nd_dN_dR : dN ≠ dR) (nd_dN_dT : dN ≠ dT) (nd_dN_dU : dN ≠ dU) (nd_dO_dQ : dO ≠ dQ) (nd_dO_dR : dO ≠ dR) (nd_dO_dT : dO ≠ dT) (nd_dO_dU : dO ≠ dU) (nd_dQ_dR : dQ ≠ dR) (nd_dQ_dT : dQ ≠ dT) (nd_dQ_dU : dQ ≠ dU) (nd_dR_dT : dR ≠ dT) (nd_dR_dU : dR ≠ dU) (nd_dT_dU : dT ≠ dU) : CT l yX5_begs (.code yX5_begs cX5_begs 4 (some .boolean)) 1 25 0 0 G [.ref mo, .int 1] f (fun v f1 => v = some (.int 1) ∧ f1 dL = some (.inl (cI G, 2, .inl (upd (mA2 (-1) (-1)) (1 : Int32).toNatClampNeg 0))) ∧ hKeep [dL, dR, dT, dK, dJ, dU, dO, dN] f f1) (fun E f1 => False) := by
  refine hp_start hl (own := RX5) (by decide) rfl (Nat.le_of_ble_eq_true rfl) ?_
  intro p e s m args below meth c B0 hr hnm hout hw hS ls hl9
  have hx := B0.1
  have hb := B0.2.1
  have hl9 : lv_has ls 4 [(0, .ref mo), (1, .int 1)] := hl9
  refine lv_aload_n hx hb dX5_begs_0 rfl (lv_at hl9 0 rfl) ?_
  refine hp_get B0 hw 5 rfl in_X5 k_mo 7 (by decide) qF_X5_28 rfl dX5_begs_1 ?_
  refine lv_iload_n hx hb dX5_begs_4 rfl (lv_at hl9 1 rfl) ?_
  refine hp_iald B0 hw k_dR (by unfold vp_in; decide) dX5_begs_5 ?_
  refine hp_c (v := 0) (rfl) ?_
  refine lv_bipush (v := 10) hx hb dX5_begs_6 (by decide) ?_
  refine lv_icmp_ne (tgt := 20) hx hb dX5_begs_8 (by decide) (fun _ => ?_) (fun c9 => absurd c9 (by decide))
  refine lv_aload_n hx hb dX5_begs_20 rfl (lv_at hl9 0 rfl) ?_
  refine hp_get B0 hw 5 rfl in_X5 k_mo 6 (by decide) qF_X5_25 rfl dX5_begs_21 ?_
  refine lv_iload_n hx hb dX5_begs_24 rfl (lv_at hl9 1 rfl) ?_
  refine lv_dup2_11 hx hb dX5_begs_25 rfl rfl ?_
  refine hp_iald B0 hw k_dL (by unfold vp_in; decide) dX5_begs_26 ?_
  refine hp_c (v := (-1)) (rfl) ?_
  refine lv_iconst (v := 1) hx hb dX5_begs_27 (by decide) ?_
  refine lv_iadd hx hb dX5_begs_28 ?_
  refine hp_c (v := 0) (by decide) ?_
  refine hp_iast B0 hw hS k_dL (by unfold vp_in; decide) dX5_begs_29 (fun H locs f1 ef1 hw hS => ?_)
  have h2 : f1 dL = some (.inl (cI G, 2, .inl (upd (mA2 (-1) (-1)) (1 : Int32).toNatClampNeg 0))) := by rw [ef1, va_up_self]
  refine lv_aload_n hx hb dX5_begs_30 rfl (lv_at hl9 0 rfl) ?_
  have n4 : mo ≠ dL := hne k_mo k_dL (Nat.ne_of_beq_eq_false rfl)
  have h3 : f1 mo = some (.inr (5, [.int th, .ref dW, .ref dA, .ref dQ, .ref dM, .ref dS, .ref dL, .ref dR, .ref dT, .ref dZ, .ref dI, .ref dH, .ref dN, .ref dK, .ref dJ, .ref dU, .ref dO, .int 0, .int 0, .ref dF, .ref dP, .ref dE, .ref dX, .ref dY, .int 0, .int 0, .ref dG])) := by rw [ef1, va_up_ne _ _ n4]; exact k_mo
  refine hp_get B0 hw 5 rfl in_X5 h3 7 (by decide) qF_X5_28 rfl dX5_begs_31 ?_
  refine lv_iload_n hx hb dX5_begs_34 rfl (lv_at hl9 1 rfl) ?_
  refine lv_dup2_11 hx hb dX5_begs_35 rfl rfl ?_
  have h5 : f1 dR = some (.inl (cI G, 2, .inl (upd (fun _ => 0) (1 : Int32).toNatClampNeg 0))) := by rw [ef1, va_up_ne _ _ (Ne.symm nd_dL_dR)]; exact k_dR
  refine hp_iald B0 hw h5 (by unfold vp_in; decide) dX5_begs_36 ?_
  refine hp_c (v := 0) (rfl) ?_
  refine lv_iconst (v := 1) hx hb dX5_begs_37 (by decide) ?_
  refine lv_iadd hx hb dX5_begs_38 ?_
  refine hp_c (v := 1) (by decide) ?_
  refine hp_iast B0 hw hS h5 (by unfold vp_in; decide) dX5_begs_39 (fun H locs f6 ef6 hw hS => ?_)
  have h7 : f6 dR = some (.inl (cI G, 2, .inl (upd (upd (fun _ => 0) (1 : Int32).toNatClampNeg 0) (1 : Int32).toNatClampNeg 1))) := by rw [ef6, va_up_self]
  refine lv_aload_n hx hb dX5_begs_40 rfl (lv_at hl9 0 rfl) ?_
  have n9 : mo ≠ dR := hne k_mo k_dR (Nat.ne_of_beq_eq_false rfl)
  have h8 : f6 mo = some (.inr (5, [.int th, .ref dW, .ref dA, .ref dQ, .ref dM, .ref dS, .ref dL, .ref dR, .ref dT, .ref dZ, .ref dI, .ref dH, .ref dN, .ref dK, .ref dJ, .ref dU, .ref dO, .int 0, .int 0, .ref dF, .ref dP, .ref dE, .ref dX, .ref dY, .int 0, .int 0, .ref dG])) := by rw [ef6, va_up_ne _ _ n9]; exact h3
  refine hp_get B0 hw 5 rfl in_X5 h8 8 (by decide) qF_X5_31 rfl dX5_begs_41 ?_
  refine lv_iload_n hx hb dX5_begs_44 rfl (lv_at hl9 1 rfl) ?_
  refine lv_iconst (v := 3) hx hb dX5_begs_45 (by decide) ?_
  have h10 : f1 dT = some (.inl (cI G, 2, .inl (fun _ => 0))) := by rw [ef1, va_up_ne _ _ (Ne.symm nd_dL_dT)]; exact k_dT
  have h11 : f6 dT = some (.inl (cI G, 2, .inl (fun _ => 0))) := by rw [ef6, va_up_ne _ _ (Ne.symm nd_dR_dT)]; exact h10
  refine hp_iast B0 hw hS h11 (by unfold vp_in; decide) dX5_begs_46 (fun H locs f12 ef12 hw hS => ?_)
  have h13 : f12 dT = some (.inl (cI G, 2, .inl (upd (fun _ => 0) (1 : Int32).toNatClampNeg 3))) := by rw [ef12, va_up_self]
  refine lv_iconst (v := 0) hx hb dX5_begs_47 (by decide) ?_
  refine lv_istore_n (lv' := [(2, .int 0), (0, .ref mo), (1, .int 1)]) hx hb dX5_begs_48 rfl hl9 (by decide) rfl (fun ls hl9 => ?_)
  refine lv_iconst (v := 0) hx hb dX5_begs_49 (by decide) ?_
  refine lv_istore_n (lv' := [(3, .int 0), (2, .int 0), (0, .ref mo), (1, .int 1)]) hx hb dX5_begs_50 rfl hl9 (by decide) rfl (fun ls hl9 => ?_)
  refine lv_iload_n hx hb dX5_begs_51 rfl (lv_at hl9 0 rfl) ?_
  refine lv_bipush (v := 6) hx hb dX5_begs_52 (by decide) ?_
  refine lv_icmp_ge (tgt := 84) hx hb dX5_begs_54 (by decide) (fun c9 => absurd c9 (by decide)) (fun _ => ?_)
  refine lv_iload_n hx hb dX5_begs_57 rfl (lv_at hl9 1 rfl) ?_
  refine lv_iload_n hx hb dX5_begs_58 rfl (lv_at hl9 0 rfl) ?_
  refine hp_S (As := [.int 0]) (rest := [.int 0]) B0 hw hS (c_X5_place0 hl G f12) mS_X5_place qM_X5_92 rfl rfl hl9.1 (Nat.le_of_ble_eq_true rfl) ⟨⟨Nat.le_of_ble_eq_true rfl, Nat.le_of_ble_eq_true rfl⟩, Nat.le_of_ble_eq_true rfl, Nat.le_of_ble_eq_true rfl⟩ dX5_begs_59 (fun E ce q9 f14 H locs hPX hw hS hce hcv hcl => ?_) (fun v f14 H locs hP hw hS => ?_)
  · exact hPX.elim
  · obtain ⟨ev9, ef9⟩ := hP
    rw [ef9] at hw
    subst ev9
    refine W.eq (g2 := F0 m 62 ls [.int 1, .int 0]) rfl ?_
    refine lv_aload_n hx hb dX5_begs_62 rfl (lv_at hl9 2 rfl) ?_
    have n16 : mo ≠ dT := hne k_mo k_dT (Nat.ne_of_beq_eq_false rfl)
    have h15 : f12 mo = some (.inr (5, [.int th, .ref dW, .ref dA, .ref dQ, .ref dM, .ref dS, .ref dL, .ref dR, .ref dT, .ref dZ, .ref dI, .ref dH, .ref dN, .ref dK, .ref dJ, .ref dU, .ref dO, .int 0, .int 0, .ref dF, .ref dP, .ref dE, .ref dX, .ref dY, .int 0, .int 0, .ref dG])) := by rw [ef12, va_up_ne _ _ n16]; exact h8
    refine hp_get B0 hw 5 rfl in_X5 h15 3 (by decide) qF_X5_16 rfl dX5_begs_63 ?_
    refine lv_bipush (v := 6) hx hb dX5_begs_66 (by decide) ?_
    refine lv_iload_n hx hb dX5_begs_68 rfl (lv_at hl9 3 rfl) ?_
    refine lv_imul hx hb dX5_begs_69 ?_
    refine hp_c (v := 6) (by decide) ?_
    refine lv_iload_n hx hb dX5_begs_70 rfl (lv_at hl9 0 rfl) ?_
    refine lv_iadd hx hb dX5_begs_71 ?_
    refine hp_c (v := 6) (by decide) ?_
    have h17 : f1 dQ = some (.inl (cI G, 12, .inl (upd (upd (upd (upd (upd (upd mA12 (6 : Int32).toNatClampNeg (-1)) (7 : Int32).toNatClampNeg (-1)) (8 : Int32).toNatClampNeg (-1)) (9 : Int32).toNatClampNeg (-1)) (10 : Int32).toNatClampNeg (-1)) (11 : Int32).toNatClampNeg (-1)))) := by rw [ef1, va_up_ne _ _ (Ne.symm nd_dL_dQ)]; exact k_dQ
    have h18 : f6 dQ = some (.inl (cI G, 12, .inl (upd (upd (upd (upd (upd (upd mA12 (6 : Int32).toNatClampNeg (-1)) (7 : Int32).toNatClampNeg (-1)) (8 : Int32).toNatClampNeg (-1)) (9 : Int32).toNatClampNeg (-1)) (10 : Int32).toNatClampNeg (-1)) (11 : Int32).toNatClampNeg (-1)))) := by rw [ef6, va_up_ne _ _ nd_dQ_dR]; exact h17
    have h19 : f12 dQ = some (.inl (cI G, 12, .inl (upd (upd (upd (upd (upd (upd mA12 (6 : Int32).toNatClampNeg (-1)) (7 : Int32).toNatClampNeg (-1)) (8 : Int32).toNatClampNeg (-1)) (9 : Int32).toNatClampNeg (-1)) (10 : Int32).toNatClampNeg (-1)) (11 : Int32).toNatClampNeg (-1)))) := by rw [ef12, va_up_ne _ _ nd_dQ_dT]; exact h18
    refine hp_iald B0 hw h19 (by unfold vp_in; decide) dX5_begs_72 ?_
    refine hp_c (v := (-1)) (rfl) ?_
    refine lv_iconst (v := 1) hx hb dX5_begs_73 (by decide) ?_
    refine lv_iadd hx hb dX5_begs_74 ?_
    refine hp_c (v := 0) (by decide) ?_
    refine lv_imul hx hb dX5_begs_75 ?_
    refine hp_c (v := 0) (by decide) ?_
    refine lv_iadd hx hb dX5_begs_76 ?_
    refine hp_c (v := 0) (by decide) ?_
    refine lv_istore_n (lv' := [(2, .int 0), (3, .int 0), (0, .ref mo), (1, .int 1)]) hx hb dX5_begs_77 rfl hl9 (by decide) rfl (fun ls hl9 => ?_)
    refine lv_iinc (v := 1) (lv' := [(3, .int 1), (2, .int 0), (0, .ref mo), (1, .int 1)]) hx hb dX5_begs_78 hl9 (k := 1) rfl (by decide) (by decide) rfl (fun ls hl9 => ?_)
    refine lv_goto (tgt := 51) hx hb dX5_begs_81 (by decide) ?_
    refine lv_iload_n hx hb dX5_begs_51 rfl (lv_at hl9 0 rfl) ?_
    refine lv_bipush (v := 6) hx hb dX5_begs_52 (by decide) ?_
    refine lv_icmp_ge (tgt := 84) hx hb dX5_begs_54 (by decide) (fun c9 => absurd c9 (by decide)) (fun _ => ?_)
    refine lv_iload_n hx hb dX5_begs_57 rfl (lv_at hl9 1 rfl) ?_
    refine lv_iload_n hx hb dX5_begs_58 rfl (lv_at hl9 0 rfl) ?_
    refine hp_S (As := [.int 1]) (rest := [.int 0]) B0 hw hS (c_X5_place1 hl G f12) mS_X5_place qM_X5_92 rfl rfl hl9.1 (Nat.le_of_ble_eq_true rfl) ⟨⟨Nat.le_of_ble_eq_true rfl, Nat.le_of_ble_eq_true rfl⟩, Nat.le_of_ble_eq_true rfl, Nat.le_of_ble_eq_true rfl⟩ dX5_begs_59 (fun E ce q9 f20 H locs hPX hw hS hce hcv hcl => ?_) (fun v f20 H locs hP hw hS => ?_)
    · exact hPX.elim
    · obtain ⟨ev9, ef9⟩ := hP
      rw [ef9] at hw
      subst ev9
      refine W.eq (g2 := F0 m 62 ls [.int 11, .int 0]) rfl ?_
      refine lv_aload_n hx hb dX5_begs_62 rfl (lv_at hl9 2 rfl) ?_
      refine hp_get B0 hw 5 rfl in_X5 h15 3 (by decide) qF_X5_16 rfl dX5_begs_63 ?_
      refine lv_bipush (v := 6) hx hb dX5_begs_66 (by decide) ?_
      refine lv_iload_n hx hb dX5_begs_68 rfl (lv_at hl9 3 rfl) ?_
      refine lv_imul hx hb dX5_begs_69 ?_
      refine hp_c (v := 6) (by decide) ?_
      refine lv_iload_n hx hb dX5_begs_70 rfl (lv_at hl9 0 rfl) ?_
      refine lv_iadd hx hb dX5_begs_71 ?_
      refine hp_c (v := 7) (by decide) ?_
      refine hp_iald B0 hw h19 (by unfold vp_in; decide) dX5_begs_72 ?_
      refine hp_c (v := (-1)) (rfl) ?_
      refine lv_iconst (v := 1) hx hb dX5_begs_73 (by decide) ?_
      refine lv_iadd hx hb dX5_begs_74 ?_
      refine hp_c (v := 0) (by decide) ?_
      refine lv_imul hx hb dX5_begs_75 ?_
      refine hp_c (v := 0) (by decide) ?_
      refine lv_iadd hx hb dX5_begs_76 ?_
      refine hp_c (v := 0) (by decide) ?_
      refine lv_istore_n (lv' := [(2, .int 0), (3, .int 1), (0, .ref mo), (1, .int 1)]) hx hb dX5_begs_77 rfl hl9 (by decide) rfl (fun ls hl9 => ?_)
      refine lv_iinc (v := 2) (lv' := [(3, .int 2), (2, .int 0), (0, .ref mo), (1, .int 1)]) hx hb dX5_begs_78 hl9 (k := 1) rfl (by decide) (by decide) rfl (fun ls hl9 => ?_)
      refine lv_goto (tgt := 51) hx hb dX5_begs_81 (by decide) ?_
      refine lv_iload_n hx hb dX5_begs_51 rfl (lv_at hl9 0 rfl) ?_
      refine lv_bipush (v := 6) hx hb dX5_begs_52 (by decide) ?_
      refine lv_icmp_ge (tgt := 84) hx hb dX5_begs_54 (by decide) (fun c9 => absurd c9 (by decide)) (fun _ => ?_)
      refine lv_iload_n hx hb dX5_begs_57 rfl (lv_at hl9 1 rfl) ?_
      refine lv_iload_n hx hb dX5_begs_58 rfl (lv_at hl9 0 rfl) ?_
      refine hp_S (As := [.int 2]) (rest := [.int 0]) B0 hw hS (c_X5_place2 hl G f12) mS_X5_place qM_X5_92 rfl rfl hl9.1 (Nat.le_of_ble_eq_true rfl) ⟨⟨Nat.le_of_ble_eq_true rfl, Nat.le_of_ble_eq_true rfl⟩, Nat.le_of_ble_eq_true rfl, Nat.le_of_ble_eq_true rfl⟩ dX5_begs_59 (fun E ce q9 f21 H locs hPX hw hS hce hcv hcl => ?_) (fun v f21 H locs hP hw hS => ?_)
      · exact hPX.elim
      · obtain ⟨ev9, ef9⟩ := hP
        rw [ef9] at hw
        subst ev9
        refine W.eq (g2 := F0 m 62 ls [.int 121, .int 0]) rfl ?_
        refine lv_aload_n hx hb dX5_begs_62 rfl (lv_at hl9 2 rfl) ?_
        refine hp_get B0 hw 5 rfl in_X5 h15 3 (by decide) qF_X5_16 rfl dX5_begs_63 ?_
        refine lv_bipush (v := 6) hx hb dX5_begs_66 (by decide) ?_
        refine lv_iload_n hx hb dX5_begs_68 rfl (lv_at hl9 3 rfl) ?_
        refine lv_imul hx hb dX5_begs_69 ?_
        refine hp_c (v := 6) (by decide) ?_
        refine lv_iload_n hx hb dX5_begs_70 rfl (lv_at hl9 0 rfl) ?_
        refine lv_iadd hx hb dX5_begs_71 ?_
        refine hp_c (v := 8) (by decide) ?_
        refine hp_iald B0 hw h19 (by unfold vp_in; decide) dX5_begs_72 ?_
        refine hp_c (v := (-1)) (rfl) ?_
        refine lv_iconst (v := 1) hx hb dX5_begs_73 (by decide) ?_
        refine lv_iadd hx hb dX5_begs_74 ?_
        refine hp_c (v := 0) (by decide) ?_
        refine lv_imul hx hb dX5_begs_75 ?_
        refine hp_c (v := 0) (by decide) ?_
        refine lv_iadd hx hb dX5_begs_76 ?_
        refine hp_c (v := 0) (by decide) ?_
        refine lv_istore_n (lv' := [(2, .int 0), (3, .int 2), (0, .ref mo), (1, .int 1)]) hx hb dX5_begs_77 rfl hl9 (by decide) rfl (fun ls hl9 => ?_)
        refine lv_iinc (v := 3) (lv' := [(3, .int 3), (2, .int 0), (0, .ref mo), (1, .int 1)]) hx hb dX5_begs_78 hl9 (k := 1) rfl (by decide) (by decide) rfl (fun ls hl9 => ?_)
        refine lv_goto (tgt := 51) hx hb dX5_begs_81 (by decide) ?_
        refine lv_iload_n hx hb dX5_begs_51 rfl (lv_at hl9 0 rfl) ?_
        refine lv_bipush (v := 6) hx hb dX5_begs_52 (by decide) ?_
        refine lv_icmp_ge (tgt := 84) hx hb dX5_begs_54 (by decide) (fun c9 => absurd c9 (by decide)) (fun _ => ?_)
        refine lv_iload_n hx hb dX5_begs_57 rfl (lv_at hl9 1 rfl) ?_
        refine lv_iload_n hx hb dX5_begs_58 rfl (lv_at hl9 0 rfl) ?_
        refine hp_S (As := [.int 3]) (rest := [.int 0]) B0 hw hS (c_X5_place3 hl G f12) mS_X5_place qM_X5_92 rfl rfl hl9.1 (Nat.le_of_ble_eq_true rfl) ⟨⟨Nat.le_of_ble_eq_true rfl, Nat.le_of_ble_eq_true rfl⟩, Nat.le_of_ble_eq_true rfl, Nat.le_of_ble_eq_true rfl⟩ dX5_begs_59 (fun E ce q9 f22 H locs hPX hw hS hce hcv hcl => ?_) (fun v f22 H locs hP hw hS => ?_)
        · exact hPX.elim
        · obtain ⟨ev9, ef9⟩ := hP
          rw [ef9] at hw
          subst ev9
          refine W.eq (g2 := F0 m 62 ls [.int 1331, .int 0]) rfl ?_
          refine lv_aload_n hx hb dX5_begs_62 rfl (lv_at hl9 2 rfl) ?_
          refine hp_get B0 hw 5 rfl in_X5 h15 3 (by decide) qF_X5_16 rfl dX5_begs_63 ?_
          refine lv_bipush (v := 6) hx hb dX5_begs_66 (by decide) ?_
          refine lv_iload_n hx hb dX5_begs_68 rfl (lv_at hl9 3 rfl) ?_
          refine lv_imul hx hb dX5_begs_69 ?_
          refine hp_c (v := 6) (by decide) ?_
          refine lv_iload_n hx hb dX5_begs_70 rfl (lv_at hl9 0 rfl) ?_
          refine lv_iadd hx hb dX5_begs_71 ?_
          refine hp_c (v := 9) (by decide) ?_
          refine hp_iald B0 hw h19 (by unfold vp_in; decide) dX5_begs_72 ?_
          refine hp_c (v := (-1)) (rfl) ?_
          refine lv_iconst (v := 1) hx hb dX5_begs_73 (by decide) ?_
          refine lv_iadd hx hb dX5_begs_74 ?_
          refine hp_c (v := 0) (by decide) ?_
          refine lv_imul hx hb dX5_begs_75 ?_
          refine hp_c (v := 0) (by decide) ?_
          refine lv_iadd hx hb dX5_begs_76 ?_
          refine hp_c (v := 0) (by decide) ?_
          refine lv_istore_n (lv' := [(2, .int 0), (3, .int 3), (0, .ref mo), (1, .int 1)]) hx hb dX5_begs_77 rfl hl9 (by decide) rfl (fun ls hl9 => ?_)
          refine lv_iinc (v := 4) (lv' := [(3, .int 4), (2, .int 0), (0, .ref mo), (1, .int 1)]) hx hb dX5_begs_78 hl9 (k := 1) rfl (by decide) (by decide) rfl (fun ls hl9 => ?_)
          refine lv_goto (tgt := 51) hx hb dX5_begs_81 (by decide) ?_
          refine lv_iload_n hx hb dX5_begs_51 rfl (lv_at hl9 0 rfl) ?_
          refine lv_bipush (v := 6) hx hb dX5_begs_52 (by decide) ?_
          refine lv_icmp_ge (tgt := 84) hx hb dX5_begs_54 (by decide) (fun c9 => absurd c9 (by decide)) (fun _ => ?_)
          refine lv_iload_n hx hb dX5_begs_57 rfl (lv_at hl9 1 rfl) ?_
          refine lv_iload_n hx hb dX5_begs_58 rfl (lv_at hl9 0 rfl) ?_
          refine hp_S (As := [.int 4]) (rest := [.int 0]) B0 hw hS (c_X5_place4 hl G f12) mS_X5_place qM_X5_92 rfl rfl hl9.1 (Nat.le_of_ble_eq_true rfl) ⟨⟨Nat.le_of_ble_eq_true rfl, Nat.le_of_ble_eq_true rfl⟩, Nat.le_of_ble_eq_true rfl, Nat.le_of_ble_eq_true rfl⟩ dX5_begs_59 (fun E ce q9 f23 H locs hPX hw hS hce hcv hcl => ?_) (fun v f23 H locs hP hw hS => ?_)
          · exact hPX.elim
          · obtain ⟨ev9, ef9⟩ := hP
            rw [ef9] at hw
            subst ev9
            refine W.eq (g2 := F0 m 62 ls [.int 14641, .int 0]) rfl ?_
            refine lv_aload_n hx hb dX5_begs_62 rfl (lv_at hl9 2 rfl) ?_
            refine hp_get B0 hw 5 rfl in_X5 h15 3 (by decide) qF_X5_16 rfl dX5_begs_63 ?_
            refine lv_bipush (v := 6) hx hb dX5_begs_66 (by decide) ?_
            refine lv_iload_n hx hb dX5_begs_68 rfl (lv_at hl9 3 rfl) ?_
            refine lv_imul hx hb dX5_begs_69 ?_
            refine hp_c (v := 6) (by decide) ?_
            refine lv_iload_n hx hb dX5_begs_70 rfl (lv_at hl9 0 rfl) ?_
            refine lv_iadd hx hb dX5_begs_71 ?_
            refine hp_c (v := 10) (by decide) ?_
            refine hp_iald B0 hw h19 (by unfold vp_in; decide) dX5_begs_72 ?_
            refine hp_c (v := (-1)) (rfl) ?_
            refine lv_iconst (v := 1) hx hb dX5_begs_73 (by decide) ?_
            refine lv_iadd hx hb dX5_begs_74 ?_
            refine hp_c (v := 0) (by decide) ?_
            refine lv_imul hx hb dX5_begs_75 ?_
            refine hp_c (v := 0) (by decide) ?_
            refine lv_iadd hx hb dX5_begs_76 ?_
            refine hp_c (v := 0) (by decide) ?_
            refine lv_istore_n (lv' := [(2, .int 0), (3, .int 4), (0, .ref mo), (1, .int 1)]) hx hb dX5_begs_77 rfl hl9 (by decide) rfl (fun ls hl9 => ?_)
            refine lv_iinc (v := 5) (lv' := [(3, .int 5), (2, .int 0), (0, .ref mo), (1, .int 1)]) hx hb dX5_begs_78 hl9 (k := 1) rfl (by decide) (by decide) rfl (fun ls hl9 => ?_)
            refine lv_goto (tgt := 51) hx hb dX5_begs_81 (by decide) ?_
            refine lv_iload_n hx hb dX5_begs_51 rfl (lv_at hl9 0 rfl) ?_
            refine lv_bipush (v := 6) hx hb dX5_begs_52 (by decide) ?_
            refine lv_icmp_ge (tgt := 84) hx hb dX5_begs_54 (by decide) (fun c9 => absurd c9 (by decide)) (fun _ => ?_)
            refine lv_iload_n hx hb dX5_begs_57 rfl (lv_at hl9 1 rfl) ?_
            refine lv_iload_n hx hb dX5_begs_58 rfl (lv_at hl9 0 rfl) ?_
            refine hp_S (As := [.int 5]) (rest := [.int 0]) B0 hw hS (c_X5_place5 hl G f12) mS_X5_place qM_X5_92 rfl rfl hl9.1 (Nat.le_of_ble_eq_true rfl) ⟨⟨Nat.le_of_ble_eq_true rfl, Nat.le_of_ble_eq_true rfl⟩, Nat.le_of_ble_eq_true rfl, Nat.le_of_ble_eq_true rfl⟩ dX5_begs_59 (fun E ce q9 f24 H locs hPX hw hS hce hcv hcl => ?_) (fun v f24 H locs hP hw hS => ?_)
            · exact hPX.elim
            · obtain ⟨ev9, ef9⟩ := hP
              rw [ef9] at hw
              subst ev9
              refine W.eq (g2 := F0 m 62 ls [.int 161051, .int 0]) rfl ?_
              refine lv_aload_n hx hb dX5_begs_62 rfl (lv_at hl9 2 rfl) ?_
              refine hp_get B0 hw 5 rfl in_X5 h15 3 (by decide) qF_X5_16 rfl dX5_begs_63 ?_
              refine lv_bipush (v := 6) hx hb dX5_begs_66 (by decide) ?_
              refine lv_iload_n hx hb dX5_begs_68 rfl (lv_at hl9 3 rfl) ?_
              refine lv_imul hx hb dX5_begs_69 ?_
              refine hp_c (v := 6) (by decide) ?_
              refine lv_iload_n hx hb dX5_begs_70 rfl (lv_at hl9 0 rfl) ?_
              refine lv_iadd hx hb dX5_begs_71 ?_
              refine hp_c (v := 11) (by decide) ?_
              refine hp_iald B0 hw h19 (by unfold vp_in; decide) dX5_begs_72 ?_
              refine hp_c (v := (-1)) (rfl) ?_
              refine lv_iconst (v := 1) hx hb dX5_begs_73 (by decide) ?_
              refine lv_iadd hx hb dX5_begs_74 ?_
              refine hp_c (v := 0) (by decide) ?_
              refine lv_imul hx hb dX5_begs_75 ?_
              refine hp_c (v := 0) (by decide) ?_
              refine lv_iadd hx hb dX5_begs_76 ?_
              refine hp_c (v := 0) (by decide) ?_
              refine lv_istore_n (lv' := [(2, .int 0), (3, .int 5), (0, .ref mo), (1, .int 1)]) hx hb dX5_begs_77 rfl hl9 (by decide) rfl (fun ls hl9 => ?_)
              refine lv_iinc (v := 6) (lv' := [(3, .int 6), (2, .int 0), (0, .ref mo), (1, .int 1)]) hx hb dX5_begs_78 hl9 (k := 1) rfl (by decide) (by decide) rfl (fun ls hl9 => ?_)
              refine lv_goto (tgt := 51) hx hb dX5_begs_81 (by decide) ?_
              refine lv_iload_n hx hb dX5_begs_51 rfl (lv_at hl9 0 rfl) ?_
              refine lv_bipush (v := 6) hx hb dX5_begs_52 (by decide) ?_
              refine lv_icmp_ge (tgt := 84) hx hb dX5_begs_54 (by decide) (fun _ => ?_) (fun c9 => absurd (by decide) c9)
              refine lv_aload_n hx hb dX5_begs_84 rfl (lv_at hl9 2 rfl) ?_
              refine lv_iload_n hx hb dX5_begs_85 rfl (lv_at hl9 3 rfl) ?_
              refine lv_iconst (v := 0) hx hb dX5_begs_86 (by decide) ?_
              refine lv_aload_n hx hb dX5_begs_87 rfl (lv_at hl9 2 rfl) ?_
              refine hp_get B0 hw 5 rfl in_X5 h15 6 (by decide) qF_X5_25 rfl dX5_begs_88 ?_
              refine lv_iload_n hx hb dX5_begs_91 rfl (lv_at hl9 3 rfl) ?_
              have h25 : f6 dL = some (.inl (cI G, 2, .inl (upd (mA2 (-1) (-1)) (1 : Int32).toNatClampNeg 0))) := by rw [ef6, va_up_ne _ _ nd_dL_dR]; exact h2
              have h26 : f12 dL = some (.inl (cI G, 2, .inl (upd (mA2 (-1) (-1)) (1 : Int32).toNatClampNeg 0))) := by rw [ef12, va_up_ne _ _ nd_dL_dT]; exact h25
              refine hp_iald B0 hw h26 (by unfold vp_in; decide) dX5_begs_92 ?_
              refine hp_c (v := 0) (rfl) ?_
              refine lv_iload_n hx hb dX5_begs_93 rfl (lv_at hl9 1 rfl) ?_
              have h27 : f1 dM = some (.inl (cI G, 2, .inl (mA2 1 2))) := by rw [ef1, va_up_ne _ _ (Ne.symm nd_dL_dM)]; exact k_dM
              have h28 : f6 dM = some (.inl (cI G, 2, .inl (mA2 1 2))) := by rw [ef6, va_up_ne _ _ nd_dM_dR]; exact h27
              have h29 : f12 dM = some (.inl (cI G, 2, .inl (mA2 1 2))) := by rw [ef12, va_up_ne _ _ nd_dM_dT]; exact h28
              have h30 : f1 dH = some (.inl (cI G, 2, .inl (fun _ => 0))) := by rw [ef1, va_up_ne _ _ nd_dH_dL]; exact k_dH
              have h31 : f6 dH = some (.inl (cI G, 2, .inl (fun _ => 0))) := by rw [ef6, va_up_ne _ _ nd_dH_dR]; exact h30
              have h32 : f12 dH = some (.inl (cI G, 2, .inl (fun _ => 0))) := by rw [ef12, va_up_ne _ _ nd_dH_dT]; exact h31
              have h33 : f1 dN = some (.inl (cI G, 2, .inl (fun _ => 0))) := by rw [ef1, va_up_ne _ _ (Ne.symm nd_dL_dN)]; exact k_dN
              have h34 : f6 dN = some (.inl (cI G, 2, .inl (fun _ => 0))) := by rw [ef6, va_up_ne _ _ nd_dN_dR]; exact h33
              have h35 : f12 dN = some (.inl (cI G, 2, .inl (fun _ => 0))) := by rw [ef12, va_up_ne _ _ nd_dN_dT]; exact h34
              have h36 : f1 dK = some (.inl (cI G, 2048, .inl (fun _ => 0))) := by rw [ef1, va_up_ne _ _ nd_dK_dL]; exact k_dK
              have h37 : f6 dK = some (.inl (cI G, 2048, .inl (fun _ => 0))) := by rw [ef6, va_up_ne _ _ nd_dK_dR]; exact h36
              have h38 : f12 dK = some (.inl (cI G, 2048, .inl (fun _ => 0))) := by rw [ef12, va_up_ne _ _ nd_dK_dT]; exact h37
              have h39 : f1 dJ = some (.inl (cI G, 2048, .inl (fun _ => 0))) := by rw [ef1, va_up_ne _ _ nd_dJ_dL]; exact k_dJ
              have h40 : f6 dJ = some (.inl (cI G, 2048, .inl (fun _ => 0))) := by rw [ef6, va_up_ne _ _ nd_dJ_dR]; exact h39
              have h41 : f12 dJ = some (.inl (cI G, 2048, .inl (fun _ => 0))) := by rw [ef12, va_up_ne _ _ nd_dJ_dT]; exact h40
              have h42 : f1 dU = some (.inl (cI G, 2048, .inl (fun _ => 0))) := by rw [ef1, va_up_ne _ _ (Ne.symm nd_dL_dU)]; exact k_dU
              have h43 : f6 dU = some (.inl (cI G, 2048, .inl (fun _ => 0))) := by rw [ef6, va_up_ne _ _ (Ne.symm nd_dR_dU)]; exact h42
              have h44 : f12 dU = some (.inl (cI G, 2048, .inl (fun _ => 0))) := by rw [ef12, va_up_ne _ _ (Ne.symm nd_dT_dU)]; exact h43
              have h45 : f1 dO = some (.inl (cI G, 2048, .inl (fun _ => 0))) := by rw [ef1, va_up_ne _ _ (Ne.symm nd_dL_dO)]; exact k_dO
              have h46 : f6 dO = some (.inl (cI G, 2048, .inl (fun _ => 0))) := by rw [ef6, va_up_ne _ _ nd_dO_dR]; exact h45
              have h47 : f12 dO = some (.inl (cI G, 2048, .inl (fun _ => 0))) := by rw [ef12, va_up_ne _ _ nd_dO_dT]; exact h46
              refine hp_V (ci := 5) (As := [.int 1, .int 0, .int 0, .int 0]) (rest := []) B0 hw hS (c_X5_sends1 hl G f12 mo dW dA dQ dM dS dL dR dT dZ dI dH dN dK dJ dU dO dF dP dE dX dY dG th h15 h29 h32 h35 h38 h41 h44 h47 nd_dH_dJ nd_dH_dK nd_dH_dM nd_dH_dN nd_dH_dO nd_dH_dU nd_dJ_dK nd_dJ_dM nd_dJ_dN nd_dJ_dO nd_dJ_dU nd_dK_dM nd_dK_dN nd_dK_dO nd_dK_dU nd_dM_dN nd_dM_dO nd_dM_dU nd_dN_dO nd_dN_dU nd_dO_dU) mV_X5_sends qM_X5_96 rfl h15 rfl rfl hl9.1 (Nat.le_of_ble_eq_true rfl) ⟨⟨Nat.le_of_ble_eq_true rfl, Nat.le_of_ble_eq_true rfl⟩, Nat.le_of_ble_eq_true rfl, Nat.le_of_ble_eq_true rfl⟩ dX5_begs_94 (fun E ce q9 f48 H locs hPX hw hS hce hcv hcl => ?_) (fun v f48 H locs hP hw hS => ?_)
              · exact hPX.elim
              · obtain ⟨ev9, k49⟩ := hP
                subst ev9
                refine W.eq (g2 := F0 m 97 ls []) rfl ?_
                refine lv_iconst (v := 1) hx hb dX5_begs_97 (by decide) ?_
                have h50 : f48 dL = some (.inl (cI G, 2, .inl (upd (mA2 (-1) (-1)) (1 : Int32).toNatClampNeg 0))) := k49 _ _ h26 (ninc (Ne.symm nd_dK_dL) (ninc (Ne.symm nd_dJ_dL) (ninc nd_dL_dU (ninc nd_dL_dO (ninc nd_dL_dN nin0)))))
                exact hp_zret (v := 1) B0 hw hS hr ⟨Nat.le_of_ble_eq_true rfl, Nat.le_of_ble_eq_true rfl⟩ (rfl) dX5_begs_98 (⟨rfl, h50, ((show hKeep [dL, dR, dT, dK, dJ, dU, dO, dN] f f1 from (by rw [ef1]; exact hKeep.up (by simp))).tr ((show hKeep [dL, dR, dT, dK, dJ, dU, dO, dN] f1 f6 from (by rw [ef6]; exact hKeep.up (by simp))).tr ((show hKeep [dL, dR, dT, dK, dJ, dU, dO, dN] f6 f12 from (by rw [ef12]; exact hKeep.up (by simp))).tr (show hKeep [dL, dR, dT, dK, dJ, dU, dO, dN] f12 f48 from (k49.mono (fun x9 hx9 => by simp only [List.mem_cons, List.not_mem_nil, or_false] at hx9 ⊢; omega))))))⟩)

set_option maxHeartbeats 4000000 in
set_option maxRecDepth 100000 in
theorem c_X5_open0 {l : Launch} (hl : l.stackTraces = false) (G : hG) (f : hM) (mo dW dA dQ dM dS dL dR dT dZ dI dH dN dK dJ dU dO dF dP dE dX dY dG : Nat) (th : Int32) (k_mo : f mo = some (.inr (5, [.int th, .ref dW, .ref dA, .ref dQ, .ref dM, .ref dS, .ref dL, .ref dR, .ref dT, .ref dZ, .ref dI, .ref dH, .ref dN, .ref dK, .ref dJ, .ref dU, .ref dO, .int 0, .int 0, .ref dF, .ref dP, .ref dE, .ref dX, .ref dY, .int 0, .int 0, .ref dG]))) (k_dW : f dW = some (.inl (cI G, 12, .inl mA12))) (k_dS : f dS = some (.inl (cI G, 2, .inl (fun _ => 0)))) (k_dR : f dR = some (.inl (cI G, 2, .inl (fun _ => 0)))) (k_dL : f dL = some (.inl (cI G, 2, .inl (mA2 (-1) (-1))))) (k_dT : f dT = some (.inl (cI G, 2, .inl (fun _ => 0)))) (k_dQ : f dQ = some (.inl (cI G, 12, .inl mA12))) (k_dM : f dM = some (.inl (cI G, 2, .inl (mA2 1 2)))) (k_dH : f dH = some (.inl (cI G, 2, .inl (fun _ => 0)))) (k_dN : f dN = some (.inl (cI G, 2, .inl (fun _ => 0)))) (k_dK : f dK = some (.inl (cI G, 2048, .inl (fun _ => 0)))) (k_dJ : f dJ = some (.inl (cI G, 2048, .inl (fun _ => 0)))) (k_dU : f dU = some (.inl (cI G, 2048, .inl (fun _ => 0)))) (k_dO : f dO = some (.inl (cI G, 2048, .inl (fun _ => 0)))) (nd_dH_dJ : dH ≠ dJ) (nd_dH_dK : dH ≠ dK) (nd_dH_dL : dH ≠ dL) (nd_dH_dM : dH ≠ dM) (nd_dH_dN : dH ≠ dN) (nd_dH_dO : dH ≠ dO) (nd_dH_dQ : dH ≠ dQ) (nd_dH_dR : dH ≠ dR) (nd_dH_dS : dH ≠ dS) (nd_dH_dT : dH ≠ dT) (nd_dH_dU : dH ≠ dU) (nd_dH_dW : dH ≠ dW) (nd_dJ_dK : dJ ≠ dK) (nd_dJ_dL : dJ ≠ dL) (nd_dJ_dM : dJ ≠ dM) (nd_dJ_dN : dJ ≠ dN) (nd_dJ_dO : dJ ≠ dO) (nd_dJ_dQ : dJ ≠ dQ) (nd_dJ_dR : dJ ≠ dR) (nd_dJ_dS : dJ ≠ dS) (nd_dJ_dT : dJ ≠ dT) (nd_dJ_dU : dJ ≠ dU) (nd_dJ_dW : dJ ≠ dW) (nd_dK_dL : dK ≠ dL) (nd_dK_dM : dK ≠ dM) (nd_dK_dN : dK ≠ dN) (nd_dK_dO : dK ≠ dO) (nd_dK_dQ : dK ≠ dQ) (nd_dK_dR : dK ≠ dR) (nd_dK_dS : dK ≠ dS) (nd_dK_dT : dK ≠ dT) (nd_dK_dU : dK ≠ dU) (nd_dK_dW : dK ≠ dW) (nd_dL_dM : dL ≠ dM) (nd_dL_dN : dL ≠ dN) (nd_dL_dO : dL ≠ dO) (nd_dL_dQ : dL ≠ dQ) (nd_dL_dR : dL ≠ dR) (nd_dL_dS : dL ≠ dS) (nd_dL_dT : dL ≠ dT) (nd_dL_dU : dL ≠ dU) (nd_dL_dW : dL ≠ dW) (nd_dM_dN : dM ≠ dN) (nd_dM_dO : dM ≠ dO) (nd_dM_dQ : dM ≠ dQ) (nd_dM_dR : dM ≠ dR) (nd_dM_dS : dM ≠ dS) (nd_dM_dT : dM ≠ dT) (nd_dM_dU : dM ≠ dU) (nd_dM_dW : dM ≠ dW) (nd_dN_dO : dN ≠ dO) (nd_dN_dQ : dN ≠ dQ) (nd_dN_dR : dN ≠ dR) (nd_dN_dS : dN ≠ dS) (nd_dN_dT : dN ≠ dT) (nd_dN_dU : dN ≠ dU) (nd_dN_dW : dN ≠ dW) (nd_dO_dQ : dO ≠ dQ) (nd_dO_dR : dO ≠ dR) (nd_dO_dS : dO ≠ dS) (nd_dO_dT : dO ≠ dT) (nd_dO_dU : dO ≠ dU) (nd_dO_dW : dO ≠ dW) (nd_dQ_dR : dQ ≠ dR) (nd_dQ_dS : dQ ≠ dS) (nd_dQ_dT : dQ ≠ dT) (nd_dQ_dU : dQ ≠ dU) (nd_dQ_dW : dQ ≠ dW) (nd_dR_dS : dR ≠ dS) (nd_dR_dT : dR ≠ dT) (nd_dR_dU : dR ≠ dU) (nd_dR_dW : dR ≠ dW) (nd_dS_dT : dS ≠ dT) (nd_dS_dU : dS ≠ dU) (nd_dS_dW : dS ≠ dW) (nd_dT_dU : dT ≠ dU) (nd_dT_dW : dT ≠ dW) (nd_dU_dW : dU ≠ dW) (i : Int32) : CT l yX5_open (.code yX5_open cX5_open 3 (some .int)) 2 48 0 0 G [.ref mo, .int i] f (fun v f1 => (∃ r : Int32, v = some (.int r) ∧ (spc (sE i) True = 0 → r = 0)) ∧ (∃ c9 : List Value, f1 mo = some (.inr (5, .int (spc (sE i) True) :: c9))) ∧ hKeep [mo, dQ, dS, dL, dR, dT, dK, dJ, dU, dO, dN] f f1) (fun E f1 => False) := by
  refine hp_start hl (own := RX5) (by decide) rfl (Nat.le_of_ble_eq_true rfl) ?_
  intro p e s m args below meth c B0 hr hnm hout hw hS ls hl9
  have hx := B0.1
  have hb := B0.2.1
  have hl9 : lv_has ls 3 [(0, .ref mo), (1, .int i)] := hl9
  refine lv_aload_n hx hb dX5_open_0 rfl (lv_at hl9 0 rfl) ?_
  refine lv_iload_n hx hb dX5_open_1 rfl (lv_at hl9 1 rfl) ?_
  refine hp_S (As := [.int i]) (rest := [.ref mo]) B0 hw hS (c_X5_isEnd hl G f i) mS_X5_isEnd qM_X5_85 rfl rfl hl9.1 (Nat.le_of_ble_eq_true rfl) ⟨⟨Nat.le_of_ble_eq_true rfl, Nat.le_of_ble_eq_true rfl⟩, Nat.le_of_ble_eq_true rfl, Nat.le_of_ble_eq_true rfl⟩ dX5_open_2 (fun E ce q9 f1 H locs hPX hw hS hce hcv hcl => ?_) (fun v f1 H locs hP hw hS => ?_)
  · exact hPX.elim
  · obtain ⟨ef9, hv9⟩ := hP
    rw [ef9] at hw
    rcases hv9 with ⟨b9 | b9, ev9⟩ | ⟨hnE, ev9⟩
    · subst ev9
      subst b9
      refine W.eq (g2 := F0 m 5 ls [.int 1, .ref mo]) rfl ?_
      refine lv_if_ne (tgt := 12) hx hb dX5_open_5 (by decide) (fun _ => ?_) (fun c9 => absurd c9 (by decide))
      refine lv_aload_n hx hb dX5_open_12 rfl (lv_at hl9 0 rfl) ?_
      refine hp_get B0 hw 5 rfl in_X5 k_mo 5 (by decide) qF_X5_22 rfl dX5_open_13 ?_
      refine lv_iload_n hx hb dX5_open_16 rfl (lv_at hl9 1 rfl) ?_
      refine hp_iald B0 hw k_dS (by unfold vp_in; decide) dX5_open_17 ?_
      refine hp_c (v := 0) (rfl) ?_
      refine lv_if_eq (tgt := 25) hx hb dX5_open_18 (by decide) (fun _ => ?_) (fun c9 => absurd (by decide) c9)
      refine lv_iconst (v := 0) hx hb dX5_open_25 (by decide) ?_
      refine hp_put (fs1 := [.int 0, .ref dW, .ref dA, .ref dQ, .ref dM, .ref dS, .ref dL, .ref dR, .ref dT, .ref dZ, .ref dI, .ref dH, .ref dN, .ref dK, .ref dJ, .ref dU, .ref dO, .int 0, .int 0, .ref dF, .ref dP, .ref dE, .ref dX, .ref dY, .int 0, .int 0, .ref dG]) (ty := .int) B0 hw hS 5 rfl in_X5 tyX5 tyX5_ok nmX5 k_mo 0 (by decide) qF_X5_77 rfl (by decide +kernel) rfl rfl (Nat.le_of_ble_eq_true rfl) rfl dX5_open_26 (fun H locs f2 ef2 hw hS => ?_)
      have h3 : f2 mo = some (.inr (5, [.int 0, .ref dW, .ref dA, .ref dQ, .ref dM, .ref dS, .ref dL, .ref dR, .ref dT, .ref dZ, .ref dI, .ref dH, .ref dN, .ref dK, .ref dJ, .ref dU, .ref dO, .int 0, .int 0, .ref dF, .ref dP, .ref dE, .ref dX, .ref dY, .int 0, .int 0, .ref dG])) := by rw [ef2, va_up_self]
      refine lv_aload_n hx hb dX5_open_29 rfl (lv_at hl9 0 rfl) ?_
      refine hp_get B0 hw 5 rfl in_X5 h3 0 (by decide) qF_X5_77 rfl dX5_open_30 ?_
      refine lv_if_le (tgt := 38) hx hb dX5_open_33 (by decide) (fun _ => ?_) (fun c9 => absurd (by decide) c9)
      refine lv_bipush (v := 6) hx hb dX5_open_38 (by decide) ?_
      refine lv_iload_n hx hb dX5_open_40 rfl (lv_at hl9 1 rfl) ?_
      refine lv_imul hx hb dX5_open_41 ?_
      refine hp_c (v := 0) (by decide) ?_
      refine lv_istore_n (lv' := [(2, .int 0), (0, .ref mo), (1, .int 0)]) hx hb dX5_open_42 rfl hl9 (by decide) rfl (fun ls hl9 => ?_)
      refine lv_iload_n hx hb dX5_open_43 rfl (lv_at hl9 0 rfl) ?_
      refine lv_bipush (v := 6) hx hb dX5_open_44 (by decide) ?_
      refine lv_iload_n hx hb dX5_open_46 rfl (lv_at hl9 2 rfl) ?_
      refine lv_imul hx hb dX5_open_47 ?_
      refine hp_c (v := 0) (by decide) ?_
      refine lv_bipush (v := 6) hx hb dX5_open_48 (by decide) ?_
      refine lv_iadd hx hb dX5_open_50 ?_
      refine hp_c (v := 6) (by decide) ?_
      refine lv_icmp_ge (tgt := 72) hx hb dX5_open_51 (by decide) (fun c9 => absurd c9 (by decide)) (fun _ => ?_)
      refine lv_aload_n hx hb dX5_open_54 rfl (lv_at hl9 1 rfl) ?_
      refine hp_get B0 hw 5 rfl in_X5 h3 3 (by decide) qF_X5_16 rfl dX5_open_55 ?_
      refine lv_iload_n hx hb dX5_open_58 rfl (lv_at hl9 0 rfl) ?_
      refine lv_aload_n hx hb dX5_open_59 rfl (lv_at hl9 1 rfl) ?_
      refine hp_get B0 hw 5 rfl in_X5 h3 1 (by decide) qF_X5_9 rfl dX5_open_60 ?_
      refine lv_iload_n hx hb dX5_open_63 rfl (lv_at hl9 0 rfl) ?_
      have n5 : dW ≠ mo := hne k_dW k_mo (Nat.ne_of_beq_eq_false rfl)
      have h4 : f2 dW = some (.inl (cI G, 12, .inl mA12)) := by rw [ef2, va_up_ne _ _ n5]; exact k_dW
      refine hp_iald B0 hw h4 (by unfold vp_in; decide) dX5_open_64 ?_
      refine hp_c (v := (-1)) (rfl) ?_
      have n7 : dQ ≠ mo := hne k_dQ k_mo (Nat.ne_of_beq_eq_false rfl)
      have h6 : f2 dQ = some (.inl (cI G, 12, .inl mA12)) := by rw [ef2, va_up_ne _ _ n7]; exact k_dQ
      refine hp_iast B0 hw hS h6 (by unfold vp_in; decide) dX5_open_65 (fun H locs f8 ef8 hw hS => ?_)
      have h9 : f8 dQ = some (.inl (cI G, 12, .inl (upd mA12 (0 : Int32).toNatClampNeg (-1)))) := by rw [ef8, va_up_self]
      refine lv_iinc (v := 1) (lv' := [(2, .int 1), (0, .ref mo), (1, .int 0)]) hx hb dX5_open_66 hl9 (k := 0) rfl (by decide) (by decide) rfl (fun ls hl9 => ?_)
      refine lv_goto (tgt := 43) hx hb dX5_open_69 (by decide) ?_
      refine lv_iload_n hx hb dX5_open_43 rfl (lv_at hl9 0 rfl) ?_
      refine lv_bipush (v := 6) hx hb dX5_open_44 (by decide) ?_
      refine lv_iload_n hx hb dX5_open_46 rfl (lv_at hl9 2 rfl) ?_
      refine lv_imul hx hb dX5_open_47 ?_
      refine hp_c (v := 0) (by decide) ?_
      refine lv_bipush (v := 6) hx hb dX5_open_48 (by decide) ?_
      refine lv_iadd hx hb dX5_open_50 ?_
      refine hp_c (v := 6) (by decide) ?_
      refine lv_icmp_ge (tgt := 72) hx hb dX5_open_51 (by decide) (fun c9 => absurd c9 (by decide)) (fun _ => ?_)
      refine lv_aload_n hx hb dX5_open_54 rfl (lv_at hl9 1 rfl) ?_
      have h10 : f8 mo = some (.inr (5, [.int 0, .ref dW, .ref dA, .ref dQ, .ref dM, .ref dS, .ref dL, .ref dR, .ref dT, .ref dZ, .ref dI, .ref dH, .ref dN, .ref dK, .ref dJ, .ref dU, .ref dO, .int 0, .int 0, .ref dF, .ref dP, .ref dE, .ref dX, .ref dY, .int 0, .int 0, .ref dG])) := by rw [ef8, va_up_ne _ _ (Ne.symm n7)]; exact h3
      refine hp_get B0 hw 5 rfl in_X5 h10 3 (by decide) qF_X5_16 rfl dX5_open_55 ?_
      refine lv_iload_n hx hb dX5_open_58 rfl (lv_at hl9 0 rfl) ?_
      refine lv_aload_n hx hb dX5_open_59 rfl (lv_at hl9 1 rfl) ?_
      refine hp_get B0 hw 5 rfl in_X5 h10 1 (by decide) qF_X5_9 rfl dX5_open_60 ?_
      refine lv_iload_n hx hb dX5_open_63 rfl (lv_at hl9 0 rfl) ?_
      have h11 : f8 dW = some (.inl (cI G, 12, .inl mA12)) := by rw [ef8, va_up_ne _ _ (Ne.symm nd_dQ_dW)]; exact h4
      refine hp_iald B0 hw h11 (by unfold vp_in; decide) dX5_open_64 ?_
      refine hp_c (v := (-1)) (rfl) ?_
      refine hp_iast B0 hw hS h9 (by unfold vp_in; decide) dX5_open_65 (fun H locs f12 ef12 hw hS => ?_)
      have e13 : f12 = va_up f2 dQ (some (.inl (cI G, 12, .inl (upd (upd mA12 (0 : Int32).toNatClampNeg (-1)) (1 : Int32).toNatClampNeg (-1))))) := by rw [ef12, ef8, bx_uu]
      have h14 : f12 dQ = some (.inl (cI G, 12, .inl (upd (upd mA12 (0 : Int32).toNatClampNeg (-1)) (1 : Int32).toNatClampNeg (-1)))) := by rw [ef12, va_up_self]
      refine lv_iinc (v := 2) (lv' := [(2, .int 2), (0, .ref mo), (1, .int 0)]) hx hb dX5_open_66 hl9 (k := 0) rfl (by decide) (by decide) rfl (fun ls hl9 => ?_)
      refine lv_goto (tgt := 43) hx hb dX5_open_69 (by decide) ?_
      refine lv_iload_n hx hb dX5_open_43 rfl (lv_at hl9 0 rfl) ?_
      refine lv_bipush (v := 6) hx hb dX5_open_44 (by decide) ?_
      refine lv_iload_n hx hb dX5_open_46 rfl (lv_at hl9 2 rfl) ?_
      refine lv_imul hx hb dX5_open_47 ?_
      refine hp_c (v := 0) (by decide) ?_
      refine lv_bipush (v := 6) hx hb dX5_open_48 (by decide) ?_
      refine lv_iadd hx hb dX5_open_50 ?_
      refine hp_c (v := 6) (by decide) ?_
      refine lv_icmp_ge (tgt := 72) hx hb dX5_open_51 (by decide) (fun c9 => absurd c9 (by decide)) (fun _ => ?_)
      refine lv_aload_n hx hb dX5_open_54 rfl (lv_at hl9 1 rfl) ?_
      have h15 : f12 mo = some (.inr (5, [.int 0, .ref dW, .ref dA, .ref dQ, .ref dM, .ref dS, .ref dL, .ref dR, .ref dT, .ref dZ, .ref dI, .ref dH, .ref dN, .ref dK, .ref dJ, .ref dU, .ref dO, .int 0, .int 0, .ref dF, .ref dP, .ref dE, .ref dX, .ref dY, .int 0, .int 0, .ref dG])) := by rw [e13, va_up_ne _ _ (Ne.symm n7)]; exact h3
      refine hp_get B0 hw 5 rfl in_X5 h15 3 (by decide) qF_X5_16 rfl dX5_open_55 ?_
      refine lv_iload_n hx hb dX5_open_58 rfl (lv_at hl9 0 rfl) ?_
      refine lv_aload_n hx hb dX5_open_59 rfl (lv_at hl9 1 rfl) ?_
      refine hp_get B0 hw 5 rfl in_X5 h15 1 (by decide) qF_X5_9 rfl dX5_open_60 ?_
      refine lv_iload_n hx hb dX5_open_63 rfl (lv_at hl9 0 rfl) ?_
      have h16 : f12 dW = some (.inl (cI G, 12, .inl mA12)) := by rw [e13, va_up_ne _ _ (Ne.symm nd_dQ_dW)]; exact h4
      refine hp_iald B0 hw h16 (by unfold vp_in; decide) dX5_open_64 ?_
      refine hp_c (v := (-1)) (rfl) ?_
      refine hp_iast B0 hw hS h14 (by unfold vp_in; decide) dX5_open_65 (fun H locs f17 ef17 hw hS => ?_)
      have e18 : f17 = va_up f2 dQ (some (.inl (cI G, 12, .inl (upd (upd (upd mA12 (0 : Int32).toNatClampNeg (-1)) (1 : Int32).toNatClampNeg (-1)) (2 : Int32).toNatClampNeg (-1))))) := by rw [ef17, e13, bx_uu]
      have h19 : f17 dQ = some (.inl (cI G, 12, .inl (upd (upd (upd mA12 (0 : Int32).toNatClampNeg (-1)) (1 : Int32).toNatClampNeg (-1)) (2 : Int32).toNatClampNeg (-1)))) := by rw [ef17, va_up_self]
      refine lv_iinc (v := 3) (lv' := [(2, .int 3), (0, .ref mo), (1, .int 0)]) hx hb dX5_open_66 hl9 (k := 0) rfl (by decide) (by decide) rfl (fun ls hl9 => ?_)
      refine lv_goto (tgt := 43) hx hb dX5_open_69 (by decide) ?_
      refine lv_iload_n hx hb dX5_open_43 rfl (lv_at hl9 0 rfl) ?_
      refine lv_bipush (v := 6) hx hb dX5_open_44 (by decide) ?_
      refine lv_iload_n hx hb dX5_open_46 rfl (lv_at hl9 2 rfl) ?_
      refine lv_imul hx hb dX5_open_47 ?_
      refine hp_c (v := 0) (by decide) ?_
      refine lv_bipush (v := 6) hx hb dX5_open_48 (by decide) ?_
      refine lv_iadd hx hb dX5_open_50 ?_
      refine hp_c (v := 6) (by decide) ?_
      refine lv_icmp_ge (tgt := 72) hx hb dX5_open_51 (by decide) (fun c9 => absurd c9 (by decide)) (fun _ => ?_)
      refine lv_aload_n hx hb dX5_open_54 rfl (lv_at hl9 1 rfl) ?_
      have h20 : f17 mo = some (.inr (5, [.int 0, .ref dW, .ref dA, .ref dQ, .ref dM, .ref dS, .ref dL, .ref dR, .ref dT, .ref dZ, .ref dI, .ref dH, .ref dN, .ref dK, .ref dJ, .ref dU, .ref dO, .int 0, .int 0, .ref dF, .ref dP, .ref dE, .ref dX, .ref dY, .int 0, .int 0, .ref dG])) := by rw [e18, va_up_ne _ _ (Ne.symm n7)]; exact h3
      refine hp_get B0 hw 5 rfl in_X5 h20 3 (by decide) qF_X5_16 rfl dX5_open_55 ?_
      refine lv_iload_n hx hb dX5_open_58 rfl (lv_at hl9 0 rfl) ?_
      refine lv_aload_n hx hb dX5_open_59 rfl (lv_at hl9 1 rfl) ?_
      refine hp_get B0 hw 5 rfl in_X5 h20 1 (by decide) qF_X5_9 rfl dX5_open_60 ?_
      refine lv_iload_n hx hb dX5_open_63 rfl (lv_at hl9 0 rfl) ?_
      have h21 : f17 dW = some (.inl (cI G, 12, .inl mA12)) := by rw [e18, va_up_ne _ _ (Ne.symm nd_dQ_dW)]; exact h4
      refine hp_iald B0 hw h21 (by unfold vp_in; decide) dX5_open_64 ?_
      refine hp_c (v := (-1)) (rfl) ?_
      refine hp_iast B0 hw hS h19 (by unfold vp_in; decide) dX5_open_65 (fun H locs f22 ef22 hw hS => ?_)
      have e23 : f22 = va_up f2 dQ (some (.inl (cI G, 12, .inl (upd (upd (upd (upd mA12 (0 : Int32).toNatClampNeg (-1)) (1 : Int32).toNatClampNeg (-1)) (2 : Int32).toNatClampNeg (-1)) (3 : Int32).toNatClampNeg (-1))))) := by rw [ef22, e18, bx_uu]
      have h24 : f22 dQ = some (.inl (cI G, 12, .inl (upd (upd (upd (upd mA12 (0 : Int32).toNatClampNeg (-1)) (1 : Int32).toNatClampNeg (-1)) (2 : Int32).toNatClampNeg (-1)) (3 : Int32).toNatClampNeg (-1)))) := by rw [ef22, va_up_self]
      refine lv_iinc (v := 4) (lv' := [(2, .int 4), (0, .ref mo), (1, .int 0)]) hx hb dX5_open_66 hl9 (k := 0) rfl (by decide) (by decide) rfl (fun ls hl9 => ?_)
      refine lv_goto (tgt := 43) hx hb dX5_open_69 (by decide) ?_
      refine lv_iload_n hx hb dX5_open_43 rfl (lv_at hl9 0 rfl) ?_
      refine lv_bipush (v := 6) hx hb dX5_open_44 (by decide) ?_
      refine lv_iload_n hx hb dX5_open_46 rfl (lv_at hl9 2 rfl) ?_
      refine lv_imul hx hb dX5_open_47 ?_
      refine hp_c (v := 0) (by decide) ?_
      refine lv_bipush (v := 6) hx hb dX5_open_48 (by decide) ?_
      refine lv_iadd hx hb dX5_open_50 ?_
      refine hp_c (v := 6) (by decide) ?_
      refine lv_icmp_ge (tgt := 72) hx hb dX5_open_51 (by decide) (fun c9 => absurd c9 (by decide)) (fun _ => ?_)
      refine lv_aload_n hx hb dX5_open_54 rfl (lv_at hl9 1 rfl) ?_
      have h25 : f22 mo = some (.inr (5, [.int 0, .ref dW, .ref dA, .ref dQ, .ref dM, .ref dS, .ref dL, .ref dR, .ref dT, .ref dZ, .ref dI, .ref dH, .ref dN, .ref dK, .ref dJ, .ref dU, .ref dO, .int 0, .int 0, .ref dF, .ref dP, .ref dE, .ref dX, .ref dY, .int 0, .int 0, .ref dG])) := by rw [e23, va_up_ne _ _ (Ne.symm n7)]; exact h3
      refine hp_get B0 hw 5 rfl in_X5 h25 3 (by decide) qF_X5_16 rfl dX5_open_55 ?_
      refine lv_iload_n hx hb dX5_open_58 rfl (lv_at hl9 0 rfl) ?_
      refine lv_aload_n hx hb dX5_open_59 rfl (lv_at hl9 1 rfl) ?_
      refine hp_get B0 hw 5 rfl in_X5 h25 1 (by decide) qF_X5_9 rfl dX5_open_60 ?_
      refine lv_iload_n hx hb dX5_open_63 rfl (lv_at hl9 0 rfl) ?_
      have h26 : f22 dW = some (.inl (cI G, 12, .inl mA12)) := by rw [e23, va_up_ne _ _ (Ne.symm nd_dQ_dW)]; exact h4
      refine hp_iald B0 hw h26 (by unfold vp_in; decide) dX5_open_64 ?_
      refine hp_c (v := (-1)) (rfl) ?_
      refine hp_iast B0 hw hS h24 (by unfold vp_in; decide) dX5_open_65 (fun H locs f27 ef27 hw hS => ?_)
      have e28 : f27 = va_up f2 dQ (some (.inl (cI G, 12, .inl (upd (upd (upd (upd (upd mA12 (0 : Int32).toNatClampNeg (-1)) (1 : Int32).toNatClampNeg (-1)) (2 : Int32).toNatClampNeg (-1)) (3 : Int32).toNatClampNeg (-1)) (4 : Int32).toNatClampNeg (-1))))) := by rw [ef27, e23, bx_uu]
      have h29 : f27 dQ = some (.inl (cI G, 12, .inl (upd (upd (upd (upd (upd mA12 (0 : Int32).toNatClampNeg (-1)) (1 : Int32).toNatClampNeg (-1)) (2 : Int32).toNatClampNeg (-1)) (3 : Int32).toNatClampNeg (-1)) (4 : Int32).toNatClampNeg (-1)))) := by rw [ef27, va_up_self]
      refine lv_iinc (v := 5) (lv' := [(2, .int 5), (0, .ref mo), (1, .int 0)]) hx hb dX5_open_66 hl9 (k := 0) rfl (by decide) (by decide) rfl (fun ls hl9 => ?_)
      refine lv_goto (tgt := 43) hx hb dX5_open_69 (by decide) ?_
      refine lv_iload_n hx hb dX5_open_43 rfl (lv_at hl9 0 rfl) ?_
      refine lv_bipush (v := 6) hx hb dX5_open_44 (by decide) ?_
      refine lv_iload_n hx hb dX5_open_46 rfl (lv_at hl9 2 rfl) ?_
      refine lv_imul hx hb dX5_open_47 ?_
      refine hp_c (v := 0) (by decide) ?_
      refine lv_bipush (v := 6) hx hb dX5_open_48 (by decide) ?_
      refine lv_iadd hx hb dX5_open_50 ?_
      refine hp_c (v := 6) (by decide) ?_
      refine lv_icmp_ge (tgt := 72) hx hb dX5_open_51 (by decide) (fun c9 => absurd c9 (by decide)) (fun _ => ?_)
      refine lv_aload_n hx hb dX5_open_54 rfl (lv_at hl9 1 rfl) ?_
      have h30 : f27 mo = some (.inr (5, [.int 0, .ref dW, .ref dA, .ref dQ, .ref dM, .ref dS, .ref dL, .ref dR, .ref dT, .ref dZ, .ref dI, .ref dH, .ref dN, .ref dK, .ref dJ, .ref dU, .ref dO, .int 0, .int 0, .ref dF, .ref dP, .ref dE, .ref dX, .ref dY, .int 0, .int 0, .ref dG])) := by rw [e28, va_up_ne _ _ (Ne.symm n7)]; exact h3
      refine hp_get B0 hw 5 rfl in_X5 h30 3 (by decide) qF_X5_16 rfl dX5_open_55 ?_
      refine lv_iload_n hx hb dX5_open_58 rfl (lv_at hl9 0 rfl) ?_
      refine lv_aload_n hx hb dX5_open_59 rfl (lv_at hl9 1 rfl) ?_
      refine hp_get B0 hw 5 rfl in_X5 h30 1 (by decide) qF_X5_9 rfl dX5_open_60 ?_
      refine lv_iload_n hx hb dX5_open_63 rfl (lv_at hl9 0 rfl) ?_
      have h31 : f27 dW = some (.inl (cI G, 12, .inl mA12)) := by rw [e28, va_up_ne _ _ (Ne.symm nd_dQ_dW)]; exact h4
      refine hp_iald B0 hw h31 (by unfold vp_in; decide) dX5_open_64 ?_
      refine hp_c (v := (-1)) (rfl) ?_
      refine hp_iast B0 hw hS h29 (by unfold vp_in; decide) dX5_open_65 (fun H locs f32 ef32 hw hS => ?_)
      have e33 : f32 = va_up f2 dQ (some (.inl (cI G, 12, .inl (upd (upd (upd (upd (upd (upd mA12 (0 : Int32).toNatClampNeg (-1)) (1 : Int32).toNatClampNeg (-1)) (2 : Int32).toNatClampNeg (-1)) (3 : Int32).toNatClampNeg (-1)) (4 : Int32).toNatClampNeg (-1)) (5 : Int32).toNatClampNeg (-1))))) := by rw [ef32, e28, bx_uu]
      have h34 : f32 dQ = some (.inl (cI G, 12, .inl (upd (upd (upd (upd (upd (upd mA12 (0 : Int32).toNatClampNeg (-1)) (1 : Int32).toNatClampNeg (-1)) (2 : Int32).toNatClampNeg (-1)) (3 : Int32).toNatClampNeg (-1)) (4 : Int32).toNatClampNeg (-1)) (5 : Int32).toNatClampNeg (-1)))) := by rw [ef32, va_up_self]
      refine lv_iinc (v := 6) (lv' := [(2, .int 6), (0, .ref mo), (1, .int 0)]) hx hb dX5_open_66 hl9 (k := 0) rfl (by decide) (by decide) rfl (fun ls hl9 => ?_)
      refine lv_goto (tgt := 43) hx hb dX5_open_69 (by decide) ?_
      refine lv_iload_n hx hb dX5_open_43 rfl (lv_at hl9 0 rfl) ?_
      refine lv_bipush (v := 6) hx hb dX5_open_44 (by decide) ?_
      refine lv_iload_n hx hb dX5_open_46 rfl (lv_at hl9 2 rfl) ?_
      refine lv_imul hx hb dX5_open_47 ?_
      refine hp_c (v := 0) (by decide) ?_
      refine lv_bipush (v := 6) hx hb dX5_open_48 (by decide) ?_
      refine lv_iadd hx hb dX5_open_50 ?_
      refine hp_c (v := 6) (by decide) ?_
      refine lv_icmp_ge (tgt := 72) hx hb dX5_open_51 (by decide) (fun _ => ?_) (fun c9 => absurd (by decide) c9)
      refine lv_aload_n hx hb dX5_open_72 rfl (lv_at hl9 1 rfl) ?_
      have h35 : f32 mo = some (.inr (5, [.int 0, .ref dW, .ref dA, .ref dQ, .ref dM, .ref dS, .ref dL, .ref dR, .ref dT, .ref dZ, .ref dI, .ref dH, .ref dN, .ref dK, .ref dJ, .ref dU, .ref dO, .int 0, .int 0, .ref dF, .ref dP, .ref dE, .ref dX, .ref dY, .int 0, .int 0, .ref dG])) := by rw [e33, va_up_ne _ _ (Ne.symm n7)]; exact h3
      refine hp_get B0 hw 5 rfl in_X5 h35 5 (by decide) qF_X5_22 rfl dX5_open_73 ?_
      refine lv_iload_n hx hb dX5_open_76 rfl (lv_at hl9 2 rfl) ?_
      refine lv_iconst (v := 1) hx hb dX5_open_77 (by decide) ?_
      have n37 : dS ≠ mo := hne k_dS k_mo (Nat.ne_of_beq_eq_false rfl)
      have h36 : f2 dS = some (.inl (cI G, 2, .inl (fun _ => 0))) := by rw [ef2, va_up_ne _ _ n37]; exact k_dS
      have h38 : f32 dS = some (.inl (cI G, 2, .inl (fun _ => 0))) := by rw [e33, va_up_ne _ _ (Ne.symm nd_dQ_dS)]; exact h36
      refine hp_iast B0 hw hS h38 (by unfold vp_in; decide) dX5_open_78 (fun H locs f39 ef39 hw hS => ?_)
      have h40 : f39 dS = some (.inl (cI G, 2, .inl (upd (fun _ => 0) (0 : Int32).toNatClampNeg 1))) := by rw [ef39, va_up_self]
      refine lv_aload_n hx hb dX5_open_79 rfl (lv_at hl9 1 rfl) ?_
      have h41 : f39 mo = some (.inr (5, [.int 0, .ref dW, .ref dA, .ref dQ, .ref dM, .ref dS, .ref dL, .ref dR, .ref dT, .ref dZ, .ref dI, .ref dH, .ref dN, .ref dK, .ref dJ, .ref dU, .ref dO, .int 0, .int 0, .ref dF, .ref dP, .ref dE, .ref dX, .ref dY, .int 0, .int 0, .ref dG])) := by rw [ef39, va_up_ne _ _ (Ne.symm n37)]; exact h35
      refine hp_get B0 hw 5 rfl in_X5 h41 7 (by decide) qF_X5_28 rfl dX5_open_80 ?_
      refine lv_iload_n hx hb dX5_open_83 rfl (lv_at hl9 2 rfl) ?_
      refine lv_iconst (v := 0) hx hb dX5_open_84 (by decide) ?_
      have n43 : dR ≠ mo := hne k_dR k_mo (Nat.ne_of_beq_eq_false rfl)
      have h42 : f2 dR = some (.inl (cI G, 2, .inl (fun _ => 0))) := by rw [ef2, va_up_ne _ _ n43]; exact k_dR
      have h44 : f32 dR = some (.inl (cI G, 2, .inl (fun _ => 0))) := by rw [e33, va_up_ne _ _ (Ne.symm nd_dQ_dR)]; exact h42
      have h45 : f39 dR = some (.inl (cI G, 2, .inl (fun _ => 0))) := by rw [ef39, va_up_ne _ _ nd_dR_dS]; exact h44
      refine hp_iast B0 hw hS h45 (by unfold vp_in; decide) dX5_open_85 (fun H locs f46 ef46 hw hS => ?_)
      have h47 : f46 dR = some (.inl (cI G, 2, .inl (upd (fun _ => 0) (0 : Int32).toNatClampNeg 0))) := by rw [ef46, va_up_self]
      refine lv_aload_n hx hb dX5_open_86 rfl (lv_at hl9 1 rfl) ?_
      refine lv_iload_n hx hb dX5_open_87 rfl (lv_at hl9 2 rfl) ?_
      have h48 : f46 mo = some (.inr (5, [.int 0, .ref dW, .ref dA, .ref dQ, .ref dM, .ref dS, .ref dL, .ref dR, .ref dT, .ref dZ, .ref dI, .ref dH, .ref dN, .ref dK, .ref dJ, .ref dU, .ref dO, .int 0, .int 0, .ref dF, .ref dP, .ref dE, .ref dX, .ref dY, .int 0, .int 0, .ref dG])) := by rw [ef46, va_up_ne _ _ (Ne.symm n43)]; exact h41
      have n50 : dL ≠ mo := hne k_dL k_mo (Nat.ne_of_beq_eq_false rfl)
      have h49 : f2 dL = some (.inl (cI G, 2, .inl (mA2 (-1) (-1)))) := by rw [ef2, va_up_ne _ _ n50]; exact k_dL
      have h51 : f32 dL = some (.inl (cI G, 2, .inl (mA2 (-1) (-1)))) := by rw [e33, va_up_ne _ _ nd_dL_dQ]; exact h49
      have h52 : f39 dL = some (.inl (cI G, 2, .inl (mA2 (-1) (-1)))) := by rw [ef39, va_up_ne _ _ nd_dL_dS]; exact h51
      have h53 : f46 dL = some (.inl (cI G, 2, .inl (mA2 (-1) (-1)))) := by rw [ef46, va_up_ne _ _ nd_dL_dR]; exact h52
      have n55 : dT ≠ mo := hne k_dT k_mo (Nat.ne_of_beq_eq_false rfl)
      have h54 : f2 dT = some (.inl (cI G, 2, .inl (fun _ => 0))) := by rw [ef2, va_up_ne _ _ n55]; exact k_dT
      have h56 : f32 dT = some (.inl (cI G, 2, .inl (fun _ => 0))) := by rw [e33, va_up_ne _ _ (Ne.symm nd_dQ_dT)]; exact h54
      have h57 : f39 dT = some (.inl (cI G, 2, .inl (fun _ => 0))) := by rw [ef39, va_up_ne _ _ (Ne.symm nd_dS_dT)]; exact h56
      have h58 : f46 dT = some (.inl (cI G, 2, .inl (fun _ => 0))) := by rw [ef46, va_up_ne _ _ (Ne.symm nd_dR_dT)]; exact h57
      have h59 : f39 dQ = some (.inl (cI G, 12, .inl (upd (upd (upd (upd (upd (upd mA12 (0 : Int32).toNatClampNeg (-1)) (1 : Int32).toNatClampNeg (-1)) (2 : Int32).toNatClampNeg (-1)) (3 : Int32).toNatClampNeg (-1)) (4 : Int32).toNatClampNeg (-1)) (5 : Int32).toNatClampNeg (-1)))) := by rw [ef39, va_up_ne _ _ nd_dQ_dS]; exact h34
      have h60 : f46 dQ = some (.inl (cI G, 12, .inl (upd (upd (upd (upd (upd (upd mA12 (0 : Int32).toNatClampNeg (-1)) (1 : Int32).toNatClampNeg (-1)) (2 : Int32).toNatClampNeg (-1)) (3 : Int32).toNatClampNeg (-1)) (4 : Int32).toNatClampNeg (-1)) (5 : Int32).toNatClampNeg (-1)))) := by rw [ef46, va_up_ne _ _ nd_dQ_dR]; exact h59
      have n62 : dM ≠ mo := hne k_dM k_mo (Nat.ne_of_beq_eq_false rfl)
      have h61 : f2 dM = some (.inl (cI G, 2, .inl (mA2 1 2))) := by rw [ef2, va_up_ne _ _ n62]; exact k_dM
      have h63 : f32 dM = some (.inl (cI G, 2, .inl (mA2 1 2))) := by rw [e33, va_up_ne _ _ nd_dM_dQ]; exact h61
      have h64 : f39 dM = some (.inl (cI G, 2, .inl (mA2 1 2))) := by rw [ef39, va_up_ne _ _ nd_dM_dS]; exact h63
      have h65 : f46 dM = some (.inl (cI G, 2, .inl (mA2 1 2))) := by rw [ef46, va_up_ne _ _ nd_dM_dR]; exact h64
      have n67 : dH ≠ mo := hne k_dH k_mo (Nat.ne_of_beq_eq_false rfl)
      have h66 : f2 dH = some (.inl (cI G, 2, .inl (fun _ => 0))) := by rw [ef2, va_up_ne _ _ n67]; exact k_dH
      have h68 : f32 dH = some (.inl (cI G, 2, .inl (fun _ => 0))) := by rw [e33, va_up_ne _ _ nd_dH_dQ]; exact h66
      have h69 : f39 dH = some (.inl (cI G, 2, .inl (fun _ => 0))) := by rw [ef39, va_up_ne _ _ nd_dH_dS]; exact h68
      have h70 : f46 dH = some (.inl (cI G, 2, .inl (fun _ => 0))) := by rw [ef46, va_up_ne _ _ nd_dH_dR]; exact h69
      have n72 : dN ≠ mo := hne k_dN k_mo (Nat.ne_of_beq_eq_false rfl)
      have h71 : f2 dN = some (.inl (cI G, 2, .inl (fun _ => 0))) := by rw [ef2, va_up_ne _ _ n72]; exact k_dN
      have h73 : f32 dN = some (.inl (cI G, 2, .inl (fun _ => 0))) := by rw [e33, va_up_ne _ _ nd_dN_dQ]; exact h71
      have h74 : f39 dN = some (.inl (cI G, 2, .inl (fun _ => 0))) := by rw [ef39, va_up_ne _ _ nd_dN_dS]; exact h73
      have h75 : f46 dN = some (.inl (cI G, 2, .inl (fun _ => 0))) := by rw [ef46, va_up_ne _ _ nd_dN_dR]; exact h74
      have n77 : dK ≠ mo := hne k_dK k_mo (Nat.ne_of_beq_eq_false rfl)
      have h76 : f2 dK = some (.inl (cI G, 2048, .inl (fun _ => 0))) := by rw [ef2, va_up_ne _ _ n77]; exact k_dK
      have h78 : f32 dK = some (.inl (cI G, 2048, .inl (fun _ => 0))) := by rw [e33, va_up_ne _ _ nd_dK_dQ]; exact h76
      have h79 : f39 dK = some (.inl (cI G, 2048, .inl (fun _ => 0))) := by rw [ef39, va_up_ne _ _ nd_dK_dS]; exact h78
      have h80 : f46 dK = some (.inl (cI G, 2048, .inl (fun _ => 0))) := by rw [ef46, va_up_ne _ _ nd_dK_dR]; exact h79
      have n82 : dJ ≠ mo := hne k_dJ k_mo (Nat.ne_of_beq_eq_false rfl)
      have h81 : f2 dJ = some (.inl (cI G, 2048, .inl (fun _ => 0))) := by rw [ef2, va_up_ne _ _ n82]; exact k_dJ
      have h83 : f32 dJ = some (.inl (cI G, 2048, .inl (fun _ => 0))) := by rw [e33, va_up_ne _ _ nd_dJ_dQ]; exact h81
      have h84 : f39 dJ = some (.inl (cI G, 2048, .inl (fun _ => 0))) := by rw [ef39, va_up_ne _ _ nd_dJ_dS]; exact h83
      have h85 : f46 dJ = some (.inl (cI G, 2048, .inl (fun _ => 0))) := by rw [ef46, va_up_ne _ _ nd_dJ_dR]; exact h84
      have n87 : dU ≠ mo := hne k_dU k_mo (Nat.ne_of_beq_eq_false rfl)
      have h86 : f2 dU = some (.inl (cI G, 2048, .inl (fun _ => 0))) := by rw [ef2, va_up_ne _ _ n87]; exact k_dU
      have h88 : f32 dU = some (.inl (cI G, 2048, .inl (fun _ => 0))) := by rw [e33, va_up_ne _ _ (Ne.symm nd_dQ_dU)]; exact h86
      have h89 : f39 dU = some (.inl (cI G, 2048, .inl (fun _ => 0))) := by rw [ef39, va_up_ne _ _ (Ne.symm nd_dS_dU)]; exact h88
      have h90 : f46 dU = some (.inl (cI G, 2048, .inl (fun _ => 0))) := by rw [ef46, va_up_ne _ _ (Ne.symm nd_dR_dU)]; exact h89
      have n92 : dO ≠ mo := hne k_dO k_mo (Nat.ne_of_beq_eq_false rfl)
      have h91 : f2 dO = some (.inl (cI G, 2048, .inl (fun _ => 0))) := by rw [ef2, va_up_ne _ _ n92]; exact k_dO
      have h93 : f32 dO = some (.inl (cI G, 2048, .inl (fun _ => 0))) := by rw [e33, va_up_ne _ _ nd_dO_dQ]; exact h91
      have h94 : f39 dO = some (.inl (cI G, 2048, .inl (fun _ => 0))) := by rw [ef39, va_up_ne _ _ nd_dO_dS]; exact h93
      have h95 : f46 dO = some (.inl (cI G, 2048, .inl (fun _ => 0))) := by rw [ef46, va_up_ne _ _ nd_dO_dR]; exact h94
      refine hp_V (ci := 5) (As := [.int 0]) (rest := []) B0 hw hS (c_X5_begs0 hl G f46 mo dW dA dQ dM dS dL dR dT dZ dI dH dN dK dJ dU dO dF dP dE dX dY dG 0 h48 h47 h53 h58 h60 h65 h70 h75 h80 h85 h90 h95 nd_dH_dJ nd_dH_dK nd_dH_dL nd_dH_dM nd_dH_dN nd_dH_dO nd_dH_dQ nd_dH_dR nd_dH_dT nd_dH_dU nd_dJ_dK nd_dJ_dL nd_dJ_dM nd_dJ_dN nd_dJ_dO nd_dJ_dQ nd_dJ_dR nd_dJ_dT nd_dJ_dU nd_dK_dL nd_dK_dM nd_dK_dN nd_dK_dO nd_dK_dQ nd_dK_dR nd_dK_dT nd_dK_dU nd_dL_dM nd_dL_dN nd_dL_dO nd_dL_dQ nd_dL_dR nd_dL_dT nd_dL_dU nd_dM_dN nd_dM_dO nd_dM_dQ nd_dM_dR nd_dM_dT nd_dM_dU nd_dN_dO nd_dN_dQ nd_dN_dR nd_dN_dT nd_dN_dU nd_dO_dQ nd_dO_dR nd_dO_dT nd_dO_dU nd_dQ_dR nd_dQ_dT nd_dQ_dU nd_dR_dT nd_dR_dU nd_dT_dU) mV_X5_begs qM_X5_107 rfl h48 rfl rfl hl9.1 (Nat.le_of_ble_eq_true rfl) ⟨⟨Nat.le_of_ble_eq_true rfl, Nat.le_of_ble_eq_true rfl⟩, Nat.le_of_ble_eq_true rfl, Nat.le_of_ble_eq_true rfl⟩ dX5_open_88 (fun E ce q9 f96 H locs hPX hw hS hce hcv hcl => ?_) (fun v f96 H locs hP hw hS => ?_)
      · exact hPX.elim
      · obtain ⟨ev9, h98, k97⟩ := hP
        subst ev9
        refine W.eq (g2 := F0 m 91 ls [.int 1]) rfl ?_
        refine lv_pop hx hb dX5_open_91 rfl ?_
        refine lv_aload_n hx hb dX5_open_92 rfl (lv_at hl9 1 rfl) ?_
        have h99 : f96 mo = some (.inr (5, [.int 0, .ref dW, .ref dA, .ref dQ, .ref dM, .ref dS, .ref dL, .ref dR, .ref dT, .ref dZ, .ref dI, .ref dH, .ref dN, .ref dK, .ref dJ, .ref dU, .ref dO, .int 0, .int 0, .ref dF, .ref dP, .ref dE, .ref dX, .ref dY, .int 0, .int 0, .ref dG])) := k97 _ _ h48 (ninc (Ne.symm n50) (ninc (Ne.symm n43) (ninc (Ne.symm n55) (ninc (Ne.symm n77) (ninc (Ne.symm n82) (ninc (Ne.symm n87) (ninc (Ne.symm n92) (ninc (Ne.symm n72) nin0))))))))
        refine hp_get B0 hw 5 rfl in_X5 h99 6 (by decide) qF_X5_25 rfl dX5_open_93 ?_
        refine lv_iload_n hx hb dX5_open_96 rfl (lv_at hl9 2 rfl) ?_
        refine hp_iald B0 hw h98 (by unfold vp_in; decide) dX5_open_97 ?_
        refine hp_c (v := 0) (rfl) ?_
        exact hp_iret (v := 0) B0 hw hS hr ⟨Nat.le_of_ble_eq_true rfl, Nat.le_of_ble_eq_true rfl⟩ dX5_open_98 (⟨⟨_, rfl, fun _ => rfl⟩, ⟨_, (by rw [show spc (sE 0) True = 0 from (spc_0 (Or.inl rfl) trivial)]; exact h99)⟩, ((show hKeep [mo, dQ, dS, dL, dR, dT, dK, dJ, dU, dO, dN] f f2 from (by rw [ef2]; exact hKeep.up (by simp))).tr ((show hKeep [mo, dQ, dS, dL, dR, dT, dK, dJ, dU, dO, dN] f2 f32 from (by rw [e33]; exact hKeep.up (by simp))).tr ((show hKeep [mo, dQ, dS, dL, dR, dT, dK, dJ, dU, dO, dN] f32 f39 from (by rw [ef39]; exact hKeep.up (by simp))).tr ((show hKeep [mo, dQ, dS, dL, dR, dT, dK, dJ, dU, dO, dN] f39 f46 from (by rw [ef46]; exact hKeep.up (by simp))).tr (show hKeep [mo, dQ, dS, dL, dR, dT, dK, dJ, dU, dO, dN] f46 f96 from (k97.mono (fun x9 hx9 => by simp only [List.mem_cons, List.not_mem_nil, or_false] at hx9 ⊢; omega)))))))⟩)
    · subst ev9
      subst b9
      refine W.eq (g2 := F0 m 5 ls [.int 1, .ref mo]) rfl ?_
      refine lv_if_ne (tgt := 12) hx hb dX5_open_5 (by decide) (fun _ => ?_) (fun c9 => absurd c9 (by decide))
      refine lv_aload_n hx hb dX5_open_12 rfl (lv_at hl9 0 rfl) ?_
      refine hp_get B0 hw 5 rfl in_X5 k_mo 5 (by decide) qF_X5_22 rfl dX5_open_13 ?_
      refine lv_iload_n hx hb dX5_open_16 rfl (lv_at hl9 1 rfl) ?_
      refine hp_iald B0 hw k_dS (by unfold vp_in; decide) dX5_open_17 ?_
      refine hp_c (v := 0) (rfl) ?_
      refine lv_if_eq (tgt := 25) hx hb dX5_open_18 (by decide) (fun _ => ?_) (fun c9 => absurd (by decide) c9)
      refine lv_iconst (v := 0) hx hb dX5_open_25 (by decide) ?_
      refine hp_put (fs1 := [.int 0, .ref dW, .ref dA, .ref dQ, .ref dM, .ref dS, .ref dL, .ref dR, .ref dT, .ref dZ, .ref dI, .ref dH, .ref dN, .ref dK, .ref dJ, .ref dU, .ref dO, .int 0, .int 0, .ref dF, .ref dP, .ref dE, .ref dX, .ref dY, .int 0, .int 0, .ref dG]) (ty := .int) B0 hw hS 5 rfl in_X5 tyX5 tyX5_ok nmX5 k_mo 0 (by decide) qF_X5_77 rfl (by decide +kernel) rfl rfl (Nat.le_of_ble_eq_true rfl) rfl dX5_open_26 (fun H locs f100 ef100 hw hS => ?_)
      have h101 : f100 mo = some (.inr (5, [.int 0, .ref dW, .ref dA, .ref dQ, .ref dM, .ref dS, .ref dL, .ref dR, .ref dT, .ref dZ, .ref dI, .ref dH, .ref dN, .ref dK, .ref dJ, .ref dU, .ref dO, .int 0, .int 0, .ref dF, .ref dP, .ref dE, .ref dX, .ref dY, .int 0, .int 0, .ref dG])) := by rw [ef100, va_up_self]
      refine lv_aload_n hx hb dX5_open_29 rfl (lv_at hl9 0 rfl) ?_
      refine hp_get B0 hw 5 rfl in_X5 h101 0 (by decide) qF_X5_77 rfl dX5_open_30 ?_
      refine lv_if_le (tgt := 38) hx hb dX5_open_33 (by decide) (fun _ => ?_) (fun c9 => absurd (by decide) c9)
      refine lv_bipush (v := 6) hx hb dX5_open_38 (by decide) ?_
      refine lv_iload_n hx hb dX5_open_40 rfl (lv_at hl9 1 rfl) ?_
      refine lv_imul hx hb dX5_open_41 ?_
      refine hp_c (v := 6) (by decide) ?_
      refine lv_istore_n (lv' := [(2, .int 6), (0, .ref mo), (1, .int 1)]) hx hb dX5_open_42 rfl hl9 (by decide) rfl (fun ls hl9 => ?_)
      refine lv_iload_n hx hb dX5_open_43 rfl (lv_at hl9 0 rfl) ?_
      refine lv_bipush (v := 6) hx hb dX5_open_44 (by decide) ?_
      refine lv_iload_n hx hb dX5_open_46 rfl (lv_at hl9 2 rfl) ?_
      refine lv_imul hx hb dX5_open_47 ?_
      refine hp_c (v := 6) (by decide) ?_
      refine lv_bipush (v := 6) hx hb dX5_open_48 (by decide) ?_
      refine lv_iadd hx hb dX5_open_50 ?_
      refine hp_c (v := 12) (by decide) ?_
      refine lv_icmp_ge (tgt := 72) hx hb dX5_open_51 (by decide) (fun c9 => absurd c9 (by decide)) (fun _ => ?_)
      refine lv_aload_n hx hb dX5_open_54 rfl (lv_at hl9 1 rfl) ?_
      refine hp_get B0 hw 5 rfl in_X5 h101 3 (by decide) qF_X5_16 rfl dX5_open_55 ?_
      refine lv_iload_n hx hb dX5_open_58 rfl (lv_at hl9 0 rfl) ?_
      refine lv_aload_n hx hb dX5_open_59 rfl (lv_at hl9 1 rfl) ?_
      refine hp_get B0 hw 5 rfl in_X5 h101 1 (by decide) qF_X5_9 rfl dX5_open_60 ?_
      refine lv_iload_n hx hb dX5_open_63 rfl (lv_at hl9 0 rfl) ?_
      have n103 : dW ≠ mo := hne k_dW k_mo (Nat.ne_of_beq_eq_false rfl)
      have h102 : f100 dW = some (.inl (cI G, 12, .inl mA12)) := by rw [ef100, va_up_ne _ _ n103]; exact k_dW
      refine hp_iald B0 hw h102 (by unfold vp_in; decide) dX5_open_64 ?_
      refine hp_c (v := (-1)) (rfl) ?_
      have n105 : dQ ≠ mo := hne k_dQ k_mo (Nat.ne_of_beq_eq_false rfl)
      have h104 : f100 dQ = some (.inl (cI G, 12, .inl mA12)) := by rw [ef100, va_up_ne _ _ n105]; exact k_dQ
      refine hp_iast B0 hw hS h104 (by unfold vp_in; decide) dX5_open_65 (fun H locs f106 ef106 hw hS => ?_)
      have h107 : f106 dQ = some (.inl (cI G, 12, .inl (upd mA12 (6 : Int32).toNatClampNeg (-1)))) := by rw [ef106, va_up_self]
      refine lv_iinc (v := 7) (lv' := [(2, .int 7), (0, .ref mo), (1, .int 1)]) hx hb dX5_open_66 hl9 (k := 0) rfl (by decide) (by decide) rfl (fun ls hl9 => ?_)
      refine lv_goto (tgt := 43) hx hb dX5_open_69 (by decide) ?_
      refine lv_iload_n hx hb dX5_open_43 rfl (lv_at hl9 0 rfl) ?_
      refine lv_bipush (v := 6) hx hb dX5_open_44 (by decide) ?_
      refine lv_iload_n hx hb dX5_open_46 rfl (lv_at hl9 2 rfl) ?_
      refine lv_imul hx hb dX5_open_47 ?_
      refine hp_c (v := 6) (by decide) ?_
      refine lv_bipush (v := 6) hx hb dX5_open_48 (by decide) ?_
      refine lv_iadd hx hb dX5_open_50 ?_
      refine hp_c (v := 12) (by decide) ?_
      refine lv_icmp_ge (tgt := 72) hx hb dX5_open_51 (by decide) (fun c9 => absurd c9 (by decide)) (fun _ => ?_)
      refine lv_aload_n hx hb dX5_open_54 rfl (lv_at hl9 1 rfl) ?_
      have h108 : f106 mo = some (.inr (5, [.int 0, .ref dW, .ref dA, .ref dQ, .ref dM, .ref dS, .ref dL, .ref dR, .ref dT, .ref dZ, .ref dI, .ref dH, .ref dN, .ref dK, .ref dJ, .ref dU, .ref dO, .int 0, .int 0, .ref dF, .ref dP, .ref dE, .ref dX, .ref dY, .int 0, .int 0, .ref dG])) := by rw [ef106, va_up_ne _ _ (Ne.symm n105)]; exact h101
      refine hp_get B0 hw 5 rfl in_X5 h108 3 (by decide) qF_X5_16 rfl dX5_open_55 ?_
      refine lv_iload_n hx hb dX5_open_58 rfl (lv_at hl9 0 rfl) ?_
      refine lv_aload_n hx hb dX5_open_59 rfl (lv_at hl9 1 rfl) ?_
      refine hp_get B0 hw 5 rfl in_X5 h108 1 (by decide) qF_X5_9 rfl dX5_open_60 ?_
      refine lv_iload_n hx hb dX5_open_63 rfl (lv_at hl9 0 rfl) ?_
      have h109 : f106 dW = some (.inl (cI G, 12, .inl mA12)) := by rw [ef106, va_up_ne _ _ (Ne.symm nd_dQ_dW)]; exact h102
      refine hp_iald B0 hw h109 (by unfold vp_in; decide) dX5_open_64 ?_
      refine hp_c (v := (-1)) (rfl) ?_
      refine hp_iast B0 hw hS h107 (by unfold vp_in; decide) dX5_open_65 (fun H locs f110 ef110 hw hS => ?_)
      have e111 : f110 = va_up f100 dQ (some (.inl (cI G, 12, .inl (upd (upd mA12 (6 : Int32).toNatClampNeg (-1)) (7 : Int32).toNatClampNeg (-1))))) := by rw [ef110, ef106, bx_uu]
      have h112 : f110 dQ = some (.inl (cI G, 12, .inl (upd (upd mA12 (6 : Int32).toNatClampNeg (-1)) (7 : Int32).toNatClampNeg (-1)))) := by rw [ef110, va_up_self]
      refine lv_iinc (v := 8) (lv' := [(2, .int 8), (0, .ref mo), (1, .int 1)]) hx hb dX5_open_66 hl9 (k := 0) rfl (by decide) (by decide) rfl (fun ls hl9 => ?_)
      refine lv_goto (tgt := 43) hx hb dX5_open_69 (by decide) ?_
      refine lv_iload_n hx hb dX5_open_43 rfl (lv_at hl9 0 rfl) ?_
      refine lv_bipush (v := 6) hx hb dX5_open_44 (by decide) ?_
      refine lv_iload_n hx hb dX5_open_46 rfl (lv_at hl9 2 rfl) ?_
      refine lv_imul hx hb dX5_open_47 ?_
      refine hp_c (v := 6) (by decide) ?_
      refine lv_bipush (v := 6) hx hb dX5_open_48 (by decide) ?_
      refine lv_iadd hx hb dX5_open_50 ?_
      refine hp_c (v := 12) (by decide) ?_
      refine lv_icmp_ge (tgt := 72) hx hb dX5_open_51 (by decide) (fun c9 => absurd c9 (by decide)) (fun _ => ?_)
      refine lv_aload_n hx hb dX5_open_54 rfl (lv_at hl9 1 rfl) ?_
      have h113 : f110 mo = some (.inr (5, [.int 0, .ref dW, .ref dA, .ref dQ, .ref dM, .ref dS, .ref dL, .ref dR, .ref dT, .ref dZ, .ref dI, .ref dH, .ref dN, .ref dK, .ref dJ, .ref dU, .ref dO, .int 0, .int 0, .ref dF, .ref dP, .ref dE, .ref dX, .ref dY, .int 0, .int 0, .ref dG])) := by rw [e111, va_up_ne _ _ (Ne.symm n105)]; exact h101
      refine hp_get B0 hw 5 rfl in_X5 h113 3 (by decide) qF_X5_16 rfl dX5_open_55 ?_
      refine lv_iload_n hx hb dX5_open_58 rfl (lv_at hl9 0 rfl) ?_
      refine lv_aload_n hx hb dX5_open_59 rfl (lv_at hl9 1 rfl) ?_
      refine hp_get B0 hw 5 rfl in_X5 h113 1 (by decide) qF_X5_9 rfl dX5_open_60 ?_
      refine lv_iload_n hx hb dX5_open_63 rfl (lv_at hl9 0 rfl) ?_
      have h114 : f110 dW = some (.inl (cI G, 12, .inl mA12)) := by rw [e111, va_up_ne _ _ (Ne.symm nd_dQ_dW)]; exact h102
      refine hp_iald B0 hw h114 (by unfold vp_in; decide) dX5_open_64 ?_
      refine hp_c (v := (-1)) (rfl) ?_
      refine hp_iast B0 hw hS h112 (by unfold vp_in; decide) dX5_open_65 (fun H locs f115 ef115 hw hS => ?_)
      have e116 : f115 = va_up f100 dQ (some (.inl (cI G, 12, .inl (upd (upd (upd mA12 (6 : Int32).toNatClampNeg (-1)) (7 : Int32).toNatClampNeg (-1)) (8 : Int32).toNatClampNeg (-1))))) := by rw [ef115, e111, bx_uu]
      have h117 : f115 dQ = some (.inl (cI G, 12, .inl (upd (upd (upd mA12 (6 : Int32).toNatClampNeg (-1)) (7 : Int32).toNatClampNeg (-1)) (8 : Int32).toNatClampNeg (-1)))) := by rw [ef115, va_up_self]
      refine lv_iinc (v := 9) (lv' := [(2, .int 9), (0, .ref mo), (1, .int 1)]) hx hb dX5_open_66 hl9 (k := 0) rfl (by decide) (by decide) rfl (fun ls hl9 => ?_)
      refine lv_goto (tgt := 43) hx hb dX5_open_69 (by decide) ?_
      refine lv_iload_n hx hb dX5_open_43 rfl (lv_at hl9 0 rfl) ?_
      refine lv_bipush (v := 6) hx hb dX5_open_44 (by decide) ?_
      refine lv_iload_n hx hb dX5_open_46 rfl (lv_at hl9 2 rfl) ?_
      refine lv_imul hx hb dX5_open_47 ?_
      refine hp_c (v := 6) (by decide) ?_
      refine lv_bipush (v := 6) hx hb dX5_open_48 (by decide) ?_
      refine lv_iadd hx hb dX5_open_50 ?_
      refine hp_c (v := 12) (by decide) ?_
      refine lv_icmp_ge (tgt := 72) hx hb dX5_open_51 (by decide) (fun c9 => absurd c9 (by decide)) (fun _ => ?_)
      refine lv_aload_n hx hb dX5_open_54 rfl (lv_at hl9 1 rfl) ?_
      have h118 : f115 mo = some (.inr (5, [.int 0, .ref dW, .ref dA, .ref dQ, .ref dM, .ref dS, .ref dL, .ref dR, .ref dT, .ref dZ, .ref dI, .ref dH, .ref dN, .ref dK, .ref dJ, .ref dU, .ref dO, .int 0, .int 0, .ref dF, .ref dP, .ref dE, .ref dX, .ref dY, .int 0, .int 0, .ref dG])) := by rw [e116, va_up_ne _ _ (Ne.symm n105)]; exact h101
      refine hp_get B0 hw 5 rfl in_X5 h118 3 (by decide) qF_X5_16 rfl dX5_open_55 ?_
      refine lv_iload_n hx hb dX5_open_58 rfl (lv_at hl9 0 rfl) ?_
      refine lv_aload_n hx hb dX5_open_59 rfl (lv_at hl9 1 rfl) ?_
      refine hp_get B0 hw 5 rfl in_X5 h118 1 (by decide) qF_X5_9 rfl dX5_open_60 ?_
      refine lv_iload_n hx hb dX5_open_63 rfl (lv_at hl9 0 rfl) ?_
      have h119 : f115 dW = some (.inl (cI G, 12, .inl mA12)) := by rw [e116, va_up_ne _ _ (Ne.symm nd_dQ_dW)]; exact h102
      refine hp_iald B0 hw h119 (by unfold vp_in; decide) dX5_open_64 ?_
      refine hp_c (v := (-1)) (rfl) ?_
      refine hp_iast B0 hw hS h117 (by unfold vp_in; decide) dX5_open_65 (fun H locs f120 ef120 hw hS => ?_)
      have e121 : f120 = va_up f100 dQ (some (.inl (cI G, 12, .inl (upd (upd (upd (upd mA12 (6 : Int32).toNatClampNeg (-1)) (7 : Int32).toNatClampNeg (-1)) (8 : Int32).toNatClampNeg (-1)) (9 : Int32).toNatClampNeg (-1))))) := by rw [ef120, e116, bx_uu]
      have h122 : f120 dQ = some (.inl (cI G, 12, .inl (upd (upd (upd (upd mA12 (6 : Int32).toNatClampNeg (-1)) (7 : Int32).toNatClampNeg (-1)) (8 : Int32).toNatClampNeg (-1)) (9 : Int32).toNatClampNeg (-1)))) := by rw [ef120, va_up_self]
      refine lv_iinc (v := 10) (lv' := [(2, .int 10), (0, .ref mo), (1, .int 1)]) hx hb dX5_open_66 hl9 (k := 0) rfl (by decide) (by decide) rfl (fun ls hl9 => ?_)
      refine lv_goto (tgt := 43) hx hb dX5_open_69 (by decide) ?_
      refine lv_iload_n hx hb dX5_open_43 rfl (lv_at hl9 0 rfl) ?_
      refine lv_bipush (v := 6) hx hb dX5_open_44 (by decide) ?_
      refine lv_iload_n hx hb dX5_open_46 rfl (lv_at hl9 2 rfl) ?_
      refine lv_imul hx hb dX5_open_47 ?_
      refine hp_c (v := 6) (by decide) ?_
      refine lv_bipush (v := 6) hx hb dX5_open_48 (by decide) ?_
      refine lv_iadd hx hb dX5_open_50 ?_
      refine hp_c (v := 12) (by decide) ?_
      refine lv_icmp_ge (tgt := 72) hx hb dX5_open_51 (by decide) (fun c9 => absurd c9 (by decide)) (fun _ => ?_)
      refine lv_aload_n hx hb dX5_open_54 rfl (lv_at hl9 1 rfl) ?_
      have h123 : f120 mo = some (.inr (5, [.int 0, .ref dW, .ref dA, .ref dQ, .ref dM, .ref dS, .ref dL, .ref dR, .ref dT, .ref dZ, .ref dI, .ref dH, .ref dN, .ref dK, .ref dJ, .ref dU, .ref dO, .int 0, .int 0, .ref dF, .ref dP, .ref dE, .ref dX, .ref dY, .int 0, .int 0, .ref dG])) := by rw [e121, va_up_ne _ _ (Ne.symm n105)]; exact h101
      refine hp_get B0 hw 5 rfl in_X5 h123 3 (by decide) qF_X5_16 rfl dX5_open_55 ?_
      refine lv_iload_n hx hb dX5_open_58 rfl (lv_at hl9 0 rfl) ?_
      refine lv_aload_n hx hb dX5_open_59 rfl (lv_at hl9 1 rfl) ?_
      refine hp_get B0 hw 5 rfl in_X5 h123 1 (by decide) qF_X5_9 rfl dX5_open_60 ?_
      refine lv_iload_n hx hb dX5_open_63 rfl (lv_at hl9 0 rfl) ?_
      have h124 : f120 dW = some (.inl (cI G, 12, .inl mA12)) := by rw [e121, va_up_ne _ _ (Ne.symm nd_dQ_dW)]; exact h102
      refine hp_iald B0 hw h124 (by unfold vp_in; decide) dX5_open_64 ?_
      refine hp_c (v := (-1)) (rfl) ?_
      refine hp_iast B0 hw hS h122 (by unfold vp_in; decide) dX5_open_65 (fun H locs f125 ef125 hw hS => ?_)
      have e126 : f125 = va_up f100 dQ (some (.inl (cI G, 12, .inl (upd (upd (upd (upd (upd mA12 (6 : Int32).toNatClampNeg (-1)) (7 : Int32).toNatClampNeg (-1)) (8 : Int32).toNatClampNeg (-1)) (9 : Int32).toNatClampNeg (-1)) (10 : Int32).toNatClampNeg (-1))))) := by rw [ef125, e121, bx_uu]
      have h127 : f125 dQ = some (.inl (cI G, 12, .inl (upd (upd (upd (upd (upd mA12 (6 : Int32).toNatClampNeg (-1)) (7 : Int32).toNatClampNeg (-1)) (8 : Int32).toNatClampNeg (-1)) (9 : Int32).toNatClampNeg (-1)) (10 : Int32).toNatClampNeg (-1)))) := by rw [ef125, va_up_self]
      refine lv_iinc (v := 11) (lv' := [(2, .int 11), (0, .ref mo), (1, .int 1)]) hx hb dX5_open_66 hl9 (k := 0) rfl (by decide) (by decide) rfl (fun ls hl9 => ?_)
      refine lv_goto (tgt := 43) hx hb dX5_open_69 (by decide) ?_
      refine lv_iload_n hx hb dX5_open_43 rfl (lv_at hl9 0 rfl) ?_
      refine lv_bipush (v := 6) hx hb dX5_open_44 (by decide) ?_
      refine lv_iload_n hx hb dX5_open_46 rfl (lv_at hl9 2 rfl) ?_
      refine lv_imul hx hb dX5_open_47 ?_
      refine hp_c (v := 6) (by decide) ?_
      refine lv_bipush (v := 6) hx hb dX5_open_48 (by decide) ?_
      refine lv_iadd hx hb dX5_open_50 ?_
      refine hp_c (v := 12) (by decide) ?_
      refine lv_icmp_ge (tgt := 72) hx hb dX5_open_51 (by decide) (fun c9 => absurd c9 (by decide)) (fun _ => ?_)
      refine lv_aload_n hx hb dX5_open_54 rfl (lv_at hl9 1 rfl) ?_
      have h128 : f125 mo = some (.inr (5, [.int 0, .ref dW, .ref dA, .ref dQ, .ref dM, .ref dS, .ref dL, .ref dR, .ref dT, .ref dZ, .ref dI, .ref dH, .ref dN, .ref dK, .ref dJ, .ref dU, .ref dO, .int 0, .int 0, .ref dF, .ref dP, .ref dE, .ref dX, .ref dY, .int 0, .int 0, .ref dG])) := by rw [e126, va_up_ne _ _ (Ne.symm n105)]; exact h101
      refine hp_get B0 hw 5 rfl in_X5 h128 3 (by decide) qF_X5_16 rfl dX5_open_55 ?_
      refine lv_iload_n hx hb dX5_open_58 rfl (lv_at hl9 0 rfl) ?_
      refine lv_aload_n hx hb dX5_open_59 rfl (lv_at hl9 1 rfl) ?_
      refine hp_get B0 hw 5 rfl in_X5 h128 1 (by decide) qF_X5_9 rfl dX5_open_60 ?_
      refine lv_iload_n hx hb dX5_open_63 rfl (lv_at hl9 0 rfl) ?_
      have h129 : f125 dW = some (.inl (cI G, 12, .inl mA12)) := by rw [e126, va_up_ne _ _ (Ne.symm nd_dQ_dW)]; exact h102
      refine hp_iald B0 hw h129 (by unfold vp_in; decide) dX5_open_64 ?_
      refine hp_c (v := (-1)) (rfl) ?_
      refine hp_iast B0 hw hS h127 (by unfold vp_in; decide) dX5_open_65 (fun H locs f130 ef130 hw hS => ?_)
      have e131 : f130 = va_up f100 dQ (some (.inl (cI G, 12, .inl (upd (upd (upd (upd (upd (upd mA12 (6 : Int32).toNatClampNeg (-1)) (7 : Int32).toNatClampNeg (-1)) (8 : Int32).toNatClampNeg (-1)) (9 : Int32).toNatClampNeg (-1)) (10 : Int32).toNatClampNeg (-1)) (11 : Int32).toNatClampNeg (-1))))) := by rw [ef130, e126, bx_uu]
      have h132 : f130 dQ = some (.inl (cI G, 12, .inl (upd (upd (upd (upd (upd (upd mA12 (6 : Int32).toNatClampNeg (-1)) (7 : Int32).toNatClampNeg (-1)) (8 : Int32).toNatClampNeg (-1)) (9 : Int32).toNatClampNeg (-1)) (10 : Int32).toNatClampNeg (-1)) (11 : Int32).toNatClampNeg (-1)))) := by rw [ef130, va_up_self]
      refine lv_iinc (v := 12) (lv' := [(2, .int 12), (0, .ref mo), (1, .int 1)]) hx hb dX5_open_66 hl9 (k := 0) rfl (by decide) (by decide) rfl (fun ls hl9 => ?_)
      refine lv_goto (tgt := 43) hx hb dX5_open_69 (by decide) ?_
      refine lv_iload_n hx hb dX5_open_43 rfl (lv_at hl9 0 rfl) ?_
      refine lv_bipush (v := 6) hx hb dX5_open_44 (by decide) ?_
      refine lv_iload_n hx hb dX5_open_46 rfl (lv_at hl9 2 rfl) ?_
      refine lv_imul hx hb dX5_open_47 ?_
      refine hp_c (v := 6) (by decide) ?_
      refine lv_bipush (v := 6) hx hb dX5_open_48 (by decide) ?_
      refine lv_iadd hx hb dX5_open_50 ?_
      refine hp_c (v := 12) (by decide) ?_
      refine lv_icmp_ge (tgt := 72) hx hb dX5_open_51 (by decide) (fun _ => ?_) (fun c9 => absurd (by decide) c9)
      refine lv_aload_n hx hb dX5_open_72 rfl (lv_at hl9 1 rfl) ?_
      have h133 : f130 mo = some (.inr (5, [.int 0, .ref dW, .ref dA, .ref dQ, .ref dM, .ref dS, .ref dL, .ref dR, .ref dT, .ref dZ, .ref dI, .ref dH, .ref dN, .ref dK, .ref dJ, .ref dU, .ref dO, .int 0, .int 0, .ref dF, .ref dP, .ref dE, .ref dX, .ref dY, .int 0, .int 0, .ref dG])) := by rw [e131, va_up_ne _ _ (Ne.symm n105)]; exact h101
      refine hp_get B0 hw 5 rfl in_X5 h133 5 (by decide) qF_X5_22 rfl dX5_open_73 ?_
      refine lv_iload_n hx hb dX5_open_76 rfl (lv_at hl9 2 rfl) ?_
      refine lv_iconst (v := 1) hx hb dX5_open_77 (by decide) ?_
      have n135 : dS ≠ mo := hne k_dS k_mo (Nat.ne_of_beq_eq_false rfl)
      have h134 : f100 dS = some (.inl (cI G, 2, .inl (fun _ => 0))) := by rw [ef100, va_up_ne _ _ n135]; exact k_dS
      have h136 : f130 dS = some (.inl (cI G, 2, .inl (fun _ => 0))) := by rw [e131, va_up_ne _ _ (Ne.symm nd_dQ_dS)]; exact h134
      refine hp_iast B0 hw hS h136 (by unfold vp_in; decide) dX5_open_78 (fun H locs f137 ef137 hw hS => ?_)
      have h138 : f137 dS = some (.inl (cI G, 2, .inl (upd (fun _ => 0) (1 : Int32).toNatClampNeg 1))) := by rw [ef137, va_up_self]
      refine lv_aload_n hx hb dX5_open_79 rfl (lv_at hl9 1 rfl) ?_
      have h139 : f137 mo = some (.inr (5, [.int 0, .ref dW, .ref dA, .ref dQ, .ref dM, .ref dS, .ref dL, .ref dR, .ref dT, .ref dZ, .ref dI, .ref dH, .ref dN, .ref dK, .ref dJ, .ref dU, .ref dO, .int 0, .int 0, .ref dF, .ref dP, .ref dE, .ref dX, .ref dY, .int 0, .int 0, .ref dG])) := by rw [ef137, va_up_ne _ _ (Ne.symm n135)]; exact h133
      refine hp_get B0 hw 5 rfl in_X5 h139 7 (by decide) qF_X5_28 rfl dX5_open_80 ?_
      refine lv_iload_n hx hb dX5_open_83 rfl (lv_at hl9 2 rfl) ?_
      refine lv_iconst (v := 0) hx hb dX5_open_84 (by decide) ?_
      have n141 : dR ≠ mo := hne k_dR k_mo (Nat.ne_of_beq_eq_false rfl)
      have h140 : f100 dR = some (.inl (cI G, 2, .inl (fun _ => 0))) := by rw [ef100, va_up_ne _ _ n141]; exact k_dR
      have h142 : f130 dR = some (.inl (cI G, 2, .inl (fun _ => 0))) := by rw [e131, va_up_ne _ _ (Ne.symm nd_dQ_dR)]; exact h140
      have h143 : f137 dR = some (.inl (cI G, 2, .inl (fun _ => 0))) := by rw [ef137, va_up_ne _ _ nd_dR_dS]; exact h142
      refine hp_iast B0 hw hS h143 (by unfold vp_in; decide) dX5_open_85 (fun H locs f144 ef144 hw hS => ?_)
      have h145 : f144 dR = some (.inl (cI G, 2, .inl (upd (fun _ => 0) (1 : Int32).toNatClampNeg 0))) := by rw [ef144, va_up_self]
      refine lv_aload_n hx hb dX5_open_86 rfl (lv_at hl9 1 rfl) ?_
      refine lv_iload_n hx hb dX5_open_87 rfl (lv_at hl9 2 rfl) ?_
      have h146 : f144 mo = some (.inr (5, [.int 0, .ref dW, .ref dA, .ref dQ, .ref dM, .ref dS, .ref dL, .ref dR, .ref dT, .ref dZ, .ref dI, .ref dH, .ref dN, .ref dK, .ref dJ, .ref dU, .ref dO, .int 0, .int 0, .ref dF, .ref dP, .ref dE, .ref dX, .ref dY, .int 0, .int 0, .ref dG])) := by rw [ef144, va_up_ne _ _ (Ne.symm n141)]; exact h139
      have n148 : dL ≠ mo := hne k_dL k_mo (Nat.ne_of_beq_eq_false rfl)
      have h147 : f100 dL = some (.inl (cI G, 2, .inl (mA2 (-1) (-1)))) := by rw [ef100, va_up_ne _ _ n148]; exact k_dL
      have h149 : f130 dL = some (.inl (cI G, 2, .inl (mA2 (-1) (-1)))) := by rw [e131, va_up_ne _ _ nd_dL_dQ]; exact h147
      have h150 : f137 dL = some (.inl (cI G, 2, .inl (mA2 (-1) (-1)))) := by rw [ef137, va_up_ne _ _ nd_dL_dS]; exact h149
      have h151 : f144 dL = some (.inl (cI G, 2, .inl (mA2 (-1) (-1)))) := by rw [ef144, va_up_ne _ _ nd_dL_dR]; exact h150
      have n153 : dT ≠ mo := hne k_dT k_mo (Nat.ne_of_beq_eq_false rfl)
      have h152 : f100 dT = some (.inl (cI G, 2, .inl (fun _ => 0))) := by rw [ef100, va_up_ne _ _ n153]; exact k_dT
      have h154 : f130 dT = some (.inl (cI G, 2, .inl (fun _ => 0))) := by rw [e131, va_up_ne _ _ (Ne.symm nd_dQ_dT)]; exact h152
      have h155 : f137 dT = some (.inl (cI G, 2, .inl (fun _ => 0))) := by rw [ef137, va_up_ne _ _ (Ne.symm nd_dS_dT)]; exact h154
      have h156 : f144 dT = some (.inl (cI G, 2, .inl (fun _ => 0))) := by rw [ef144, va_up_ne _ _ (Ne.symm nd_dR_dT)]; exact h155
      have h157 : f137 dQ = some (.inl (cI G, 12, .inl (upd (upd (upd (upd (upd (upd mA12 (6 : Int32).toNatClampNeg (-1)) (7 : Int32).toNatClampNeg (-1)) (8 : Int32).toNatClampNeg (-1)) (9 : Int32).toNatClampNeg (-1)) (10 : Int32).toNatClampNeg (-1)) (11 : Int32).toNatClampNeg (-1)))) := by rw [ef137, va_up_ne _ _ nd_dQ_dS]; exact h132
      have h158 : f144 dQ = some (.inl (cI G, 12, .inl (upd (upd (upd (upd (upd (upd mA12 (6 : Int32).toNatClampNeg (-1)) (7 : Int32).toNatClampNeg (-1)) (8 : Int32).toNatClampNeg (-1)) (9 : Int32).toNatClampNeg (-1)) (10 : Int32).toNatClampNeg (-1)) (11 : Int32).toNatClampNeg (-1)))) := by rw [ef144, va_up_ne _ _ nd_dQ_dR]; exact h157
      have n160 : dM ≠ mo := hne k_dM k_mo (Nat.ne_of_beq_eq_false rfl)
      have h159 : f100 dM = some (.inl (cI G, 2, .inl (mA2 1 2))) := by rw [ef100, va_up_ne _ _ n160]; exact k_dM
      have h161 : f130 dM = some (.inl (cI G, 2, .inl (mA2 1 2))) := by rw [e131, va_up_ne _ _ nd_dM_dQ]; exact h159
      have h162 : f137 dM = some (.inl (cI G, 2, .inl (mA2 1 2))) := by rw [ef137, va_up_ne _ _ nd_dM_dS]; exact h161
      have h163 : f144 dM = some (.inl (cI G, 2, .inl (mA2 1 2))) := by rw [ef144, va_up_ne _ _ nd_dM_dR]; exact h162
      have n165 : dH ≠ mo := hne k_dH k_mo (Nat.ne_of_beq_eq_false rfl)
      have h164 : f100 dH = some (.inl (cI G, 2, .inl (fun _ => 0))) := by rw [ef100, va_up_ne _ _ n165]; exact k_dH
      have h166 : f130 dH = some (.inl (cI G, 2, .inl (fun _ => 0))) := by rw [e131, va_up_ne _ _ nd_dH_dQ]; exact h164
      have h167 : f137 dH = some (.inl (cI G, 2, .inl (fun _ => 0))) := by rw [ef137, va_up_ne _ _ nd_dH_dS]; exact h166
      have h168 : f144 dH = some (.inl (cI G, 2, .inl (fun _ => 0))) := by rw [ef144, va_up_ne _ _ nd_dH_dR]; exact h167
      have n170 : dN ≠ mo := hne k_dN k_mo (Nat.ne_of_beq_eq_false rfl)
      have h169 : f100 dN = some (.inl (cI G, 2, .inl (fun _ => 0))) := by rw [ef100, va_up_ne _ _ n170]; exact k_dN
      have h171 : f130 dN = some (.inl (cI G, 2, .inl (fun _ => 0))) := by rw [e131, va_up_ne _ _ nd_dN_dQ]; exact h169
      have h172 : f137 dN = some (.inl (cI G, 2, .inl (fun _ => 0))) := by rw [ef137, va_up_ne _ _ nd_dN_dS]; exact h171
      have h173 : f144 dN = some (.inl (cI G, 2, .inl (fun _ => 0))) := by rw [ef144, va_up_ne _ _ nd_dN_dR]; exact h172
      have n175 : dK ≠ mo := hne k_dK k_mo (Nat.ne_of_beq_eq_false rfl)
      have h174 : f100 dK = some (.inl (cI G, 2048, .inl (fun _ => 0))) := by rw [ef100, va_up_ne _ _ n175]; exact k_dK
      have h176 : f130 dK = some (.inl (cI G, 2048, .inl (fun _ => 0))) := by rw [e131, va_up_ne _ _ nd_dK_dQ]; exact h174
      have h177 : f137 dK = some (.inl (cI G, 2048, .inl (fun _ => 0))) := by rw [ef137, va_up_ne _ _ nd_dK_dS]; exact h176
      have h178 : f144 dK = some (.inl (cI G, 2048, .inl (fun _ => 0))) := by rw [ef144, va_up_ne _ _ nd_dK_dR]; exact h177
      have n180 : dJ ≠ mo := hne k_dJ k_mo (Nat.ne_of_beq_eq_false rfl)
      have h179 : f100 dJ = some (.inl (cI G, 2048, .inl (fun _ => 0))) := by rw [ef100, va_up_ne _ _ n180]; exact k_dJ
      have h181 : f130 dJ = some (.inl (cI G, 2048, .inl (fun _ => 0))) := by rw [e131, va_up_ne _ _ nd_dJ_dQ]; exact h179
      have h182 : f137 dJ = some (.inl (cI G, 2048, .inl (fun _ => 0))) := by rw [ef137, va_up_ne _ _ nd_dJ_dS]; exact h181
      have h183 : f144 dJ = some (.inl (cI G, 2048, .inl (fun _ => 0))) := by rw [ef144, va_up_ne _ _ nd_dJ_dR]; exact h182
      have n185 : dU ≠ mo := hne k_dU k_mo (Nat.ne_of_beq_eq_false rfl)
      have h184 : f100 dU = some (.inl (cI G, 2048, .inl (fun _ => 0))) := by rw [ef100, va_up_ne _ _ n185]; exact k_dU
      have h186 : f130 dU = some (.inl (cI G, 2048, .inl (fun _ => 0))) := by rw [e131, va_up_ne _ _ (Ne.symm nd_dQ_dU)]; exact h184
      have h187 : f137 dU = some (.inl (cI G, 2048, .inl (fun _ => 0))) := by rw [ef137, va_up_ne _ _ (Ne.symm nd_dS_dU)]; exact h186
      have h188 : f144 dU = some (.inl (cI G, 2048, .inl (fun _ => 0))) := by rw [ef144, va_up_ne _ _ (Ne.symm nd_dR_dU)]; exact h187
      have n190 : dO ≠ mo := hne k_dO k_mo (Nat.ne_of_beq_eq_false rfl)
      have h189 : f100 dO = some (.inl (cI G, 2048, .inl (fun _ => 0))) := by rw [ef100, va_up_ne _ _ n190]; exact k_dO
      have h191 : f130 dO = some (.inl (cI G, 2048, .inl (fun _ => 0))) := by rw [e131, va_up_ne _ _ nd_dO_dQ]; exact h189
      have h192 : f137 dO = some (.inl (cI G, 2048, .inl (fun _ => 0))) := by rw [ef137, va_up_ne _ _ nd_dO_dS]; exact h191
      have h193 : f144 dO = some (.inl (cI G, 2048, .inl (fun _ => 0))) := by rw [ef144, va_up_ne _ _ nd_dO_dR]; exact h192
      refine hp_V (ci := 5) (As := [.int 1]) (rest := []) B0 hw hS (c_X5_begs1 hl G f144 mo dW dA dQ dM dS dL dR dT dZ dI dH dN dK dJ dU dO dF dP dE dX dY dG 0 h146 h145 h151 h156 h158 h163 h168 h173 h178 h183 h188 h193 nd_dH_dJ nd_dH_dK nd_dH_dL nd_dH_dM nd_dH_dN nd_dH_dO nd_dH_dQ nd_dH_dR nd_dH_dT nd_dH_dU nd_dJ_dK nd_dJ_dL nd_dJ_dM nd_dJ_dN nd_dJ_dO nd_dJ_dQ nd_dJ_dR nd_dJ_dT nd_dJ_dU nd_dK_dL nd_dK_dM nd_dK_dN nd_dK_dO nd_dK_dQ nd_dK_dR nd_dK_dT nd_dK_dU nd_dL_dM nd_dL_dN nd_dL_dO nd_dL_dQ nd_dL_dR nd_dL_dT nd_dL_dU nd_dM_dN nd_dM_dO nd_dM_dQ nd_dM_dR nd_dM_dT nd_dM_dU nd_dN_dO nd_dN_dQ nd_dN_dR nd_dN_dT nd_dN_dU nd_dO_dQ nd_dO_dR nd_dO_dT nd_dO_dU nd_dQ_dR nd_dQ_dT nd_dQ_dU nd_dR_dT nd_dR_dU nd_dT_dU) mV_X5_begs qM_X5_107 rfl h146 rfl rfl hl9.1 (Nat.le_of_ble_eq_true rfl) ⟨⟨Nat.le_of_ble_eq_true rfl, Nat.le_of_ble_eq_true rfl⟩, Nat.le_of_ble_eq_true rfl, Nat.le_of_ble_eq_true rfl⟩ dX5_open_88 (fun E ce q9 f194 H locs hPX hw hS hce hcv hcl => ?_) (fun v f194 H locs hP hw hS => ?_)
      · exact hPX.elim
      · obtain ⟨ev9, h196, k195⟩ := hP
        subst ev9
        refine W.eq (g2 := F0 m 91 ls [.int 1]) rfl ?_
        refine lv_pop hx hb dX5_open_91 rfl ?_
        refine lv_aload_n hx hb dX5_open_92 rfl (lv_at hl9 1 rfl) ?_
        have h197 : f194 mo = some (.inr (5, [.int 0, .ref dW, .ref dA, .ref dQ, .ref dM, .ref dS, .ref dL, .ref dR, .ref dT, .ref dZ, .ref dI, .ref dH, .ref dN, .ref dK, .ref dJ, .ref dU, .ref dO, .int 0, .int 0, .ref dF, .ref dP, .ref dE, .ref dX, .ref dY, .int 0, .int 0, .ref dG])) := k195 _ _ h146 (ninc (Ne.symm n148) (ninc (Ne.symm n141) (ninc (Ne.symm n153) (ninc (Ne.symm n175) (ninc (Ne.symm n180) (ninc (Ne.symm n185) (ninc (Ne.symm n190) (ninc (Ne.symm n170) nin0))))))))
        refine hp_get B0 hw 5 rfl in_X5 h197 6 (by decide) qF_X5_25 rfl dX5_open_93 ?_
        refine lv_iload_n hx hb dX5_open_96 rfl (lv_at hl9 2 rfl) ?_
        refine hp_iald B0 hw h196 (by unfold vp_in; decide) dX5_open_97 ?_
        refine hp_c (v := 0) (rfl) ?_
        exact hp_iret (v := 0) B0 hw hS hr ⟨Nat.le_of_ble_eq_true rfl, Nat.le_of_ble_eq_true rfl⟩ dX5_open_98 (⟨⟨_, rfl, fun _ => rfl⟩, ⟨_, (by rw [show spc (sE 1) True = 0 from (spc_0 (Or.inr rfl) trivial)]; exact h197)⟩, ((show hKeep [mo, dQ, dS, dL, dR, dT, dK, dJ, dU, dO, dN] f f100 from (by rw [ef100]; exact hKeep.up (by simp))).tr ((show hKeep [mo, dQ, dS, dL, dR, dT, dK, dJ, dU, dO, dN] f100 f130 from (by rw [e131]; exact hKeep.up (by simp))).tr ((show hKeep [mo, dQ, dS, dL, dR, dT, dK, dJ, dU, dO, dN] f130 f137 from (by rw [ef137]; exact hKeep.up (by simp))).tr ((show hKeep [mo, dQ, dS, dL, dR, dT, dK, dJ, dU, dO, dN] f137 f144 from (by rw [ef144]; exact hKeep.up (by simp))).tr (show hKeep [mo, dQ, dS, dL, dR, dT, dK, dJ, dU, dO, dN] f144 f194 from (k195.mono (fun x9 hx9 => by simp only [List.mem_cons, List.not_mem_nil, or_false] at hx9 ⊢; omega)))))))⟩)
    · subst ev9
      refine W.eq (g2 := F0 m 5 ls [.int 0, .ref mo]) rfl ?_
      refine lv_if_ne (tgt := 12) hx hb dX5_open_5 (by decide) (fun c9 => absurd (by decide) c9) (fun _ => ?_)
      refine lv_iconst (v := 1) hx hb dX5_open_8 (by decide) ?_
      refine lv_goto (tgt := 26) hx hb dX5_open_9 (by decide) ?_
      refine hp_put (fs1 := [.int 1, .ref dW, .ref dA, .ref dQ, .ref dM, .ref dS, .ref dL, .ref dR, .ref dT, .ref dZ, .ref dI, .ref dH, .ref dN, .ref dK, .ref dJ, .ref dU, .ref dO, .int 0, .int 0, .ref dF, .ref dP, .ref dE, .ref dX, .ref dY, .int 0, .int 0, .ref dG]) (ty := .int) B0 hw hS 5 rfl in_X5 tyX5 tyX5_ok nmX5 k_mo 0 (by decide) qF_X5_77 rfl (by decide +kernel) rfl rfl (Nat.le_of_ble_eq_true rfl) rfl dX5_open_26 (fun H locs f198 ef198 hw hS => ?_)
      have h199 : f198 mo = some (.inr (5, [.int 1, .ref dW, .ref dA, .ref dQ, .ref dM, .ref dS, .ref dL, .ref dR, .ref dT, .ref dZ, .ref dI, .ref dH, .ref dN, .ref dK, .ref dJ, .ref dU, .ref dO, .int 0, .int 0, .ref dF, .ref dP, .ref dE, .ref dX, .ref dY, .int 0, .int 0, .ref dG])) := by rw [ef198, va_up_self]
      refine lv_aload_n hx hb dX5_open_29 rfl (lv_at hl9 0 rfl) ?_
      refine hp_get B0 hw 5 rfl in_X5 h199 0 (by decide) qF_X5_77 rfl dX5_open_30 ?_
      refine lv_if_le (tgt := 38) hx hb dX5_open_33 (by decide) (fun c9 => absurd c9 (by decide)) (fun _ => ?_)
      refine lv_iconst (v := 0) hx hb dX5_open_36 (by decide) ?_
      exact hp_iret (v := 0) B0 hw hS hr ⟨Nat.le_of_ble_eq_true rfl, Nat.le_of_ble_eq_true rfl⟩ dX5_open_37 (⟨⟨_, rfl, fun h9 => absurd (h9.symm.trans (spc_1 hnE)) (by decide)⟩, ⟨_, (by rw [show spc (sE i) True = 1 from (spc_1 hnE)]; exact h199)⟩, (show hKeep [mo, dQ, dS, dL, dR, dT, dK, dJ, dU, dO, dN] f f198 from (by rw [ef198]; exact hKeep.up (by simp)))⟩)

set_option maxHeartbeats 4000000 in
set_option maxRecDepth 100000 in
theorem c_X5_close0 {l : Launch} (hl : l.stackTraces = false) (G : hG) (f : hM) (mo dW dA dQ dM dS dL dR dT dZ dI dH dN dK dJ dU dO dF dP dE dX dY dG : Nat) (th : Int32) (k_mo : f mo = some (.inr (5, [.int th, .ref dW, .ref dA, .ref dQ, .ref dM, .ref dS, .ref dL, .ref dR, .ref dT, .ref dZ, .ref dI, .ref dH, .ref dN, .ref dK, .ref dJ, .ref dU, .ref dO, .int 0, .int 0, .ref dF, .ref dP, .ref dE, .ref dX, .ref dY, .int 0, .int 0, .ref dG]))) (k_dS : f dS = some (.inl (cI G, 2, .inl (fun _ => 0)))) (i : Int32) : CT l yX5_close (.code yX5_close cX5_close 3 (some .int)) 2 42 0 0 G [.ref mo, .int i] f (fun v f1 => (∃ r : Int32, v = some (.int r) ∧ (spc (sE i) False = 0 → r = 0)) ∧ (∃ c9 : List Value, f1 mo = some (.inr (5, .int (spc (sE i) False) :: c9))) ∧ hKeep [mo] f f1) (fun E f1 => False) := by
  refine hp_start hl (own := RX5) (by decide) rfl (Nat.le_of_ble_eq_true rfl) ?_
  intro p e s m args below meth c B0 hr hnm hout hw hS ls hl9
  have hx := B0.1
  have hb := B0.2.1
  have hl9 : lv_has ls 3 [(0, .ref mo), (1, .int i)] := hl9
  refine lv_aload_n hx hb dX5_close_0 rfl (lv_at hl9 0 rfl) ?_
  refine lv_iload_n hx hb dX5_close_1 rfl (lv_at hl9 1 rfl) ?_
  refine hp_S (As := [.int i]) (rest := [.ref mo]) B0 hw hS (c_X5_isEnd hl G f i) mS_X5_isEnd qM_X5_85 rfl rfl hl9.1 (Nat.le_of_ble_eq_true rfl) ⟨⟨Nat.le_of_ble_eq_true rfl, Nat.le_of_ble_eq_true rfl⟩, Nat.le_of_ble_eq_true rfl, Nat.le_of_ble_eq_true rfl⟩ dX5_close_2 (fun E ce q9 f1 H locs hPX hw hS hce hcv hcl => ?_) (fun v f1 H locs hP hw hS => ?_)
  · exact hPX.elim
  · obtain ⟨ef9, hv9⟩ := hP
    rw [ef9] at hw
    rcases hv9 with ⟨b9 | b9, ev9⟩ | ⟨hnE, ev9⟩
    · subst ev9
      subst b9
      refine W.eq (g2 := F0 m 5 ls [.int 1, .ref mo]) rfl ?_
      refine lv_if_ne (tgt := 12) hx hb dX5_close_5 (by decide) (fun _ => ?_) (fun c9 => absurd c9 (by decide))
      refine lv_aload_n hx hb dX5_close_12 rfl (lv_at hl9 0 rfl) ?_
      refine hp_get B0 hw 5 rfl in_X5 k_mo 5 (by decide) qF_X5_22 rfl dX5_close_13 ?_
      refine lv_iload_n hx hb dX5_close_16 rfl (lv_at hl9 1 rfl) ?_
      refine hp_iald B0 hw k_dS (by unfold vp_in; decide) dX5_close_17 ?_
      refine hp_c (v := 0) (rfl) ?_
      refine lv_if_ne (tgt := 25) hx hb dX5_close_18 (by decide) (fun c9 => absurd (by decide) c9) (fun _ => ?_)
      refine lv_iconst (v := 2) hx hb dX5_close_21 (by decide) ?_
      refine lv_goto (tgt := 26) hx hb dX5_close_22 (by decide) ?_
      refine hp_put (fs1 := [.int 2, .ref dW, .ref dA, .ref dQ, .ref dM, .ref dS, .ref dL, .ref dR, .ref dT, .ref dZ, .ref dI, .ref dH, .ref dN, .ref dK, .ref dJ, .ref dU, .ref dO, .int 0, .int 0, .ref dF, .ref dP, .ref dE, .ref dX, .ref dY, .int 0, .int 0, .ref dG]) (ty := .int) B0 hw hS 5 rfl in_X5 tyX5 tyX5_ok nmX5 k_mo 0 (by decide) qF_X5_77 rfl (by decide +kernel) rfl rfl (Nat.le_of_ble_eq_true rfl) rfl dX5_close_26 (fun H locs f2 ef2 hw hS => ?_)
      have h3 : f2 mo = some (.inr (5, [.int 2, .ref dW, .ref dA, .ref dQ, .ref dM, .ref dS, .ref dL, .ref dR, .ref dT, .ref dZ, .ref dI, .ref dH, .ref dN, .ref dK, .ref dJ, .ref dU, .ref dO, .int 0, .int 0, .ref dF, .ref dP, .ref dE, .ref dX, .ref dY, .int 0, .int 0, .ref dG])) := by rw [ef2, va_up_self]
      refine lv_aload_n hx hb dX5_close_29 rfl (lv_at hl9 0 rfl) ?_
      refine hp_get B0 hw 5 rfl in_X5 h3 0 (by decide) qF_X5_77 rfl dX5_close_30 ?_
      refine lv_if_le (tgt := 38) hx hb dX5_close_33 (by decide) (fun c9 => absurd c9 (by decide)) (fun _ => ?_)
      refine lv_iconst (v := 0) hx hb dX5_close_36 (by decide) ?_
      exact hp_iret (v := 0) B0 hw hS hr ⟨Nat.le_of_ble_eq_true rfl, Nat.le_of_ble_eq_true rfl⟩ dX5_close_37 (⟨⟨_, rfl, fun h9 => absurd (h9.symm.trans (spc_2 (Or.inl rfl) id)) (by decide)⟩, ⟨_, (by rw [show spc (sE 0) False = 2 from (spc_2 (Or.inl rfl) id)]; exact h3)⟩, (show hKeep [mo] f f2 from (by rw [ef2]; exact hKeep.up (by simp)))⟩)
    · subst ev9
      subst b9
      refine W.eq (g2 := F0 m 5 ls [.int 1, .ref mo]) rfl ?_
      refine lv_if_ne (tgt := 12) hx hb dX5_close_5 (by decide) (fun _ => ?_) (fun c9 => absurd c9 (by decide))
      refine lv_aload_n hx hb dX5_close_12 rfl (lv_at hl9 0 rfl) ?_
      refine hp_get B0 hw 5 rfl in_X5 k_mo 5 (by decide) qF_X5_22 rfl dX5_close_13 ?_
      refine lv_iload_n hx hb dX5_close_16 rfl (lv_at hl9 1 rfl) ?_
      refine hp_iald B0 hw k_dS (by unfold vp_in; decide) dX5_close_17 ?_
      refine hp_c (v := 0) (rfl) ?_
      refine lv_if_ne (tgt := 25) hx hb dX5_close_18 (by decide) (fun c9 => absurd (by decide) c9) (fun _ => ?_)
      refine lv_iconst (v := 2) hx hb dX5_close_21 (by decide) ?_
      refine lv_goto (tgt := 26) hx hb dX5_close_22 (by decide) ?_
      refine hp_put (fs1 := [.int 2, .ref dW, .ref dA, .ref dQ, .ref dM, .ref dS, .ref dL, .ref dR, .ref dT, .ref dZ, .ref dI, .ref dH, .ref dN, .ref dK, .ref dJ, .ref dU, .ref dO, .int 0, .int 0, .ref dF, .ref dP, .ref dE, .ref dX, .ref dY, .int 0, .int 0, .ref dG]) (ty := .int) B0 hw hS 5 rfl in_X5 tyX5 tyX5_ok nmX5 k_mo 0 (by decide) qF_X5_77 rfl (by decide +kernel) rfl rfl (Nat.le_of_ble_eq_true rfl) rfl dX5_close_26 (fun H locs f4 ef4 hw hS => ?_)
      have h5 : f4 mo = some (.inr (5, [.int 2, .ref dW, .ref dA, .ref dQ, .ref dM, .ref dS, .ref dL, .ref dR, .ref dT, .ref dZ, .ref dI, .ref dH, .ref dN, .ref dK, .ref dJ, .ref dU, .ref dO, .int 0, .int 0, .ref dF, .ref dP, .ref dE, .ref dX, .ref dY, .int 0, .int 0, .ref dG])) := by rw [ef4, va_up_self]
      refine lv_aload_n hx hb dX5_close_29 rfl (lv_at hl9 0 rfl) ?_
      refine hp_get B0 hw 5 rfl in_X5 h5 0 (by decide) qF_X5_77 rfl dX5_close_30 ?_
      refine lv_if_le (tgt := 38) hx hb dX5_close_33 (by decide) (fun c9 => absurd c9 (by decide)) (fun _ => ?_)
      refine lv_iconst (v := 0) hx hb dX5_close_36 (by decide) ?_
      exact hp_iret (v := 0) B0 hw hS hr ⟨Nat.le_of_ble_eq_true rfl, Nat.le_of_ble_eq_true rfl⟩ dX5_close_37 (⟨⟨_, rfl, fun h9 => absurd (h9.symm.trans (spc_2 (Or.inr rfl) id)) (by decide)⟩, ⟨_, (by rw [show spc (sE 1) False = 2 from (spc_2 (Or.inr rfl) id)]; exact h5)⟩, (show hKeep [mo] f f4 from (by rw [ef4]; exact hKeep.up (by simp)))⟩)
    · subst ev9
      refine W.eq (g2 := F0 m 5 ls [.int 0, .ref mo]) rfl ?_
      refine lv_if_ne (tgt := 12) hx hb dX5_close_5 (by decide) (fun c9 => absurd (by decide) c9) (fun _ => ?_)
      refine lv_iconst (v := 1) hx hb dX5_close_8 (by decide) ?_
      refine lv_goto (tgt := 26) hx hb dX5_close_9 (by decide) ?_
      refine hp_put (fs1 := [.int 1, .ref dW, .ref dA, .ref dQ, .ref dM, .ref dS, .ref dL, .ref dR, .ref dT, .ref dZ, .ref dI, .ref dH, .ref dN, .ref dK, .ref dJ, .ref dU, .ref dO, .int 0, .int 0, .ref dF, .ref dP, .ref dE, .ref dX, .ref dY, .int 0, .int 0, .ref dG]) (ty := .int) B0 hw hS 5 rfl in_X5 tyX5 tyX5_ok nmX5 k_mo 0 (by decide) qF_X5_77 rfl (by decide +kernel) rfl rfl (Nat.le_of_ble_eq_true rfl) rfl dX5_close_26 (fun H locs f6 ef6 hw hS => ?_)
      have h7 : f6 mo = some (.inr (5, [.int 1, .ref dW, .ref dA, .ref dQ, .ref dM, .ref dS, .ref dL, .ref dR, .ref dT, .ref dZ, .ref dI, .ref dH, .ref dN, .ref dK, .ref dJ, .ref dU, .ref dO, .int 0, .int 0, .ref dF, .ref dP, .ref dE, .ref dX, .ref dY, .int 0, .int 0, .ref dG])) := by rw [ef6, va_up_self]
      refine lv_aload_n hx hb dX5_close_29 rfl (lv_at hl9 0 rfl) ?_
      refine hp_get B0 hw 5 rfl in_X5 h7 0 (by decide) qF_X5_77 rfl dX5_close_30 ?_
      refine lv_if_le (tgt := 38) hx hb dX5_close_33 (by decide) (fun c9 => absurd c9 (by decide)) (fun _ => ?_)
      refine lv_iconst (v := 0) hx hb dX5_close_36 (by decide) ?_
      exact hp_iret (v := 0) B0 hw hS hr ⟨Nat.le_of_ble_eq_true rfl, Nat.le_of_ble_eq_true rfl⟩ dX5_close_37 (⟨⟨_, rfl, fun h9 => absurd (h9.symm.trans (spc_1 hnE)) (by decide)⟩, ⟨_, (by rw [show spc (sE i) False = 1 from (spc_1 hnE)]; exact h7)⟩, (show hKeep [mo] f f6 from (by rw [ef6]; exact hKeep.up (by simp)))⟩)

set_option maxHeartbeats 4000000 in
set_option maxRecDepth 100000 in
theorem c_X5_asksFrame0 {l : Launch} (hl : l.stackTraces = false) (G : hG) (f : hM) (mo dW dA dQ dM dS dL dR dT dZ dI dH dN dK dJ dU dO dF dP dE dX dY dG : Nat) (th : Int32) (k_mo : f mo = some (.inr (5, [.int th, .ref dW, .ref dA, .ref dQ, .ref dM, .ref dS, .ref dL, .ref dR, .ref dT, .ref dZ, .ref dI, .ref dH, .ref dN, .ref dK, .ref dJ, .ref dU, .ref dO, .int 0, .int 0, .ref dF, .ref dP, .ref dE, .ref dX, .ref dY, .int 0, .int 0, .ref dG]))) (k_dN : f dN = some (.inl (cI G, 2, .inl (fun _ => 0)))) (i : Int32) : CT l yX5_asksFrame (.code yX5_asksFrame cX5_asksFrame 2 (some .boolean)) 2 42 0 0 G [.ref mo, .int i] f (fun v f1 => v = some (.int 0) ∧ (∃ c9 : List Value, f1 mo = some (.inr (5, .int (spc (sE i) False) :: c9))) ∧ hKeep [mo] f f1) (fun E f1 => False) := by
  refine hp_start hl (own := RX5) (by decide) rfl (Nat.le_of_ble_eq_true rfl) ?_
  intro p e s m args below meth c B0 hr hnm hout hw hS ls hl9
  have hx := B0.1
  have hb := B0.2.1
  have hl9 : lv_has ls 2 [(0, .ref mo), (1, .int i)] := hl9
  refine lv_aload_n hx hb dX5_asksFrame_0 rfl (lv_at hl9 0 rfl) ?_
  refine lv_iload_n hx hb dX5_asksFrame_1 rfl (lv_at hl9 1 rfl) ?_
  refine hp_S (As := [.int i]) (rest := [.ref mo]) B0 hw hS (c_X5_isEnd hl G f i) mS_X5_isEnd qM_X5_85 rfl rfl hl9.1 (Nat.le_of_ble_eq_true rfl) ⟨⟨Nat.le_of_ble_eq_true rfl, Nat.le_of_ble_eq_true rfl⟩, Nat.le_of_ble_eq_true rfl, Nat.le_of_ble_eq_true rfl⟩ dX5_asksFrame_2 (fun E ce q9 f1 H locs hPX hw hS hce hcv hcl => ?_) (fun v f1 H locs hP hw hS => ?_)
  · exact hPX.elim
  · obtain ⟨ef9, hv9⟩ := hP
    rw [ef9] at hw
    rcases hv9 with ⟨b9 | b9, ev9⟩ | ⟨hnE, ev9⟩
    · subst ev9
      subst b9
      refine W.eq (g2 := F0 m 5 ls [.int 1, .ref mo]) rfl ?_
      refine lv_if_ne (tgt := 12) hx hb dX5_asksFrame_5 (by decide) (fun _ => ?_) (fun c9 => absurd c9 (by decide))
      refine lv_aload_n hx hb dX5_asksFrame_12 rfl (lv_at hl9 0 rfl) ?_
      refine hp_get B0 hw 5 rfl in_X5 k_mo 12 (by decide) qF_X5_44 rfl dX5_asksFrame_13 ?_
      refine lv_iload_n hx hb dX5_asksFrame_16 rfl (lv_at hl9 1 rfl) ?_
      refine hp_iald B0 hw k_dN (by unfold vp_in; decide) dX5_asksFrame_17 ?_
      refine hp_c (v := 0) (rfl) ?_
      refine lv_if_ne (tgt := 25) hx hb dX5_asksFrame_18 (by decide) (fun c9 => absurd (by decide) c9) (fun _ => ?_)
      refine lv_iconst (v := 2) hx hb dX5_asksFrame_21 (by decide) ?_
      refine lv_goto (tgt := 26) hx hb dX5_asksFrame_22 (by decide) ?_
      refine hp_put (fs1 := [.int 2, .ref dW, .ref dA, .ref dQ, .ref dM, .ref dS, .ref dL, .ref dR, .ref dT, .ref dZ, .ref dI, .ref dH, .ref dN, .ref dK, .ref dJ, .ref dU, .ref dO, .int 0, .int 0, .ref dF, .ref dP, .ref dE, .ref dX, .ref dY, .int 0, .int 0, .ref dG]) (ty := .int) B0 hw hS 5 rfl in_X5 tyX5 tyX5_ok nmX5 k_mo 0 (by decide) qF_X5_77 rfl (by decide +kernel) rfl rfl (Nat.le_of_ble_eq_true rfl) rfl dX5_asksFrame_26 (fun H locs f2 ef2 hw hS => ?_)
      have h3 : f2 mo = some (.inr (5, [.int 2, .ref dW, .ref dA, .ref dQ, .ref dM, .ref dS, .ref dL, .ref dR, .ref dT, .ref dZ, .ref dI, .ref dH, .ref dN, .ref dK, .ref dJ, .ref dU, .ref dO, .int 0, .int 0, .ref dF, .ref dP, .ref dE, .ref dX, .ref dY, .int 0, .int 0, .ref dG])) := by rw [ef2, va_up_self]
      refine lv_aload_n hx hb dX5_asksFrame_29 rfl (lv_at hl9 0 rfl) ?_
      refine hp_get B0 hw 5 rfl in_X5 h3 0 (by decide) qF_X5_77 rfl dX5_asksFrame_30 ?_
      refine lv_if_ne (tgt := 40) hx hb dX5_asksFrame_33 (by decide) (fun _ => ?_) (fun c9 => absurd c9 (by decide))
      refine lv_iconst (v := 0) hx hb dX5_asksFrame_40 (by decide) ?_
      exact hp_zret (v := 0) B0 hw hS hr ⟨Nat.le_of_ble_eq_true rfl, Nat.le_of_ble_eq_true rfl⟩ (rfl) dX5_asksFrame_41 (⟨rfl, ⟨_, (by rw [show spc (sE 0) False = 2 from (spc_2 (Or.inl rfl) id)]; exact h3)⟩, (show hKeep [mo] f f2 from (by rw [ef2]; exact hKeep.up (by simp)))⟩)
    · subst ev9
      subst b9
      refine W.eq (g2 := F0 m 5 ls [.int 1, .ref mo]) rfl ?_
      refine lv_if_ne (tgt := 12) hx hb dX5_asksFrame_5 (by decide) (fun _ => ?_) (fun c9 => absurd c9 (by decide))
      refine lv_aload_n hx hb dX5_asksFrame_12 rfl (lv_at hl9 0 rfl) ?_
      refine hp_get B0 hw 5 rfl in_X5 k_mo 12 (by decide) qF_X5_44 rfl dX5_asksFrame_13 ?_
      refine lv_iload_n hx hb dX5_asksFrame_16 rfl (lv_at hl9 1 rfl) ?_
      refine hp_iald B0 hw k_dN (by unfold vp_in; decide) dX5_asksFrame_17 ?_
      refine hp_c (v := 0) (rfl) ?_
      refine lv_if_ne (tgt := 25) hx hb dX5_asksFrame_18 (by decide) (fun c9 => absurd (by decide) c9) (fun _ => ?_)
      refine lv_iconst (v := 2) hx hb dX5_asksFrame_21 (by decide) ?_
      refine lv_goto (tgt := 26) hx hb dX5_asksFrame_22 (by decide) ?_
      refine hp_put (fs1 := [.int 2, .ref dW, .ref dA, .ref dQ, .ref dM, .ref dS, .ref dL, .ref dR, .ref dT, .ref dZ, .ref dI, .ref dH, .ref dN, .ref dK, .ref dJ, .ref dU, .ref dO, .int 0, .int 0, .ref dF, .ref dP, .ref dE, .ref dX, .ref dY, .int 0, .int 0, .ref dG]) (ty := .int) B0 hw hS 5 rfl in_X5 tyX5 tyX5_ok nmX5 k_mo 0 (by decide) qF_X5_77 rfl (by decide +kernel) rfl rfl (Nat.le_of_ble_eq_true rfl) rfl dX5_asksFrame_26 (fun H locs f4 ef4 hw hS => ?_)
      have h5 : f4 mo = some (.inr (5, [.int 2, .ref dW, .ref dA, .ref dQ, .ref dM, .ref dS, .ref dL, .ref dR, .ref dT, .ref dZ, .ref dI, .ref dH, .ref dN, .ref dK, .ref dJ, .ref dU, .ref dO, .int 0, .int 0, .ref dF, .ref dP, .ref dE, .ref dX, .ref dY, .int 0, .int 0, .ref dG])) := by rw [ef4, va_up_self]
      refine lv_aload_n hx hb dX5_asksFrame_29 rfl (lv_at hl9 0 rfl) ?_
      refine hp_get B0 hw 5 rfl in_X5 h5 0 (by decide) qF_X5_77 rfl dX5_asksFrame_30 ?_
      refine lv_if_ne (tgt := 40) hx hb dX5_asksFrame_33 (by decide) (fun _ => ?_) (fun c9 => absurd c9 (by decide))
      refine lv_iconst (v := 0) hx hb dX5_asksFrame_40 (by decide) ?_
      exact hp_zret (v := 0) B0 hw hS hr ⟨Nat.le_of_ble_eq_true rfl, Nat.le_of_ble_eq_true rfl⟩ (rfl) dX5_asksFrame_41 (⟨rfl, ⟨_, (by rw [show spc (sE 1) False = 2 from (spc_2 (Or.inr rfl) id)]; exact h5)⟩, (show hKeep [mo] f f4 from (by rw [ef4]; exact hKeep.up (by simp)))⟩)
    · subst ev9
      refine W.eq (g2 := F0 m 5 ls [.int 0, .ref mo]) rfl ?_
      refine lv_if_ne (tgt := 12) hx hb dX5_asksFrame_5 (by decide) (fun c9 => absurd (by decide) c9) (fun _ => ?_)
      refine lv_iconst (v := 1) hx hb dX5_asksFrame_8 (by decide) ?_
      refine lv_goto (tgt := 26) hx hb dX5_asksFrame_9 (by decide) ?_
      refine hp_put (fs1 := [.int 1, .ref dW, .ref dA, .ref dQ, .ref dM, .ref dS, .ref dL, .ref dR, .ref dT, .ref dZ, .ref dI, .ref dH, .ref dN, .ref dK, .ref dJ, .ref dU, .ref dO, .int 0, .int 0, .ref dF, .ref dP, .ref dE, .ref dX, .ref dY, .int 0, .int 0, .ref dG]) (ty := .int) B0 hw hS 5 rfl in_X5 tyX5 tyX5_ok nmX5 k_mo 0 (by decide) qF_X5_77 rfl (by decide +kernel) rfl rfl (Nat.le_of_ble_eq_true rfl) rfl dX5_asksFrame_26 (fun H locs f6 ef6 hw hS => ?_)
      have h7 : f6 mo = some (.inr (5, [.int 1, .ref dW, .ref dA, .ref dQ, .ref dM, .ref dS, .ref dL, .ref dR, .ref dT, .ref dZ, .ref dI, .ref dH, .ref dN, .ref dK, .ref dJ, .ref dU, .ref dO, .int 0, .int 0, .ref dF, .ref dP, .ref dE, .ref dX, .ref dY, .int 0, .int 0, .ref dG])) := by rw [ef6, va_up_self]
      refine lv_aload_n hx hb dX5_asksFrame_29 rfl (lv_at hl9 0 rfl) ?_
      refine hp_get B0 hw 5 rfl in_X5 h7 0 (by decide) qF_X5_77 rfl dX5_asksFrame_30 ?_
      refine lv_if_ne (tgt := 40) hx hb dX5_asksFrame_33 (by decide) (fun _ => ?_) (fun c9 => absurd c9 (by decide))
      refine lv_iconst (v := 0) hx hb dX5_asksFrame_40 (by decide) ?_
      exact hp_zret (v := 0) B0 hw hS hr ⟨Nat.le_of_ble_eq_true rfl, Nat.le_of_ble_eq_true rfl⟩ (rfl) dX5_asksFrame_41 (⟨rfl, ⟨_, (by rw [show spc (sE i) False = 1 from (spc_1 hnE)]; exact h7)⟩, (show hKeep [mo] f f6 from (by rw [ef6]; exact hKeep.up (by simp)))⟩)

set_option maxHeartbeats 4000000 in
set_option maxRecDepth 100000 in
theorem c_X5_deliver0 {l : Launch} (hl : l.stackTraces = false) (G : hG) (f : hM) (mo dW dA dQ dM dS dL dR dT dZ dI dH dN dK dJ dU dO dF dP dE dX dY dG : Nat) (th : Int32) (k_mo : f mo = some (.inr (5, [.int th, .ref dW, .ref dA, .ref dQ, .ref dM, .ref dS, .ref dL, .ref dR, .ref dT, .ref dZ, .ref dI, .ref dH, .ref dN, .ref dK, .ref dJ, .ref dU, .ref dO, .int 0, .int 0, .ref dF, .ref dP, .ref dE, .ref dX, .ref dY, .int 0, .int 0, .ref dG]))) (k_dN : f dN = some (.inl (cI G, 2, .inl (fun _ => 0)))) (i : Int32) : CT l yX5_deliver (.code yX5_deliver cX5_deliver 3 (some .int)) 3 63 0 0 G [.ref mo, .int i] f (fun v f1 => (∃ r : Int32, v = some (.int r) ∧ (spc (sE i) False = 0 → r = 0)) ∧ (∃ c9 : List Value, f1 mo = some (.inr (5, .int (spc (sE i) False) :: c9))) ∧ hKeep [mo] f f1) (fun E f1 => False) := by
  refine hp_start hl (own := RX5) (by decide) rfl (Nat.le_of_ble_eq_true rfl) ?_
  intro p e s m args below meth c B0 hr hnm hout hw hS ls hl9
  have hx := B0.1
  have hb := B0.2.1
  have hl9 : lv_has ls 3 [(0, .ref mo), (1, .int i)] := hl9
  refine lv_aload_n hx hb dX5_deliver_0 rfl (lv_at hl9 0 rfl) ?_
  refine lv_iload_n hx hb dX5_deliver_1 rfl (lv_at hl9 1 rfl) ?_
  refine hp_V (ci := 5) (As := [.int i]) (rest := []) B0 hw hS (c_X5_asksFrame0 hl G f mo dW dA dQ dM dS dL dR dT dZ dI dH dN dK dJ dU dO dF dP dE dX dY dG th k_mo k_dN i) mV_X5_asksFrame qM_X5_120 rfl k_mo rfl rfl hl9.1 (Nat.le_of_ble_eq_true rfl) ⟨⟨Nat.le_of_ble_eq_true rfl, Nat.le_of_ble_eq_true rfl⟩, Nat.le_of_ble_eq_true rfl, Nat.le_of_ble_eq_true rfl⟩ dX5_deliver_2 (fun E ce q9 f1 H locs hPX hw hS hce hcv hcl => ?_) (fun v f1 H locs hP hw hS => ?_)
  · exact hPX.elim
  · obtain ⟨ev9, ⟨c9, h3⟩, k2⟩ := hP
    subst ev9
    refine W.eq (g2 := F0 m 5 ls [.int 0]) rfl ?_
    refine lv_if_ne (tgt := 10) hx hb dX5_deliver_5 (by decide) (fun c9 => absurd (by decide) c9) (fun _ => ?_)
    refine lv_iconst (v := 0) hx hb dX5_deliver_8 (by decide) ?_
    exact hp_iret (v := 0) B0 hw hS hr ⟨Nat.le_of_ble_eq_true rfl, Nat.le_of_ble_eq_true rfl⟩ dX5_deliver_9 (⟨⟨_, rfl, fun h9 => absurd h9 spc_F⟩, ⟨_, h3⟩, (show hKeep [mo] f f1 from (k2.mono (fun x9 hx9 => by simp only [List.mem_cons, List.not_mem_nil, or_false] at hx9 ⊢; omega)))⟩)

set_option maxHeartbeats 4000000 in
set_option maxRecDepth 100000 in
theorem c_X5_lose0 {l : Launch} (hl : l.stackTraces = false) (G : hG) (f : hM) (mo dW dA dQ dM dS dL dR dT dZ dI dH dN dK dJ dU dO dF dP dE dX dY dG : Nat) (th : Int32) (k_mo : f mo = some (.inr (5, [.int th, .ref dW, .ref dA, .ref dQ, .ref dM, .ref dS, .ref dL, .ref dR, .ref dT, .ref dZ, .ref dI, .ref dH, .ref dN, .ref dK, .ref dJ, .ref dU, .ref dO, .int 0, .int 0, .ref dF, .ref dP, .ref dE, .ref dX, .ref dY, .int 0, .int 0, .ref dG]))) (k_dN : f dN = some (.inl (cI G, 2, .inl (fun _ => 0)))) (i : Int32) : CT l yX5_lose (.code yX5_lose cX5_lose 2 (some .int)) 3 63 0 0 G [.ref mo, .int i] f (fun v f1 => (∃ r : Int32, v = some (.int r) ∧ (spc (sE i) False = 0 → r = 0)) ∧ (∃ c9 : List Value, f1 mo = some (.inr (5, .int (spc (sE i) False) :: c9))) ∧ hKeep [mo] f f1) (fun E f1 => False) := by
  refine hp_start hl (own := RX5) (by decide) rfl (Nat.le_of_ble_eq_true rfl) ?_
  intro p e s m args below meth c B0 hr hnm hout hw hS ls hl9
  have hx := B0.1
  have hb := B0.2.1
  have hl9 : lv_has ls 2 [(0, .ref mo), (1, .int i)] := hl9
  refine lv_aload_n hx hb dX5_lose_0 rfl (lv_at hl9 0 rfl) ?_
  refine lv_iload_n hx hb dX5_lose_1 rfl (lv_at hl9 1 rfl) ?_
  refine hp_V (ci := 5) (As := [.int i]) (rest := []) B0 hw hS (c_X5_asksFrame0 hl G f mo dW dA dQ dM dS dL dR dT dZ dI dH dN dK dJ dU dO dF dP dE dX dY dG th k_mo k_dN i) mV_X5_asksFrame qM_X5_120 rfl k_mo rfl rfl hl9.1 (Nat.le_of_ble_eq_true rfl) ⟨⟨Nat.le_of_ble_eq_true rfl, Nat.le_of_ble_eq_true rfl⟩, Nat.le_of_ble_eq_true rfl, Nat.le_of_ble_eq_true rfl⟩ dX5_lose_2 (fun E ce q9 f1 H locs hPX hw hS hce hcv hcl => ?_) (fun v f1 H locs hP hw hS => ?_)
  · exact hPX.elim
  · obtain ⟨ev9, ⟨c9, h3⟩, k2⟩ := hP
    subst ev9
    refine W.eq (g2 := F0 m 5 ls [.int 0]) rfl ?_
    refine lv_if_ne (tgt := 10) hx hb dX5_lose_5 (by decide) (fun c9 => absurd (by decide) c9) (fun _ => ?_)
    refine lv_iconst (v := 0) hx hb dX5_lose_8 (by decide) ?_
    exact hp_iret (v := 0) B0 hw hS hr ⟨Nat.le_of_ble_eq_true rfl, Nat.le_of_ble_eq_true rfl⟩ dX5_lose_9 (⟨⟨_, rfl, fun h9 => absurd h9 spc_F⟩, ⟨_, h3⟩, (show hKeep [mo] f f1 from (k2.mono (fun x9 hx9 => by simp only [List.mem_cons, List.not_mem_nil, or_false] at hx9 ⊢; omega)))⟩)

set_option maxHeartbeats 4000000 in
set_option maxRecDepth 100000 in
theorem c_X5_loop0 {l : Launch} (hl : l.stackTraces = false) (G : hG) (f : hM) (mo dW dA dQ dM dS dL dR dT dZ dI dH dN dK dJ dU dO dF dP dE dX dY dG : Nat) (th : Int32) (k_mo : f mo = some (.inr (5, [.int th, .ref dW, .ref dA, .ref dQ, .ref dM, .ref dS, .ref dL, .ref dR, .ref dT, .ref dZ, .ref dI, .ref dH, .ref dN, .ref dK, .ref dJ, .ref dU, .ref dO, .int 0, .int 0, .ref dF, .ref dP, .ref dE, .ref dX, .ref dY, .int 0, .int 0, .ref dG]))) (k_dN : f dN = some (.inl (cI G, 2, .inl (fun _ => 0)))) (i : Int32) : CT l yX5_loop (.code yX5_loop cX5_loop 3 (some .int)) 3 63 0 0 G [.ref mo, .int i] f (fun v f1 => (∃ r : Int32, v = some (.int r) ∧ (spc (sE i) False = 0 → r = 0)) ∧ (∃ c9 : List Value, f1 mo = some (.inr (5, .int (spc (sE i) False) :: c9))) ∧ hKeep [mo] f f1) (fun E f1 => False) := by
  refine hp_start hl (own := RX5) (by decide) rfl (Nat.le_of_ble_eq_true rfl) ?_
  intro p e s m args below meth c B0 hr hnm hout hw hS ls hl9
  have hx := B0.1
  have hb := B0.2.1
  have hl9 : lv_has ls 3 [(0, .ref mo), (1, .int i)] := hl9
  refine lv_aload_n hx hb dX5_loop_0 rfl (lv_at hl9 0 rfl) ?_
  refine lv_iload_n hx hb dX5_loop_1 rfl (lv_at hl9 1 rfl) ?_
  refine hp_V (ci := 5) (As := [.int i]) (rest := []) B0 hw hS (c_X5_asksFrame0 hl G f mo dW dA dQ dM dS dL dR dT dZ dI dH dN dK dJ dU dO dF dP dE dX dY dG th k_mo k_dN i) mV_X5_asksFrame qM_X5_120 rfl k_mo rfl rfl hl9.1 (Nat.le_of_ble_eq_true rfl) ⟨⟨Nat.le_of_ble_eq_true rfl, Nat.le_of_ble_eq_true rfl⟩, Nat.le_of_ble_eq_true rfl, Nat.le_of_ble_eq_true rfl⟩ dX5_loop_2 (fun E ce q9 f1 H locs hPX hw hS hce hcv hcl => ?_) (fun v f1 H locs hP hw hS => ?_)
  · exact hPX.elim
  · obtain ⟨ev9, ⟨c9, h3⟩, k2⟩ := hP
    subst ev9
    refine W.eq (g2 := F0 m 5 ls [.int 0]) rfl ?_
    refine lv_if_ne (tgt := 10) hx hb dX5_loop_5 (by decide) (fun c9 => absurd (by decide) c9) (fun _ => ?_)
    refine lv_iconst (v := 0) hx hb dX5_loop_8 (by decide) ?_
    exact hp_iret (v := 0) B0 hw hS hr ⟨Nat.le_of_ble_eq_true rfl, Nat.le_of_ble_eq_true rfl⟩ dX5_loop_9 (⟨⟨_, rfl, fun h9 => absurd h9 spc_F⟩, ⟨_, h3⟩, (show hKeep [mo] f f1 from (k2.mono (fun x9 hx9 => by simp only [List.mem_cons, List.not_mem_nil, or_false] at hx9 ⊢; omega)))⟩)

set_option maxHeartbeats 4000000 in
set_option maxRecDepth 100000 in
theorem c_X5_goesBy0 {l : Launch} (hl : l.stackTraces = false) (G : hG) (f : hM) (mo dW dA dQ dM dS dL dR dT dZ dI dH dN dK dJ dU dO dF dP dE dX dY dG : Nat) (th : Int32) (k_mo : f mo = some (.inr (5, [.int th, .ref dW, .ref dA, .ref dQ, .ref dM, .ref dS, .ref dL, .ref dR, .ref dT, .ref dZ, .ref dI, .ref dH, .ref dN, .ref dK, .ref dJ, .ref dU, .ref dO, .int 0, .int 0, .ref dF, .ref dP, .ref dE, .ref dX, .ref dY, .int 0, .int 0, .ref dG]))) (k_dS : f dS = some (.inl (cI G, 2, .inl (fun _ => 0)))) : CT l yX5_goesBy (.code yX5_goesBy cX5_goesBy 2 (some .int)) 0 0 0 0 G [.ref mo, .int 0] f (fun v f1 => v = some (.int 0) ∧ f1 = f) (fun E f1 => False) := by
  refine hp_start hl (own := RX5) (by decide) rfl (Nat.le_of_ble_eq_true rfl) ?_
  intro p e s m args below meth c B0 hr hnm hout hw hS ls hl9
  have hx := B0.1
  have hb := B0.2.1
  have hl9 : lv_has ls 2 [(0, .ref mo), (1, .int 0)] := hl9
  refine lv_aload_n hx hb dX5_goesBy_0 rfl (lv_at hl9 0 rfl) ?_
  refine hp_get B0 hw 5 rfl in_X5 k_mo 5 (by decide) qF_X5_22 rfl dX5_goesBy_1 ?_
  refine lv_iload_n hx hb dX5_goesBy_4 rfl (lv_at hl9 1 rfl) ?_
  refine hp_iald B0 hw k_dS (by unfold vp_in; decide) dX5_goesBy_5 ?_
  refine hp_c (v := 0) (rfl) ?_
  refine lv_if_eq (tgt := 19) hx hb dX5_goesBy_6 (by decide) (fun _ => ?_) (fun c9 => absurd (by decide) c9)
  refine lv_iconst (v := 0) hx hb dX5_goesBy_19 (by decide) ?_
  exact hp_iret (v := 0) B0 hw hS hr ⟨Nat.le_of_ble_eq_true rfl, Nat.le_of_ble_eq_true rfl⟩ dX5_goesBy_20 (⟨rfl, rfl⟩)

set_option maxHeartbeats 4000000 in
set_option maxRecDepth 100000 in
theorem c_X5_goesBy1 {l : Launch} (hl : l.stackTraces = false) (G : hG) (f : hM) (mo dW dA dQ dM dS dL dR dT dZ dI dH dN dK dJ dU dO dF dP dE dX dY dG : Nat) (th : Int32) (k_mo : f mo = some (.inr (5, [.int th, .ref dW, .ref dA, .ref dQ, .ref dM, .ref dS, .ref dL, .ref dR, .ref dT, .ref dZ, .ref dI, .ref dH, .ref dN, .ref dK, .ref dJ, .ref dU, .ref dO, .int 0, .int 0, .ref dF, .ref dP, .ref dE, .ref dX, .ref dY, .int 0, .int 0, .ref dG]))) (k_dS : f dS = some (.inl (cI G, 2, .inl (fun _ => 0)))) : CT l yX5_goesBy (.code yX5_goesBy cX5_goesBy 2 (some .int)) 0 0 0 0 G [.ref mo, .int 1] f (fun v f1 => v = some (.int 0) ∧ f1 = f) (fun E f1 => False) := by
  refine hp_start hl (own := RX5) (by decide) rfl (Nat.le_of_ble_eq_true rfl) ?_
  intro p e s m args below meth c B0 hr hnm hout hw hS ls hl9
  have hx := B0.1
  have hb := B0.2.1
  have hl9 : lv_has ls 2 [(0, .ref mo), (1, .int 1)] := hl9
  refine lv_aload_n hx hb dX5_goesBy_0 rfl (lv_at hl9 0 rfl) ?_
  refine hp_get B0 hw 5 rfl in_X5 k_mo 5 (by decide) qF_X5_22 rfl dX5_goesBy_1 ?_
  refine lv_iload_n hx hb dX5_goesBy_4 rfl (lv_at hl9 1 rfl) ?_
  refine hp_iald B0 hw k_dS (by unfold vp_in; decide) dX5_goesBy_5 ?_
  refine hp_c (v := 0) (rfl) ?_
  refine lv_if_eq (tgt := 19) hx hb dX5_goesBy_6 (by decide) (fun _ => ?_) (fun c9 => absurd (by decide) c9)
  refine lv_iconst (v := 0) hx hb dX5_goesBy_19 (by decide) ?_
  exact hp_iret (v := 0) B0 hw hS hr ⟨Nat.le_of_ble_eq_true rfl, Nat.le_of_ble_eq_true rfl⟩ dX5_goesBy_20 (⟨rfl, rfl⟩)

set_option maxHeartbeats 4000000 in
set_option maxRecDepth 100000 in
theorem c_X5_pass0 {l : Launch} (hl : l.stackTraces = false) (G : hG) (f : hM) (mo dW dA dQ dM dS dL dR dT dZ dI dH dN dK dJ dU dO dF dP dE dX dY dG : Nat) (th : Int32) (k_mo : f mo = some (.inr (5, [.int th, .ref dW, .ref dA, .ref dQ, .ref dM, .ref dS, .ref dL, .ref dR, .ref dT, .ref dZ, .ref dI, .ref dH, .ref dN, .ref dK, .ref dJ, .ref dU, .ref dO, .int 0, .int 0, .ref dF, .ref dP, .ref dE, .ref dX, .ref dY, .int 0, .int 0, .ref dG]))) (k_dS : f dS = some (.inl (cI G, 2, .inl (fun _ => 0)))) (x : Int32) : CT l yX5_pass (.code yX5_pass cX5_pass 4 (some .int)) 1 22 0 0 G [.ref mo, .int x] f (fun v f1 => (∃ r : Int32, v = some (.int r) ∧ (spc (sT x) True = 0 → r = 0)) ∧ (∃ c9 : List Value, f1 mo = some (.inr (5, .int (spc (sT x) True) :: c9))) ∧ hKeep [mo] f f1) (fun E f1 => False) := by
  refine hp_start hl (own := RX5) (by decide) rfl (Nat.le_of_ble_eq_true rfl) ?_
  intro p e s m args below meth c B0 hr hnm hout hw hS ls hl9
  have hx := B0.1
  have hb := B0.2.1
  have hl9 : lv_has ls 4 [(0, .ref mo), (1, .int x)] := hl9
  refine lv_aload_n hx hb dX5_pass_0 rfl (lv_at hl9 0 rfl) ?_
  refine lv_iload_n hx hb dX5_pass_1 rfl (lv_at hl9 1 rfl) ?_
  refine lv_iconst (v := 1) hx hb dX5_pass_2 (by decide) ?_
  refine lv_bipush (v := 50) hx hb dX5_pass_3 (by decide) ?_
  refine hp_S (As := [.int x, .int 1, .int 50]) (rest := [.ref mo]) B0 hw hS (c_X5_in hl G f x 1 50) mS_X5_in qM_X5_81 rfl rfl hl9.1 (Nat.le_of_ble_eq_true rfl) ⟨⟨Nat.le_of_ble_eq_true rfl, Nat.le_of_ble_eq_true rfl⟩, Nat.le_of_ble_eq_true rfl, Nat.le_of_ble_eq_true rfl⟩ dX5_pass_5 (fun E ce q9 f1 H locs hPX hw hS hce hcv hcl => ?_) (fun v f1 H locs hP hw hS => ?_)
  · exact hPX.elim
  · obtain ⟨ef9, hv9⟩ := hP
    rw [ef9] at hw
    rcases hv9 with ⟨b2, ev9⟩ | ⟨b2, ev9⟩
    · subst ev9
      refine W.eq (g2 := F0 m 8 ls [.int 1, .ref mo]) rfl ?_
      refine lv_if_eq (tgt := 15) hx hb dX5_pass_8 (by decide) (fun c9 => absurd c9 (by decide)) (fun _ => ?_)
      refine lv_iconst (v := 0) hx hb dX5_pass_11 (by decide) ?_
      refine lv_goto (tgt := 16) hx hb dX5_pass_12 (by decide) ?_
      refine hp_put (fs1 := [.int 0, .ref dW, .ref dA, .ref dQ, .ref dM, .ref dS, .ref dL, .ref dR, .ref dT, .ref dZ, .ref dI, .ref dH, .ref dN, .ref dK, .ref dJ, .ref dU, .ref dO, .int 0, .int 0, .ref dF, .ref dP, .ref dE, .ref dX, .ref dY, .int 0, .int 0, .ref dG]) (ty := .int) B0 hw hS 5 rfl in_X5 tyX5 tyX5_ok nmX5 k_mo 0 (by decide) qF_X5_77 rfl (by decide +kernel) rfl rfl (Nat.le_of_ble_eq_true rfl) rfl dX5_pass_16 (fun H locs f3 ef3 hw hS => ?_)
      have h4 : f3 mo = some (.inr (5, [.int 0, .ref dW, .ref dA, .ref dQ, .ref dM, .ref dS, .ref dL, .ref dR, .ref dT, .ref dZ, .ref dI, .ref dH, .ref dN, .ref dK, .ref dJ, .ref dU, .ref dO, .int 0, .int 0, .ref dF, .ref dP, .ref dE, .ref dX, .ref dY, .int 0, .int 0, .ref dG])) := by rw [ef3, va_up_self]
      refine lv_iconst (v := 0) hx hb dX5_pass_19 (by decide) ?_
      refine lv_istore_n (lv' := [(2, .int 0), (0, .ref mo), (1, .int x)]) hx hb dX5_pass_20 rfl hl9 (by decide) rfl (fun ls hl9 => ?_)
      refine lv_iconst (v := 0) hx hb dX5_pass_21 (by decide) ?_
      refine lv_istore_n (lv' := [(3, .int 0), (2, .int 0), (0, .ref mo), (1, .int x)]) hx hb dX5_pass_22 rfl hl9 (by decide) rfl (fun ls hl9 => ?_)
      obtain ⟨T, hT, eT⟩ := nI_of2 (x := x) (M := 50) (n := 50) rfl (by have h1 := b2.1; simp only [jlt, jle, tq0, tq1, tq3, tq4, tq6, tq9, tq50, tq60, tq1023, tqm1] at h1 ⊢; omega) (by have h1 := b2.2; simp only [jlt, jle, tq0, tq1, tq3, tq4, tq6, tq9, tq50, tq60, tq1023, tqm1] at h1 ⊢; omega)
      refine hp_for (nL := 4) (pc := 23) (fun j f9 lv9 => f9 = f3 ∧ lv9 = [(3, .int (nI j)), (0, .ref mo), (1, .int x), (2, .int 0)]) T (fun j f9 lv9 H locs ls hj hI hw hS hl9 ih => ?_) (fun f9 lv9 H locs ls hI hw hS hl9 => ?_) T 0 (by omega) f3 _ _ _ ls ⟨rfl, rfl⟩ hw hS (lv_sub hl9 [0, 2, 3, 1] rfl)
      · rw [hI.1] at hw
        rw [hI.2] at hl9
        refine lv_iload_n hx hb dX5_pass_23 rfl (lv_at hl9 0 rfl) ?_
        refine lv_iload_n hx hb dX5_pass_24 rfl (lv_at hl9 2 rfl) ?_
        refine lv_icmp_ge (tgt := 57) hx hb dX5_pass_25 (by decide) (fun c9 => absurd c9 (by rw [eT]; exact nI_ge hj (by omega))) (fun _ => ?_)
        refine lv_aload_n hx hb dX5_pass_28 rfl (lv_at hl9 1 rfl) ?_
        refine hp_get B0 hw 5 rfl in_X5 h4 0 (by decide) qF_X5_77 rfl dX5_pass_29 ?_
        refine lv_if_ne (tgt := 57) hx hb dX5_pass_32 (by decide) (fun c9 => absurd (by decide) c9) (fun _ => ?_)
        refine lv_iload_n hx hb dX5_pass_35 rfl (lv_at hl9 3 rfl) ?_
        refine lv_aload_n hx hb dX5_pass_36 rfl (lv_at hl9 1 rfl) ?_
        refine lv_iconst (v := 0) hx hb dX5_pass_37 (by decide) ?_
        have n6 : dS ≠ mo := hne k_dS k_mo (Nat.ne_of_beq_eq_false rfl)
        have h5 : f3 dS = some (.inl (cI G, 2, .inl (fun _ => 0))) := by rw [ef3, va_up_ne _ _ n6]; exact k_dS
        refine hp_V (ci := 5) (As := [.int 0]) (rest := [.int 0]) B0 hw hS (c_X5_goesBy0 hl G f3 mo dW dA dQ dM dS dL dR dT dZ dI dH dN dK dJ dU dO dF dP dE dX dY dG 0 h4 h5) mV_X5_goesBy qM_X5_130 rfl h4 rfl rfl hl9.1 (Nat.le_of_ble_eq_true rfl) ⟨⟨Nat.le_of_ble_eq_true rfl, Nat.le_of_ble_eq_true rfl⟩, Nat.le_of_ble_eq_true rfl, Nat.le_of_ble_eq_true rfl⟩ dX5_pass_38 (fun E ce q9 f7 H locs hPX hw hS hce hcv hcl => ?_) (fun v f7 H locs hP hw hS => ?_)
        · exact hPX.elim
        · obtain ⟨ev9, ef9⟩ := hP
          rw [ef9] at hw
          subst ev9
          refine W.eq (g2 := F0 m 41 ls [.int 0, .int 0]) rfl ?_
          refine lv_iadd hx hb dX5_pass_41 ?_
          refine hp_c (v := 0) (by decide) ?_
          refine lv_istore_n (lv' := [(2, .int 0), (3, .int (nI j)), (0, .ref mo), (1, .int x)]) hx hb dX5_pass_42 rfl hl9 (by decide) rfl (fun ls hl9 => ?_)
          refine lv_iload_n hx hb dX5_pass_43 rfl (lv_at hl9 0 rfl) ?_
          refine lv_aload_n hx hb dX5_pass_44 rfl (lv_at hl9 2 rfl) ?_
          refine lv_iconst (v := 1) hx hb dX5_pass_45 (by decide) ?_
          refine hp_V (ci := 5) (As := [.int 1]) (rest := [.int 0]) B0 hw hS (c_X5_goesBy1 hl G f3 mo dW dA dQ dM dS dL dR dT dZ dI dH dN dK dJ dU dO dF dP dE dX dY dG 0 h4 h5) mV_X5_goesBy qM_X5_130 rfl h4 rfl rfl hl9.1 (Nat.le_of_ble_eq_true rfl) ⟨⟨Nat.le_of_ble_eq_true rfl, Nat.le_of_ble_eq_true rfl⟩, Nat.le_of_ble_eq_true rfl, Nat.le_of_ble_eq_true rfl⟩ dX5_pass_46 (fun E ce q9 f8 H locs hPX hw hS hce hcv hcl => ?_) (fun v f8 H locs hP hw hS => ?_)
          · exact hPX.elim
          · obtain ⟨ev9, ef9⟩ := hP
            rw [ef9] at hw
            subst ev9
            refine W.eq (g2 := F0 m 49 ls [.int 0, .int 0]) rfl ?_
            refine lv_iadd hx hb dX5_pass_49 ?_
            refine hp_c (v := 0) (by decide) ?_
            refine lv_istore_n (lv' := [(2, .int 0), (3, .int (nI j)), (0, .ref mo), (1, .int x)]) hx hb dX5_pass_50 rfl hl9 (by decide) rfl (fun ls hl9 => ?_)
            refine lv_iinc (v := (nI (j + 1))) (lv' := [(3, .int (nI (j + 1))), (2, .int 0), (0, .ref mo), (1, .int x)]) hx hb dX5_pass_51 hl9 (k := 1) rfl (nI_1 j) (by decide) rfl (fun ls hl9 => ?_)
            refine lv_goto (tgt := 23) hx hb dX5_pass_54 (by decide) ?_
            exact ih _ _ H locs ls ⟨rfl, rfl⟩ hw hS (lv_sub hl9 [0, 2, 3, 1] rfl)
      · rw [hI.1] at hw
        rw [hI.2] at hl9
        refine lv_iload_n hx hb dX5_pass_23 rfl (lv_at hl9 0 rfl) ?_
        refine lv_iload_n hx hb dX5_pass_24 rfl (lv_at hl9 2 rfl) ?_
        refine lv_icmp_ge (tgt := 57) hx hb dX5_pass_25 (by decide) (fun _ => ?_) (fun c9 => absurd (by rw [eT]; exact nI_le (Nat.le_refl _) (by omega)) c9)
        refine lv_iload_n hx hb dX5_pass_57 rfl (lv_at hl9 3 rfl) ?_
        exact hp_iret (v := 0) B0 hw hS hr ⟨Nat.le_of_ble_eq_true rfl, Nat.le_of_ble_eq_true rfl⟩ dX5_pass_58 (⟨⟨_, rfl, fun _ => rfl⟩, ⟨_, (by rw [show spc (sT x) True = 0 from (spc_0 (by have h1 := b2; simp only [jlt, jle, tq0, tq1, tq3, tq4, tq6, tq9, tq50, tq60, tq1023, tqm1] at h1; exact ⟨by omega, by omega⟩) trivial)]; exact h4)⟩, (show hKeep [mo] f f3 from (by rw [ef3]; exact hKeep.up (by simp)))⟩)
    · subst ev9
      refine W.eq (g2 := F0 m 8 ls [.int 0, .ref mo]) rfl ?_
      refine lv_if_eq (tgt := 15) hx hb dX5_pass_8 (by decide) (fun _ => ?_) (fun c9 => absurd (by decide) c9)
      refine lv_iconst (v := 1) hx hb dX5_pass_15 (by decide) ?_
      refine hp_put (fs1 := [.int 1, .ref dW, .ref dA, .ref dQ, .ref dM, .ref dS, .ref dL, .ref dR, .ref dT, .ref dZ, .ref dI, .ref dH, .ref dN, .ref dK, .ref dJ, .ref dU, .ref dO, .int 0, .int 0, .ref dF, .ref dP, .ref dE, .ref dX, .ref dY, .int 0, .int 0, .ref dG]) (ty := .int) B0 hw hS 5 rfl in_X5 tyX5 tyX5_ok nmX5 k_mo 0 (by decide) qF_X5_77 rfl (by decide +kernel) rfl rfl (Nat.le_of_ble_eq_true rfl) rfl dX5_pass_16 (fun H locs f9 ef9 hw hS => ?_)
      have h10 : f9 mo = some (.inr (5, [.int 1, .ref dW, .ref dA, .ref dQ, .ref dM, .ref dS, .ref dL, .ref dR, .ref dT, .ref dZ, .ref dI, .ref dH, .ref dN, .ref dK, .ref dJ, .ref dU, .ref dO, .int 0, .int 0, .ref dF, .ref dP, .ref dE, .ref dX, .ref dY, .int 0, .int 0, .ref dG])) := by rw [ef9, va_up_self]
      refine lv_iconst (v := 0) hx hb dX5_pass_19 (by decide) ?_
      refine lv_istore_n (lv' := [(2, .int 0), (0, .ref mo), (1, .int x)]) hx hb dX5_pass_20 rfl hl9 (by decide) rfl (fun ls hl9 => ?_)
      refine lv_iconst (v := 0) hx hb dX5_pass_21 (by decide) ?_
      refine lv_istore_n (lv' := [(3, .int 0), (2, .int 0), (0, .ref mo), (1, .int x)]) hx hb dX5_pass_22 rfl hl9 (by decide) rfl (fun ls hl9 => ?_)
      refine lv_iload_n hx hb dX5_pass_23 rfl (lv_at hl9 0 rfl) ?_
      refine lv_iload_n hx hb dX5_pass_24 rfl (lv_at hl9 3 rfl) ?_
      refine lv_icmp_ge (tgt := 57) hx hb dX5_pass_25 (by decide) (fun c11 => ?_) (fun c11 => ?_)
      · refine lv_iload_n hx hb dX5_pass_57 rfl (lv_at hl9 1 rfl) ?_
        exact hp_iret (v := 0) B0 hw hS hr ⟨Nat.le_of_ble_eq_true rfl, Nat.le_of_ble_eq_true rfl⟩ dX5_pass_58 (⟨⟨_, rfl, fun h9 => absurd (h9.symm.trans (spc_1 (fun h9 => b2 (by simp only [jlt, jle, tq0, tq1, tq3, tq4, tq6, tq9, tq50, tq60, tq1023, tqm1]; exact ⟨by omega, by omega⟩)))) (by decide)⟩, ⟨_, (by rw [show spc (sT x) True = 1 from (spc_1 (fun h9 => b2 (by simp only [jlt, jle, tq0, tq1, tq3, tq4, tq6, tq9, tq50, tq60, tq1023, tqm1]; exact ⟨by omega, by omega⟩)))]; exact h10)⟩, (show hKeep [mo] f f9 from (by rw [ef9]; exact hKeep.up (by simp)))⟩)
      · refine lv_aload_n hx hb dX5_pass_28 rfl (lv_at hl9 2 rfl) ?_
        refine hp_get B0 hw 5 rfl in_X5 h10 0 (by decide) qF_X5_77 rfl dX5_pass_29 ?_
        refine lv_if_ne (tgt := 57) hx hb dX5_pass_32 (by decide) (fun _ => ?_) (fun c9 => absurd c9 (by decide))
        refine lv_iload_n hx hb dX5_pass_57 rfl (lv_at hl9 1 rfl) ?_
        exact hp_iret (v := 0) B0 hw hS hr ⟨Nat.le_of_ble_eq_true rfl, Nat.le_of_ble_eq_true rfl⟩ dX5_pass_58 (⟨⟨_, rfl, fun h9 => absurd (h9.symm.trans (spc_1 (fun h9 => b2 (by simp only [jlt, jle, tq0, tq1, tq3, tq4, tq6, tq9, tq50, tq60, tq1023, tqm1]; exact ⟨by omega, by omega⟩)))) (by decide)⟩, ⟨_, (by rw [show spc (sT x) True = 1 from (spc_1 (fun h9 => b2 (by simp only [jlt, jle, tq0, tq1, tq3, tq4, tq6, tq9, tq50, tq60, tq1023, tqm1]; exact ⟨by omega, by omega⟩)))]; exact h10)⟩, (show hKeep [mo] f f9 from (by rw [ef9]; exact hKeep.up (by simp)))⟩)

set_option maxHeartbeats 4000000 in
set_option maxRecDepth 100000 in
theorem c_X5_send0 {l : Launch} (hl : l.stackTraces = false) (G : hG) (f : hM) (mo dW dA dQ dM dS dL dR dT dZ dI dH dN dK dJ dU dO dF dP dE dX dY dG : Nat) (th : Int32) (k_mo : f mo = some (.inr (5, [.int th, .ref dW, .ref dA, .ref dQ, .ref dM, .ref dS, .ref dL, .ref dR, .ref dT, .ref dZ, .ref dI, .ref dH, .ref dN, .ref dK, .ref dJ, .ref dU, .ref dO, .int 0, .int 0, .ref dF, .ref dP, .ref dE, .ref dX, .ref dY, .int 0, .int 0, .ref dG]))) (k_dF : f dF = some (.inl (cI G, 61, .inl (fun _ => 0)))) (k_dP : f dP = some (.inl (cI G, 240, .inl (fun _ => 0)))) (nd_dF_dP : dF ≠ dP) (x : Int32) : CT l yX5_send (.code yX5_send cX5_send 4 (some .int)) 1 22 0 0 G [.ref mo, .int x] f (fun v f1 => (∃ r : Int32, v = some (.int r) ∧ (spc (sP x) True = 0 → r = 0)) ∧ (∃ c9 : List Value, f1 mo = some (.inr (5, .int (spc (sP x) True) :: c9))) ∧ hKeep [mo, dF, dP] f f1) (fun E f1 => False) := by
  refine hp_start hl (own := RX5) (by decide) rfl (Nat.le_of_ble_eq_true rfl) ?_
  intro p e s m args below meth c B0 hr hnm hout hw hS ls hl9
  have hx := B0.1
  have hb := B0.2.1
  have hl9 : lv_has ls 4 [(0, .ref mo), (1, .int x)] := hl9
  refine lv_aload_n hx hb dX5_send_0 rfl (lv_at hl9 0 rfl) ?_
  refine lv_iload_n hx hb dX5_send_1 rfl (lv_at hl9 1 rfl) ?_
  refine lv_iconst (v := 1) hx hb dX5_send_2 (by decide) ?_
  refine lv_iconst (v := 4) hx hb dX5_send_3 (by decide) ?_
  refine hp_S (As := [.int x, .int 1, .int 4]) (rest := [.ref mo]) B0 hw hS (c_X5_in hl G f x 1 4) mS_X5_in qM_X5_81 rfl rfl hl9.1 (Nat.le_of_ble_eq_true rfl) ⟨⟨Nat.le_of_ble_eq_true rfl, Nat.le_of_ble_eq_true rfl⟩, Nat.le_of_ble_eq_true rfl, Nat.le_of_ble_eq_true rfl⟩ dX5_send_4 (fun E ce q9 f1 H locs hPX hw hS hce hcv hcl => ?_) (fun v f1 H locs hP hw hS => ?_)
  · exact hPX.elim
  · obtain ⟨ef9, hv9⟩ := hP
    rw [ef9] at hw
    rcases hv9 with ⟨b2, ev9⟩ | ⟨b2, ev9⟩
    · subst ev9
      refine W.eq (g2 := F0 m 7 ls [.int 1, .ref mo]) rfl ?_
      refine lv_if_ne (tgt := 14) hx hb dX5_send_7 (by decide) (fun _ => ?_) (fun c9 => absurd c9 (by decide))
      refine lv_aload_n hx hb dX5_send_14 rfl (lv_at hl9 0 rfl) ?_
      refine hp_get B0 hw 5 rfl in_X5 k_mo 17 (by decide) qF_X5_136 rfl dX5_send_15 ?_
      refine lv_bipush (v := 60) hx hb dX5_send_18 (by decide) ?_
      refine lv_icmp_ne (tgt := 27) hx hb dX5_send_20 (by decide) (fun _ => ?_) (fun c9 => absurd c9 (by decide))
      refine lv_iconst (v := 0) hx hb dX5_send_27 (by decide) ?_
      refine hp_put (fs1 := [.int 0, .ref dW, .ref dA, .ref dQ, .ref dM, .ref dS, .ref dL, .ref dR, .ref dT, .ref dZ, .ref dI, .ref dH, .ref dN, .ref dK, .ref dJ, .ref dU, .ref dO, .int 0, .int 0, .ref dF, .ref dP, .ref dE, .ref dX, .ref dY, .int 0, .int 0, .ref dG]) (ty := .int) B0 hw hS 5 rfl in_X5 tyX5 tyX5_ok nmX5 k_mo 0 (by decide) qF_X5_77 rfl (by decide +kernel) rfl rfl (Nat.le_of_ble_eq_true rfl) rfl dX5_send_28 (fun H locs f3 ef3 hw hS => ?_)
      have h4 : f3 mo = some (.inr (5, [.int 0, .ref dW, .ref dA, .ref dQ, .ref dM, .ref dS, .ref dL, .ref dR, .ref dT, .ref dZ, .ref dI, .ref dH, .ref dN, .ref dK, .ref dJ, .ref dU, .ref dO, .int 0, .int 0, .ref dF, .ref dP, .ref dE, .ref dX, .ref dY, .int 0, .int 0, .ref dG])) := by rw [ef3, va_up_self]
      refine lv_aload_n hx hb dX5_send_31 rfl (lv_at hl9 0 rfl) ?_
      refine hp_get B0 hw 5 rfl in_X5 h4 0 (by decide) qF_X5_77 rfl dX5_send_32 ?_
      refine lv_if_le (tgt := 40) hx hb dX5_send_35 (by decide) (fun _ => ?_) (fun c9 => absurd (by decide) c9)
      refine lv_aload_n hx hb dX5_send_40 rfl (lv_at hl9 0 rfl) ?_
      refine hp_get B0 hw 5 rfl in_X5 h4 18 (by decide) qF_X5_139 rfl dX5_send_41 ?_
      refine lv_istore_n (lv' := [(2, .int 0), (0, .ref mo), (1, .int x)]) hx hb dX5_send_44 rfl hl9 (by decide) rfl (fun ls hl9 => ?_)
      refine lv_aload_n hx hb dX5_send_45 rfl (lv_at hl9 1 rfl) ?_
      refine hp_get B0 hw 5 rfl in_X5 h4 19 (by decide) qF_X5_59 rfl dX5_send_46 ?_
      refine lv_aload_n hx hb dX5_send_49 rfl (lv_at hl9 1 rfl) ?_
      refine hp_get B0 hw 5 rfl in_X5 h4 17 (by decide) qF_X5_136 rfl dX5_send_50 ?_
      refine lv_iload_n hx hb dX5_send_53 rfl (lv_at hl9 0 rfl) ?_
      have n6 : dF ≠ mo := hne k_dF k_mo (Nat.ne_of_beq_eq_false rfl)
      have h5 : f3 dF = some (.inl (cI G, 61, .inl (fun _ => 0))) := by rw [ef3, va_up_ne _ _ n6]; exact k_dF
      refine hp_iast B0 hw hS h5 (by unfold vp_in; decide) dX5_send_54 (fun H locs f7 ef7 hw hS => ?_)
      have h8 : f7 dF = some (.inl (cI G, 61, .inl (upd (fun _ => 0) (0 : Int32).toNatClampNeg 0))) := by rw [ef7, va_up_self]
      refine lv_iconst (v := 0) hx hb dX5_send_55 (by decide) ?_
      refine lv_istore_n (lv' := [(3, .int 0), (2, .int 0), (0, .ref mo), (1, .int x)]) hx hb dX5_send_56 rfl hl9 (by decide) rfl (fun ls hl9 => ?_)
      obtain ⟨T, hT, eT⟩ := nI_of2 (x := x) (M := 4) (n := 4) rfl (by have h1 := b2.1; simp only [jlt, jle, tq0, tq1, tq3, tq4, tq6, tq9, tq50, tq60, tq1023, tqm1] at h1 ⊢; omega) (by have h1 := b2.2; simp only [jlt, jle, tq0, tq1, tq3, tq4, tq6, tq9, tq50, tq60, tq1023, tqm1] at h1 ⊢; omega)
      have n10 : dP ≠ mo := hne k_dP k_mo (Nat.ne_of_beq_eq_false rfl)
      have h9 : f3 dP = some (.inl (cI G, 240, .inl (fun _ => 0))) := by rw [ef3, va_up_ne _ _ n10]; exact k_dP
      have h11 : f7 dP = some (.inl (cI G, 240, .inl (fun _ => 0))) := by rw [ef7, va_up_ne _ _ (Ne.symm nd_dF_dP)]; exact h9
      have h12 : f7 mo = some (.inr (5, [.int 0, .ref dW, .ref dA, .ref dQ, .ref dM, .ref dS, .ref dL, .ref dR, .ref dT, .ref dZ, .ref dI, .ref dH, .ref dN, .ref dK, .ref dJ, .ref dU, .ref dO, .int 0, .int 0, .ref dF, .ref dP, .ref dE, .ref dX, .ref dY, .int 0, .int 0, .ref dG])) := by rw [ef7, va_up_ne _ _ (Ne.symm n6)]; exact h4
      refine hp_for (nL := 4) (pc := 57) (fun j f9 lv9 => (∃ g9 : Nat → Int32, f9 dP = some (.inl (cI G, 240, .inl g9)) ∧ f9 mo = some (.inr (5, [.int 0, .ref dW, .ref dA, .ref dQ, .ref dM, .ref dS, .ref dL, .ref dR, .ref dT, .ref dZ, .ref dI, .ref dH, .ref dN, .ref dK, .ref dJ, .ref dU, .ref dO, .int 0, .int 0, .ref dF, .ref dP, .ref dE, .ref dX, .ref dY, .int 0, .int 0, .ref dG]))) ∧ hKeep [dP] f7 f9 ∧ lv9 = [(3, .int (nI j)), (0, .ref mo), (1, .int x), (2, .int 0)]) T (fun j f9 lv9 H locs ls hj hI hw hS hl9 ih => ?_) (fun f9 lv9 H locs ls hI hw hS hl9 => ?_) T 0 (by omega) f7 _ _ _ ls ⟨⟨_, h11, h12⟩, hKeep.rf, rfl⟩ hw hS (lv_sub hl9 [0, 2, 3, 1] rfl)
      · obtain ⟨⟨g9, kb9, ku9⟩, kk9, el9⟩ := hI
        rw [el9] at hl9
        refine lv_iload_n hx hb dX5_send_57 rfl (lv_at hl9 0 rfl) ?_
        refine lv_iload_n hx hb dX5_send_58 rfl (lv_at hl9 2 rfl) ?_
        refine lv_icmp_ge (tgt := 80) hx hb dX5_send_59 (by decide) (fun c9 => absurd c9 (by rw [eT]; exact nI_ge hj (by omega))) (fun _ => ?_)
        refine lv_aload_n hx hb dX5_send_62 rfl (lv_at hl9 1 rfl) ?_
        refine hp_get B0 hw 5 rfl in_X5 ku9 20 (by decide) qF_X5_62 rfl dX5_send_63 ?_
        refine lv_iload_n hx hb dX5_send_66 rfl (lv_at hl9 3 rfl) ?_
        refine lv_iload_n hx hb dX5_send_67 rfl (lv_at hl9 0 rfl) ?_
        refine lv_iadd hx hb dX5_send_68 ?_
        refine hp_c (v := (nI j)) (Int32.zero_add _) ?_
        refine lv_aload_n hx hb dX5_send_69 rfl (lv_at hl9 1 rfl) ?_
        refine hp_get B0 hw 5 rfl in_X5 ku9 17 (by decide) qF_X5_136 rfl dX5_send_70 ?_
        refine hp_iast B0 hw hS kb9 (vp_in_nI (show j < 240 by omega) (by decide)) dX5_send_73 (fun H locs f13 ef13 hw hS => ?_)
        have h14 : f13 dP = some (.inl (cI G, 240, .inl (upd g9 ((nI j) : Int32).toNatClampNeg 0))) := by rw [ef13, va_up_self]
        refine lv_iinc (v := (nI (j + 1))) (lv' := [(3, .int (nI (j + 1))), (0, .ref mo), (1, .int x), (2, .int 0)]) hx hb dX5_send_74 hl9 (k := 0) rfl (nI_1 j) (by decide) rfl (fun ls hl9 => ?_)
        refine lv_goto (tgt := 57) hx hb dX5_send_77 (by decide) ?_
        have n16 : mo ≠ dP := hne ku9 kb9 (Nat.ne_of_beq_eq_false rfl)
        have h15 : f13 mo = some (.inr (5, [.int 0, .ref dW, .ref dA, .ref dQ, .ref dM, .ref dS, .ref dL, .ref dR, .ref dT, .ref dZ, .ref dI, .ref dH, .ref dN, .ref dK, .ref dJ, .ref dU, .ref dO, .int 0, .int 0, .ref dF, .ref dP, .ref dE, .ref dX, .ref dY, .int 0, .int 0, .ref dG])) := by rw [ef13, va_up_ne _ _ n16]; exact ku9
        exact ih _ _ H locs ls ⟨⟨_, h14, h15⟩, kk9.tr (show hKeep [dP] f9 f13 from (by rw [ef13]; exact hKeep.up (by simp))), rfl⟩ hw hS (lv_sub hl9 [0, 1, 2, 3] rfl)
      · obtain ⟨⟨g9, kb9, ku9⟩, kk9, el9⟩ := hI
        rw [el9] at hl9
        refine lv_iload_n hx hb dX5_send_57 rfl (lv_at hl9 0 rfl) ?_
        refine lv_iload_n hx hb dX5_send_58 rfl (lv_at hl9 2 rfl) ?_
        refine lv_icmp_ge (tgt := 80) hx hb dX5_send_59 (by decide) (fun _ => ?_) (fun c9 => absurd (by rw [eT]; exact nI_le (Nat.le_refl _) (by omega)) c9)
        refine lv_aload_n hx hb dX5_send_80 rfl (lv_at hl9 1 rfl) ?_
        refine lv_dup hx hb dX5_send_81 rfl ?_
        have h17 : f9 mo = some (.inr (5, [.int 0, .ref dW, .ref dA, .ref dQ, .ref dM, .ref dS, .ref dL, .ref dR, .ref dT, .ref dZ, .ref dI, .ref dH, .ref dN, .ref dK, .ref dJ, .ref dU, .ref dO, .int 0, .int 0, .ref dF, .ref dP, .ref dE, .ref dX, .ref dY, .int 0, .int 0, .ref dG])) := kk9 _ _ h12 (ninc (Ne.symm n10) nin0)
        refine hp_get B0 hw 5 rfl in_X5 h17 18 (by decide) qF_X5_139 rfl dX5_send_82 ?_
        refine lv_iload_n hx hb dX5_send_85 rfl (lv_at hl9 2 rfl) ?_
        refine lv_iadd hx hb dX5_send_86 ?_
        refine hp_put (fs1 := [.int 0, .ref dW, .ref dA, .ref dQ, .ref dM, .ref dS, .ref dL, .ref dR, .ref dT, .ref dZ, .ref dI, .ref dH, .ref dN, .ref dK, .ref dJ, .ref dU, .ref dO, .int 0, .int (0 + x), .ref dF, .ref dP, .ref dE, .ref dX, .ref dY, .int 0, .int 0, .ref dG]) (ty := .int) B0 hw hS 5 rfl in_X5 tyX5 tyX5_ok nmX5 h17 18 (by decide) qF_X5_139 rfl (by decide +kernel) rfl rfl (Nat.le_of_ble_eq_true rfl) rfl dX5_send_87 (fun H locs f18 ef18 hw hS => ?_)
        have h19 : f18 mo = some (.inr (5, [.int 0, .ref dW, .ref dA, .ref dQ, .ref dM, .ref dS, .ref dL, .ref dR, .ref dT, .ref dZ, .ref dI, .ref dH, .ref dN, .ref dK, .ref dJ, .ref dU, .ref dO, .int 0, .int (0 + x), .ref dF, .ref dP, .ref dE, .ref dX, .ref dY, .int 0, .int 0, .ref dG])) := by rw [ef18, va_up_self]
        refine lv_aload_n hx hb dX5_send_90 rfl (lv_at hl9 1 rfl) ?_
        refine lv_dup hx hb dX5_send_91 rfl ?_
        refine hp_get B0 hw 5 rfl in_X5 h19 17 (by decide) qF_X5_136 rfl dX5_send_92 ?_
        refine lv_iconst (v := 1) hx hb dX5_send_95 (by decide) ?_
        refine lv_iadd hx hb dX5_send_96 ?_
        refine hp_c (v := 1) (by decide) ?_
        refine hp_put (fs1 := [.int 0, .ref dW, .ref dA, .ref dQ, .ref dM, .ref dS, .ref dL, .ref dR, .ref dT, .ref dZ, .ref dI, .ref dH, .ref dN, .ref dK, .ref dJ, .ref dU, .ref dO, .int 1, .int (0 + x), .ref dF, .ref dP, .ref dE, .ref dX, .ref dY, .int 0, .int 0, .ref dG]) (ty := .int) B0 hw hS 5 rfl in_X5 tyX5 tyX5_ok nmX5 h19 17 (by decide) qF_X5_136 rfl (by decide +kernel) rfl rfl (Nat.le_of_ble_eq_true rfl) rfl dX5_send_97 (fun H locs f20 ef20 hw hS => ?_)
        have e21 : f20 = va_up f9 mo (some (.inr (5, [.int 0, .ref dW, .ref dA, .ref dQ, .ref dM, .ref dS, .ref dL, .ref dR, .ref dT, .ref dZ, .ref dI, .ref dH, .ref dN, .ref dK, .ref dJ, .ref dU, .ref dO, .int 1, .int (0 + x), .ref dF, .ref dP, .ref dE, .ref dX, .ref dY, .int 0, .int 0, .ref dG]))) := by rw [ef20, ef18, bx_uu]
        have h22 : f20 mo = some (.inr (5, [.int 0, .ref dW, .ref dA, .ref dQ, .ref dM, .ref dS, .ref dL, .ref dR, .ref dT, .ref dZ, .ref dI, .ref dH, .ref dN, .ref dK, .ref dJ, .ref dU, .ref dO, .int 1, .int (0 + x), .ref dF, .ref dP, .ref dE, .ref dX, .ref dY, .int 0, .int 0, .ref dG])) := by rw [ef20, va_up_self]
        refine lv_aload_n hx hb dX5_send_100 rfl (lv_at hl9 1 rfl) ?_
        refine hp_get B0 hw 5 rfl in_X5 h22 19 (by decide) qF_X5_59 rfl dX5_send_101 ?_
        refine lv_aload_n hx hb dX5_send_104 rfl (lv_at hl9 1 rfl) ?_
        refine hp_get B0 hw 5 rfl in_X5 h22 17 (by decide) qF_X5_136 rfl dX5_send_105 ?_
        refine lv_aload_n hx hb dX5_send_108 rfl (lv_at hl9 1 rfl) ?_
        refine hp_get B0 hw 5 rfl in_X5 h22 18 (by decide) qF_X5_139 rfl dX5_send_109 ?_
        have h23 : f9 dF = some (.inl (cI G, 61, .inl (upd (fun _ => 0) (0 : Int32).toNatClampNeg 0))) := kk9 _ _ h8 (ninc nd_dF_dP nin0)
        have h24 : f20 dF = some (.inl (cI G, 61, .inl (upd (fun _ => 0) (0 : Int32).toNatClampNeg 0))) := by rw [e21, va_up_ne _ _ n6]; exact h23
        refine hp_iast B0 hw hS h24 (by unfold vp_in; decide) dX5_send_112 (fun H locs f25 ef25 hw hS => ?_)
        have h26 : f25 dF = some (.inl (cI G, 61, .inl (upd (upd (fun _ => 0) (0 : Int32).toNatClampNeg 0) (1 : Int32).toNatClampNeg (0 + x)))) := by rw [ef25, va_up_self]
        refine lv_iload_n hx hb dX5_send_113 rfl (lv_at hl9 3 rfl) ?_
        have h27 : f25 mo = some (.inr (5, [.int 0, .ref dW, .ref dA, .ref dQ, .ref dM, .ref dS, .ref dL, .ref dR, .ref dT, .ref dZ, .ref dI, .ref dH, .ref dN, .ref dK, .ref dJ, .ref dU, .ref dO, .int 1, .int (0 + x), .ref dF, .ref dP, .ref dE, .ref dX, .ref dY, .int 0, .int 0, .ref dG])) := by rw [ef25, va_up_ne _ _ (Ne.symm n6)]; exact h22
        exact hp_iret (v := 0) B0 hw hS hr ⟨Nat.le_of_ble_eq_true rfl, Nat.le_of_ble_eq_true rfl⟩ dX5_send_114 (⟨⟨_, rfl, fun _ => rfl⟩, ⟨_, (by rw [show spc (sP x) True = 0 from (spc_0 (by have h1 := b2; simp only [jlt, jle, tq0, tq1, tq3, tq4, tq6, tq9, tq50, tq60, tq1023, tqm1] at h1; exact ⟨by omega, by omega⟩) trivial)]; exact h27)⟩, ((show hKeep [mo, dF, dP] f f3 from (by rw [ef3]; exact hKeep.up (by simp))).tr ((show hKeep [mo, dF, dP] f3 f7 from (by rw [ef7]; exact hKeep.up (by simp))).tr ((show hKeep [mo, dF, dP] f7 f9 from (kk9.mono (fun x9 hx9 => by simp only [List.mem_cons, List.not_mem_nil, or_false] at hx9 ⊢; omega))).tr ((show hKeep [mo, dF, dP] f9 f20 from (by rw [e21]; exact hKeep.up (by simp))).tr (show hKeep [mo, dF, dP] f20 f25 from (by rw [ef25]; exact hKeep.up (by simp)))))))⟩)
    · subst ev9
      refine W.eq (g2 := F0 m 7 ls [.int 0, .ref mo]) rfl ?_
      refine lv_if_ne (tgt := 14) hx hb dX5_send_7 (by decide) (fun c9 => absurd (by decide) c9) (fun _ => ?_)
      refine lv_iconst (v := 1) hx hb dX5_send_10 (by decide) ?_
      refine lv_goto (tgt := 28) hx hb dX5_send_11 (by decide) ?_
      refine hp_put (fs1 := [.int 1, .ref dW, .ref dA, .ref dQ, .ref dM, .ref dS, .ref dL, .ref dR, .ref dT, .ref dZ, .ref dI, .ref dH, .ref dN, .ref dK, .ref dJ, .ref dU, .ref dO, .int 0, .int 0, .ref dF, .ref dP, .ref dE, .ref dX, .ref dY, .int 0, .int 0, .ref dG]) (ty := .int) B0 hw hS 5 rfl in_X5 tyX5 tyX5_ok nmX5 k_mo 0 (by decide) qF_X5_77 rfl (by decide +kernel) rfl rfl (Nat.le_of_ble_eq_true rfl) rfl dX5_send_28 (fun H locs f28 ef28 hw hS => ?_)
      have h29 : f28 mo = some (.inr (5, [.int 1, .ref dW, .ref dA, .ref dQ, .ref dM, .ref dS, .ref dL, .ref dR, .ref dT, .ref dZ, .ref dI, .ref dH, .ref dN, .ref dK, .ref dJ, .ref dU, .ref dO, .int 0, .int 0, .ref dF, .ref dP, .ref dE, .ref dX, .ref dY, .int 0, .int 0, .ref dG])) := by rw [ef28, va_up_self]
      refine lv_aload_n hx hb dX5_send_31 rfl (lv_at hl9 0 rfl) ?_
      refine hp_get B0 hw 5 rfl in_X5 h29 0 (by decide) qF_X5_77 rfl dX5_send_32 ?_
      refine lv_if_le (tgt := 40) hx hb dX5_send_35 (by decide) (fun c9 => absurd c9 (by decide)) (fun _ => ?_)
      refine lv_iconst (v := 0) hx hb dX5_send_38 (by decide) ?_
      exact hp_iret (v := 0) B0 hw hS hr ⟨Nat.le_of_ble_eq_true rfl, Nat.le_of_ble_eq_true rfl⟩ dX5_send_39 (⟨⟨_, rfl, fun h9 => absurd (h9.symm.trans (spc_1 (fun h9 => b2 (by simp only [jlt, jle, tq0, tq1, tq3, tq4, tq6, tq9, tq50, tq60, tq1023, tqm1]; exact ⟨by omega, by omega⟩)))) (by decide)⟩, ⟨_, (by rw [show spc (sP x) True = 1 from (spc_1 (fun h9 => b2 (by simp only [jlt, jle, tq0, tq1, tq3, tq4, tq6, tq9, tq50, tq60, tq1023, tqm1]; exact ⟨by omega, by omega⟩)))]; exact h29)⟩, (show hKeep [mo, dF, dP] f f28 from (by rw [ef28]; exact hKeep.up (by simp)))⟩)

set_option maxHeartbeats 4000000 in
set_option maxRecDepth 100000 in
theorem c_X5_asksLine0 {l : Launch} (hl : l.stackTraces = false) (G : hG) (f : hM) (mo dW dA dQ dM dS dL dR dT dZ dI dH dN dK dJ dU dO dF dP dE dX dY dG : Nat) (th : Int32) (k_mo : f mo = some (.inr (5, [.int th, .ref dW, .ref dA, .ref dQ, .ref dM, .ref dS, .ref dL, .ref dR, .ref dT, .ref dZ, .ref dI, .ref dH, .ref dN, .ref dK, .ref dJ, .ref dU, .ref dO, .int 0, .int 0, .ref dF, .ref dP, .ref dE, .ref dX, .ref dY, .int 0, .int 0, .ref dG]))) (k_dX : f dX = some (.inl (cI G, 3, .inl (mA3 0 1 2)))) (x : Int32) : CT l yX5_asksLine (.code yX5_asksLine cX5_asksLine 2 (some .boolean)) 1 22 0 0 G [.ref mo, .int x] f (fun v f1 => v = some (.int 0) ∧ (∃ c9 : List Value, f1 mo = some (.inr (5, .int (spc (sL x) False) :: c9))) ∧ hKeep [mo] f f1) (fun E f1 => False) := by
  refine hp_start hl (own := RX5) (by decide) rfl (Nat.le_of_ble_eq_true rfl) ?_
  intro p e s m args below meth c B0 hr hnm hout hw hS ls hl9
  have hx := B0.1
  have hb := B0.2.1
  have hl9 : lv_has ls 2 [(0, .ref mo), (1, .int x)] := hl9
  refine lv_aload_n hx hb dX5_asksLine_0 rfl (lv_at hl9 0 rfl) ?_
  refine lv_iload_n hx hb dX5_asksLine_1 rfl (lv_at hl9 1 rfl) ?_
  refine lv_iconst (v := 0) hx hb dX5_asksLine_2 (by decide) ?_
  refine lv_iconst (v := 2) hx hb dX5_asksLine_3 (by decide) ?_
  refine hp_S (As := [.int x, .int 0, .int 2]) (rest := [.ref mo]) B0 hw hS (c_X5_in hl G f x 0 2) mS_X5_in qM_X5_81 rfl rfl hl9.1 (Nat.le_of_ble_eq_true rfl) ⟨⟨Nat.le_of_ble_eq_true rfl, Nat.le_of_ble_eq_true rfl⟩, Nat.le_of_ble_eq_true rfl, Nat.le_of_ble_eq_true rfl⟩ dX5_asksLine_4 (fun E ce q9 f1 H locs hPX hw hS hce hcv hcl => ?_) (fun v f1 H locs hP hw hS => ?_)
  · exact hPX.elim
  · obtain ⟨ef9, hv9⟩ := hP
    rw [ef9] at hw
    rcases hv9 with ⟨b2, ev9⟩ | ⟨b2, ev9⟩
    · subst ev9
      refine W.eq (g2 := F0 m 7 ls [.int 1, .ref mo]) rfl ?_
      refine lv_if_ne (tgt := 14) hx hb dX5_asksLine_7 (by decide) (fun _ => ?_) (fun c9 => absurd c9 (by decide))
      refine lv_aload_n hx hb dX5_asksLine_14 rfl (lv_at hl9 0 rfl) ?_
      refine hp_get B0 hw 5 rfl in_X5 k_mo 22 (by decide) qF_X5_68 rfl dX5_asksLine_15 ?_
      refine lv_iload_n hx hb dX5_asksLine_18 rfl (lv_at hl9 1 rfl) ?_
      refine hp_iald B0 hw k_dX (vin3 (by have h1 := b2; simp only [jlt, jle, tq0, tq1, tq3, tq4, tq6, tq9, tq50, tq60, tq1023, tqm1, tq2] at h1; exact ⟨by omega, by omega⟩)) dX5_asksLine_19 ?_
      refine lv_aload_n hx hb dX5_asksLine_20 rfl (lv_at hl9 0 rfl) ?_
      refine hp_get B0 hw 5 rfl in_X5 k_mo 18 (by decide) qF_X5_139 rfl dX5_asksLine_21 ?_
      refine lv_icmp_lt (tgt := 31) hx hb dX5_asksLine_24 (by decide) (fun c9 => absurd c9 (fun h9 => by have h1 := X3_ge _ (cn_lt (vin3 (o := x) (by have h1 := b2; simp only [jlt, jle, tq0, tq1, tq3, tq4, tq6, tq9, tq50, tq60, tq1023, tqm1, tq2] at h1; exact ⟨by omega, by omega⟩))); rw [jle] at h1; rw [jlt] at h9; omega)) (fun _ => ?_)
      refine lv_iconst (v := 2) hx hb dX5_asksLine_27 (by decide) ?_
      refine lv_goto (tgt := 32) hx hb dX5_asksLine_28 (by decide) ?_
      refine hp_put (fs1 := [.int 2, .ref dW, .ref dA, .ref dQ, .ref dM, .ref dS, .ref dL, .ref dR, .ref dT, .ref dZ, .ref dI, .ref dH, .ref dN, .ref dK, .ref dJ, .ref dU, .ref dO, .int 0, .int 0, .ref dF, .ref dP, .ref dE, .ref dX, .ref dY, .int 0, .int 0, .ref dG]) (ty := .int) B0 hw hS 5 rfl in_X5 tyX5 tyX5_ok nmX5 k_mo 0 (by decide) qF_X5_77 rfl (by decide +kernel) rfl rfl (Nat.le_of_ble_eq_true rfl) rfl dX5_asksLine_32 (fun H locs f3 ef3 hw hS => ?_)
      have h4 : f3 mo = some (.inr (5, [.int 2, .ref dW, .ref dA, .ref dQ, .ref dM, .ref dS, .ref dL, .ref dR, .ref dT, .ref dZ, .ref dI, .ref dH, .ref dN, .ref dK, .ref dJ, .ref dU, .ref dO, .int 0, .int 0, .ref dF, .ref dP, .ref dE, .ref dX, .ref dY, .int 0, .int 0, .ref dG])) := by rw [ef3, va_up_self]
      refine lv_aload_n hx hb dX5_asksLine_35 rfl (lv_at hl9 0 rfl) ?_
      refine hp_get B0 hw 5 rfl in_X5 h4 0 (by decide) qF_X5_77 rfl dX5_asksLine_36 ?_
      refine lv_if_ne (tgt := 46) hx hb dX5_asksLine_39 (by decide) (fun _ => ?_) (fun c9 => absurd c9 (by decide))
      refine lv_iconst (v := 0) hx hb dX5_asksLine_46 (by decide) ?_
      exact hp_zret (v := 0) B0 hw hS hr ⟨Nat.le_of_ble_eq_true rfl, Nat.le_of_ble_eq_true rfl⟩ (rfl) dX5_asksLine_47 (⟨rfl, ⟨_, (by rw [show spc (sL x) False = 2 from (spc_2 (by have h1 := b2; simp only [jlt, jle, tq0, tq1, tq3, tq4, tq6, tq9, tq50, tq60, tq1023, tqm1, tq2] at h1; exact ⟨by omega, by omega⟩) id)]; exact h4)⟩, (show hKeep [mo] f f3 from (by rw [ef3]; exact hKeep.up (by simp)))⟩)
    · subst ev9
      refine W.eq (g2 := F0 m 7 ls [.int 0, .ref mo]) rfl ?_
      refine lv_if_ne (tgt := 14) hx hb dX5_asksLine_7 (by decide) (fun c9 => absurd (by decide) c9) (fun _ => ?_)
      refine lv_iconst (v := 1) hx hb dX5_asksLine_10 (by decide) ?_
      refine lv_goto (tgt := 32) hx hb dX5_asksLine_11 (by decide) ?_
      refine hp_put (fs1 := [.int 1, .ref dW, .ref dA, .ref dQ, .ref dM, .ref dS, .ref dL, .ref dR, .ref dT, .ref dZ, .ref dI, .ref dH, .ref dN, .ref dK, .ref dJ, .ref dU, .ref dO, .int 0, .int 0, .ref dF, .ref dP, .ref dE, .ref dX, .ref dY, .int 0, .int 0, .ref dG]) (ty := .int) B0 hw hS 5 rfl in_X5 tyX5 tyX5_ok nmX5 k_mo 0 (by decide) qF_X5_77 rfl (by decide +kernel) rfl rfl (Nat.le_of_ble_eq_true rfl) rfl dX5_asksLine_32 (fun H locs f5 ef5 hw hS => ?_)
      have h6 : f5 mo = some (.inr (5, [.int 1, .ref dW, .ref dA, .ref dQ, .ref dM, .ref dS, .ref dL, .ref dR, .ref dT, .ref dZ, .ref dI, .ref dH, .ref dN, .ref dK, .ref dJ, .ref dU, .ref dO, .int 0, .int 0, .ref dF, .ref dP, .ref dE, .ref dX, .ref dY, .int 0, .int 0, .ref dG])) := by rw [ef5, va_up_self]
      refine lv_aload_n hx hb dX5_asksLine_35 rfl (lv_at hl9 0 rfl) ?_
      refine hp_get B0 hw 5 rfl in_X5 h6 0 (by decide) qF_X5_77 rfl dX5_asksLine_36 ?_
      refine lv_if_ne (tgt := 46) hx hb dX5_asksLine_39 (by decide) (fun _ => ?_) (fun c9 => absurd c9 (by decide))
      refine lv_iconst (v := 0) hx hb dX5_asksLine_46 (by decide) ?_
      exact hp_zret (v := 0) B0 hw hS hr ⟨Nat.le_of_ble_eq_true rfl, Nat.le_of_ble_eq_true rfl⟩ (rfl) dX5_asksLine_47 (⟨rfl, ⟨_, (by rw [show spc (sL x) False = 1 from (spc_1 (fun h9 => b2 (by simp only [jlt, jle, tq0, tq1, tq3, tq4, tq6, tq9, tq50, tq60, tq1023, tqm1, tq2]; exact ⟨by omega, by omega⟩)))]; exact h6)⟩, (show hKeep [mo] f f5 from (by rw [ef5]; exact hKeep.up (by simp)))⟩)

set_option maxHeartbeats 4000000 in
set_option maxRecDepth 100000 in
theorem c_X5_come0 {l : Launch} (hl : l.stackTraces = false) (G : hG) (f : hM) (mo dW dA dQ dM dS dL dR dT dZ dI dH dN dK dJ dU dO dF dP dE dX dY dG : Nat) (th : Int32) (k_mo : f mo = some (.inr (5, [.int th, .ref dW, .ref dA, .ref dQ, .ref dM, .ref dS, .ref dL, .ref dR, .ref dT, .ref dZ, .ref dI, .ref dH, .ref dN, .ref dK, .ref dJ, .ref dU, .ref dO, .int 0, .int 0, .ref dF, .ref dP, .ref dE, .ref dX, .ref dY, .int 0, .int 0, .ref dG]))) (k_dX : f dX = some (.inl (cI G, 3, .inl (mA3 0 1 2)))) (x : Int32) : CT l yX5_come (.code yX5_come cX5_come 4 (some .int)) 2 43 0 0 G [.ref mo, .int x] f (fun v f1 => (∃ r : Int32, v = some (.int r) ∧ (spc (sL x) False = 0 → r = 0)) ∧ (∃ c9 : List Value, f1 mo = some (.inr (5, .int (spc (sL x) False) :: c9))) ∧ hKeep [mo] f f1) (fun E f1 => False) := by
  refine hp_start hl (own := RX5) (by decide) rfl (Nat.le_of_ble_eq_true rfl) ?_
  intro p e s m args below meth c B0 hr hnm hout hw hS ls hl9
  have hx := B0.1
  have hb := B0.2.1
  have hl9 : lv_has ls 4 [(0, .ref mo), (1, .int x)] := hl9
  refine lv_aload_n hx hb dX5_come_0 rfl (lv_at hl9 0 rfl) ?_
  refine lv_iload_n hx hb dX5_come_1 rfl (lv_at hl9 1 rfl) ?_
  refine hp_V (ci := 5) (As := [.int x]) (rest := []) B0 hw hS (c_X5_asksLine0 hl G f mo dW dA dQ dM dS dL dR dT dZ dI dH dN dK dJ dU dO dF dP dE dX dY dG th k_mo k_dX x) mV_X5_asksLine qM_X5_155 rfl k_mo rfl rfl hl9.1 (Nat.le_of_ble_eq_true rfl) ⟨⟨Nat.le_of_ble_eq_true rfl, Nat.le_of_ble_eq_true rfl⟩, Nat.le_of_ble_eq_true rfl, Nat.le_of_ble_eq_true rfl⟩ dX5_come_2 (fun E ce q9 f1 H locs hPX hw hS hce hcv hcl => ?_) (fun v f1 H locs hP hw hS => ?_)
  · exact hPX.elim
  · obtain ⟨ev9, ⟨c9, h3⟩, k2⟩ := hP
    subst ev9
    refine W.eq (g2 := F0 m 5 ls [.int 0]) rfl ?_
    refine lv_if_ne (tgt := 10) hx hb dX5_come_5 (by decide) (fun c9 => absurd (by decide) c9) (fun _ => ?_)
    refine lv_iconst (v := 0) hx hb dX5_come_8 (by decide) ?_
    exact hp_iret (v := 0) B0 hw hS hr ⟨Nat.le_of_ble_eq_true rfl, Nat.le_of_ble_eq_true rfl⟩ dX5_come_9 (⟨⟨_, rfl, fun h9 => absurd h9 spc_F⟩, ⟨_, h3⟩, (show hKeep [mo] f f1 from (k2.mono (fun x9 hx9 => by simp only [List.mem_cons, List.not_mem_nil, or_false] at hx9 ⊢; omega)))⟩)

set_option maxHeartbeats 4000000 in
set_option maxRecDepth 100000 in
theorem c_X5_drop0 {l : Launch} (hl : l.stackTraces = false) (G : hG) (f : hM) (mo dW dA dQ dM dS dL dR dT dZ dI dH dN dK dJ dU dO dF dP dE dX dY dG : Nat) (th : Int32) (k_mo : f mo = some (.inr (5, [.int th, .ref dW, .ref dA, .ref dQ, .ref dM, .ref dS, .ref dL, .ref dR, .ref dT, .ref dZ, .ref dI, .ref dH, .ref dN, .ref dK, .ref dJ, .ref dU, .ref dO, .int 0, .int 0, .ref dF, .ref dP, .ref dE, .ref dX, .ref dY, .int 0, .int 0, .ref dG]))) (k_dX : f dX = some (.inl (cI G, 3, .inl (mA3 0 1 2)))) (x : Int32) : CT l yX5_drop (.code yX5_drop cX5_drop 2 (some .int)) 2 43 0 0 G [.ref mo, .int x] f (fun v f1 => (∃ r : Int32, v = some (.int r) ∧ (spc (sL x) False = 0 → r = 0)) ∧ (∃ c9 : List Value, f1 mo = some (.inr (5, .int (spc (sL x) False) :: c9))) ∧ hKeep [mo] f f1) (fun E f1 => False) := by
  refine hp_start hl (own := RX5) (by decide) rfl (Nat.le_of_ble_eq_true rfl) ?_
  intro p e s m args below meth c B0 hr hnm hout hw hS ls hl9
  have hx := B0.1
  have hb := B0.2.1
  have hl9 : lv_has ls 2 [(0, .ref mo), (1, .int x)] := hl9
  refine lv_aload_n hx hb dX5_drop_0 rfl (lv_at hl9 0 rfl) ?_
  refine lv_iload_n hx hb dX5_drop_1 rfl (lv_at hl9 1 rfl) ?_
  refine hp_V (ci := 5) (As := [.int x]) (rest := []) B0 hw hS (c_X5_asksLine0 hl G f mo dW dA dQ dM dS dL dR dT dZ dI dH dN dK dJ dU dO dF dP dE dX dY dG th k_mo k_dX x) mV_X5_asksLine qM_X5_155 rfl k_mo rfl rfl hl9.1 (Nat.le_of_ble_eq_true rfl) ⟨⟨Nat.le_of_ble_eq_true rfl, Nat.le_of_ble_eq_true rfl⟩, Nat.le_of_ble_eq_true rfl, Nat.le_of_ble_eq_true rfl⟩ dX5_drop_2 (fun E ce q9 f1 H locs hPX hw hS hce hcv hcl => ?_) (fun v f1 H locs hP hw hS => ?_)
  · exact hPX.elim
  · obtain ⟨ev9, ⟨c9, h3⟩, k2⟩ := hP
    subst ev9
    refine W.eq (g2 := F0 m 5 ls [.int 0]) rfl ?_
    refine lv_if_ne (tgt := 10) hx hb dX5_drop_5 (by decide) (fun c9 => absurd (by decide) c9) (fun _ => ?_)
    refine lv_iconst (v := 0) hx hb dX5_drop_8 (by decide) ?_
    exact hp_iret (v := 0) B0 hw hS hr ⟨Nat.le_of_ble_eq_true rfl, Nat.le_of_ble_eq_true rfl⟩ dX5_drop_9 (⟨⟨_, rfl, fun h9 => absurd h9 spc_F⟩, ⟨_, h3⟩, (show hKeep [mo] f f1 from (k2.mono (fun x9 hx9 => by simp only [List.mem_cons, List.not_mem_nil, or_false] at hx9 ⊢; omega)))⟩)

set_option maxHeartbeats 4000000 in
set_option maxRecDepth 100000 in
theorem c_X5_given0 {l : Launch} (hl : l.stackTraces = false) (G : hG) (f : hM) (mo dW dA dQ dM dS dL dR dT dZ dI dH dN dK dJ dU dO dF dP dE dX dY dG : Nat) (th : Int32) (k_mo : f mo = some (.inr (5, [.int th, .ref dW, .ref dA, .ref dQ, .ref dM, .ref dS, .ref dL, .ref dR, .ref dT, .ref dZ, .ref dI, .ref dH, .ref dN, .ref dK, .ref dJ, .ref dU, .ref dO, .int 0, .int 0, .ref dF, .ref dP, .ref dE, .ref dX, .ref dY, .int 0, .int 0, .ref dG])))  : CT l yX5_given (.code yX5_given cX5_given 1 (some .int)) 0 0 0 0 G [.ref mo] f (fun v f1 => v = some (.int 0) ∧ hKeep [mo] f f1) (fun E f1 => False) := by
  refine hp_start hl (own := RX5) (by decide) rfl (Nat.le_of_ble_eq_true rfl) ?_
  intro p e s m args below meth c B0 hr hnm hout hw hS ls hl9
  have hx := B0.1
  have hb := B0.2.1
  have hl9 : lv_has ls 1 [(0, .ref mo)] := hl9
  refine lv_aload_n hx hb dX5_given_0 rfl (lv_at hl9 0 rfl) ?_
  refine lv_iconst (v := 0) hx hb dX5_given_1 (by decide) ?_
  refine hp_put (fs1 := [.int 0, .ref dW, .ref dA, .ref dQ, .ref dM, .ref dS, .ref dL, .ref dR, .ref dT, .ref dZ, .ref dI, .ref dH, .ref dN, .ref dK, .ref dJ, .ref dU, .ref dO, .int 0, .int 0, .ref dF, .ref dP, .ref dE, .ref dX, .ref dY, .int 0, .int 0, .ref dG]) (ty := .int) B0 hw hS 5 rfl in_X5 tyX5 tyX5_ok nmX5 k_mo 0 (by decide) qF_X5_77 rfl (by decide +kernel) rfl rfl (Nat.le_of_ble_eq_true rfl) rfl dX5_given_2 (fun H locs f1 ef1 hw hS => ?_)
  have h2 : f1 mo = some (.inr (5, [.int 0, .ref dW, .ref dA, .ref dQ, .ref dM, .ref dS, .ref dL, .ref dR, .ref dT, .ref dZ, .ref dI, .ref dH, .ref dN, .ref dK, .ref dJ, .ref dU, .ref dO, .int 0, .int 0, .ref dF, .ref dP, .ref dE, .ref dX, .ref dY, .int 0, .int 0, .ref dG])) := by rw [ef1, va_up_self]
  refine lv_aload_n hx hb dX5_given_5 rfl (lv_at hl9 0 rfl) ?_
  refine hp_get B0 hw 5 rfl in_X5 h2 25 (by decide) qF_X5_152 rfl dX5_given_6 ?_
  exact hp_iret (v := 0) B0 hw hS hr ⟨Nat.le_of_ble_eq_true rfl, Nat.le_of_ble_eq_true rfl⟩ dX5_given_9 (⟨rfl, (show hKeep [mo] f f1 from (by rw [ef1]; exact hKeep.up (by simp)))⟩)

set_option maxHeartbeats 4000000 in
set_option maxRecDepth 100000 in
theorem c_X5_next0 {l : Launch} (hl : l.stackTraces = false) (G : hG) (f : hM) (mo dW dA dQ dM dS dL dR dT dZ dI dH dN dK dJ dU dO dF dP dE dX dY dG : Nat) (th : Int32) (k_mo : f mo = some (.inr (5, [.int th, .ref dW, .ref dA, .ref dQ, .ref dM, .ref dS, .ref dL, .ref dR, .ref dT, .ref dZ, .ref dI, .ref dH, .ref dN, .ref dK, .ref dJ, .ref dU, .ref dO, .int 0, .int 0, .ref dF, .ref dP, .ref dE, .ref dX, .ref dY, .int 0, .int 0, .ref dG])))  : CT l yX5_next (.code yX5_next cX5_next 1 (some .int)) 0 0 0 0 G [.ref mo] f (fun v f1 => v = some (.int 0) ∧ hKeep [mo] f f1) (fun E f1 => False) := by
  refine hp_start hl (own := RX5) (by decide) rfl (Nat.le_of_ble_eq_true rfl) ?_
  intro p e s m args below meth c B0 hr hnm hout hw hS ls hl9
  have hx := B0.1
  have hb := B0.2.1
  have hl9 : lv_has ls 1 [(0, .ref mo)] := hl9
  refine lv_aload_n hx hb dX5_next_0 rfl (lv_at hl9 0 rfl) ?_
  refine lv_iconst (v := 0) hx hb dX5_next_1 (by decide) ?_
  refine hp_put (fs1 := [.int 0, .ref dW, .ref dA, .ref dQ, .ref dM, .ref dS, .ref dL, .ref dR, .ref dT, .ref dZ, .ref dI, .ref dH, .ref dN, .ref dK, .ref dJ, .ref dU, .ref dO, .int 0, .int 0, .ref dF, .ref dP, .ref dE, .ref dX, .ref dY, .int 0, .int 0, .ref dG]) (ty := .int) B0 hw hS 5 rfl in_X5 tyX5 tyX5_ok nmX5 k_mo 0 (by decide) qF_X5_77 rfl (by decide +kernel) rfl rfl (Nat.le_of_ble_eq_true rfl) rfl dX5_next_2 (fun H locs f1 ef1 hw hS => ?_)
  have h2 : f1 mo = some (.inr (5, [.int 0, .ref dW, .ref dA, .ref dQ, .ref dM, .ref dS, .ref dL, .ref dR, .ref dT, .ref dZ, .ref dI, .ref dH, .ref dN, .ref dK, .ref dJ, .ref dU, .ref dO, .int 0, .int 0, .ref dF, .ref dP, .ref dE, .ref dX, .ref dY, .int 0, .int 0, .ref dG])) := by rw [ef1, va_up_self]
  refine lv_aload_n hx hb dX5_next_5 rfl (lv_at hl9 0 rfl) ?_
  refine hp_get B0 hw 5 rfl in_X5 h2 24 (by decide) qF_X5_142 rfl dX5_next_6 ?_
  exact hp_iret (v := 0) B0 hw hS hr ⟨Nat.le_of_ble_eq_true rfl, Nat.le_of_ble_eq_true rfl⟩ dX5_next_9 (⟨rfl, (show hKeep [mo] f f1 from (by rw [ef1]; exact hKeep.up (by simp)))⟩)

set_option maxHeartbeats 4000000 in
set_option maxRecDepth 100000 in
theorem c_X5_givenAt0 {l : Launch} (hl : l.stackTraces = false) (G : hG) (f : hM) (mo dW dA dQ dM dS dL dR dT dZ dI dH dN dK dJ dU dO dF dP dE dX dY dG : Nat) (th : Int32) (k_mo : f mo = some (.inr (5, [.int th, .ref dW, .ref dA, .ref dQ, .ref dM, .ref dS, .ref dL, .ref dR, .ref dT, .ref dZ, .ref dI, .ref dH, .ref dN, .ref dK, .ref dJ, .ref dU, .ref dO, .int 0, .int 0, .ref dF, .ref dP, .ref dE, .ref dX, .ref dY, .int 0, .int 0, .ref dG])))  (x : Int32) : CT l yX5_givenAt (.code yX5_givenAt cX5_givenAt 2 (some .int)) 1 22 0 0 G [.ref mo, .int x] f (fun v f1 => (∃ r : Int32, v = some (.int r) ∧ (spc False True = 0 → r = 0)) ∧ (∃ c9 : List Value, f1 mo = some (.inr (5, .int (spc False True) :: c9))) ∧ hKeep [mo] f f1) (fun E f1 => False) := by
  refine hp_start hl (own := RX5) (by decide) rfl (Nat.le_of_ble_eq_true rfl) ?_
  intro p e s m args below meth c B0 hr hnm hout hw hS ls hl9
  have hx := B0.1
  have hb := B0.2.1
  have hl9 : lv_has ls 2 [(0, .ref mo), (1, .int x)] := hl9
  refine lv_aload_n hx hb dX5_givenAt_0 rfl (lv_at hl9 0 rfl) ?_
  refine lv_iload_n hx hb dX5_givenAt_1 rfl (lv_at hl9 1 rfl) ?_
  refine lv_iconst (v := 0) hx hb dX5_givenAt_2 (by decide) ?_
  refine lv_aload_n hx hb dX5_givenAt_3 rfl (lv_at hl9 0 rfl) ?_
  refine hp_get B0 hw 5 rfl in_X5 k_mo 25 (by decide) qF_X5_152 rfl dX5_givenAt_4 ?_
  refine lv_iconst (v := 1) hx hb dX5_givenAt_7 (by decide) ?_
  refine lv_isub hx hb dX5_givenAt_8 ?_
  refine hp_c (v := (-1)) (by decide) ?_
  refine hp_S (As := [.int x, .int 0, .int (-1)]) (rest := [.ref mo]) B0 hw hS (c_X5_in hl G f x 0 (-1)) mS_X5_in qM_X5_81 rfl rfl hl9.1 (Nat.le_of_ble_eq_true rfl) ⟨⟨Nat.le_of_ble_eq_true rfl, Nat.le_of_ble_eq_true rfl⟩, Nat.le_of_ble_eq_true rfl, Nat.le_of_ble_eq_true rfl⟩ dX5_givenAt_9 (fun E ce q9 f1 H locs hPX hw hS hce hcv hcl => ?_) (fun v f1 H locs hP hw hS => ?_)
  · exact hPX.elim
  · obtain ⟨ef9, hv9⟩ := hP
    rw [ef9] at hw
    rcases hv9 with ⟨b9, ev9⟩ | ⟨b9, ev9⟩
    exact absurd b9 (fun h9 => by simp only [jlt, jle, tq0, tq1, tq3, tq4, tq6, tq9, tq50, tq60, tq1023, tqm1] at h9; omega)
    subst ev9
    refine W.eq (g2 := F0 m 12 ls [.int 0, .ref mo]) rfl ?_
    refine lv_if_eq (tgt := 19) hx hb dX5_givenAt_12 (by decide) (fun _ => ?_) (fun c9 => absurd (by decide) c9)
    refine lv_iconst (v := 1) hx hb dX5_givenAt_19 (by decide) ?_
    refine hp_put (fs1 := [.int 1, .ref dW, .ref dA, .ref dQ, .ref dM, .ref dS, .ref dL, .ref dR, .ref dT, .ref dZ, .ref dI, .ref dH, .ref dN, .ref dK, .ref dJ, .ref dU, .ref dO, .int 0, .int 0, .ref dF, .ref dP, .ref dE, .ref dX, .ref dY, .int 0, .int 0, .ref dG]) (ty := .int) B0 hw hS 5 rfl in_X5 tyX5 tyX5_ok nmX5 k_mo 0 (by decide) qF_X5_77 rfl (by decide +kernel) rfl rfl (Nat.le_of_ble_eq_true rfl) rfl dX5_givenAt_20 (fun H locs f2 ef2 hw hS => ?_)
    have h3 : f2 mo = some (.inr (5, [.int 1, .ref dW, .ref dA, .ref dQ, .ref dM, .ref dS, .ref dL, .ref dR, .ref dT, .ref dZ, .ref dI, .ref dH, .ref dN, .ref dK, .ref dJ, .ref dU, .ref dO, .int 0, .int 0, .ref dF, .ref dP, .ref dE, .ref dX, .ref dY, .int 0, .int 0, .ref dG])) := by rw [ef2, va_up_self]
    refine lv_aload_n hx hb dX5_givenAt_23 rfl (lv_at hl9 0 rfl) ?_
    refine hp_get B0 hw 5 rfl in_X5 h3 0 (by decide) qF_X5_77 rfl dX5_givenAt_24 ?_
    refine lv_if_le (tgt := 34) hx hb dX5_givenAt_27 (by decide) (fun c9 => absurd c9 (by decide)) (fun _ => ?_)
    refine lv_iconst (v := 0) hx hb dX5_givenAt_30 (by decide) ?_
    refine lv_goto (tgt := 40) hx hb dX5_givenAt_31 (by decide) ?_
    exact hp_iret (v := 0) B0 hw hS hr ⟨Nat.le_of_ble_eq_true rfl, Nat.le_of_ble_eq_true rfl⟩ dX5_givenAt_40 (⟨⟨_, rfl, fun h9 => absurd (h9.symm.trans (spc_1 id)) (by decide)⟩, ⟨_, (by rw [show spc False True = 1 from (spc_1 id)]; exact h3)⟩, (show hKeep [mo] f f2 from (by rw [ef2]; exact hKeep.up (by simp)))⟩)

set_option maxHeartbeats 4000000 in
set_option maxRecDepth 100000 in
theorem c_X5_thrown {l : Launch} (hl : l.stackTraces = false) (G : hG) (f : hM) (mo : Nat) (t : Int32) (c9 : List Value) (k_mo : f mo = some (.inr (5, .int t :: c9))) : CT l yX5_thrown (.code yX5_thrown cX5_thrown 1 (some .int)) 0 0 0 0 G [.ref mo] f (fun v f1 => v = some (.int t) ∧ f1 = f) (fun E f1 => False) := by
  refine hp_start hl (own := RX5) (by decide) rfl (Nat.le_of_ble_eq_true rfl) ?_
  intro p e s m args below meth c B0 hr hnm hout hw hS ls hl9
  have hx := B0.1
  have hb := B0.2.1
  have hl9 : lv_has ls 1 [(0, .ref mo)] := hl9
  refine lv_aload_n hx hb dX5_thrown_0 rfl (lv_at hl9 0 rfl) ?_
  refine hp_get B0 hw 5 rfl in_X5 k_mo 0 (by decide) qF_X5_77 rfl dX5_thrown_1 ?_
  exact hp_iret (v := t) B0 hw hS hr ⟨Nat.le_of_ble_eq_true rfl, Nat.le_of_ble_eq_true rfl⟩ dX5_thrown_4 (⟨rfl, rfl⟩)

