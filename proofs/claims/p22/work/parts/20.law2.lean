theorem FRef.eq {S : List Nat} {f f1 : hM} {v : Value} (h : FRef f v) (he : hEq S f f1) (hfr : ∀ b, b ∈ S → ∃ e0 e1, f b = some e0 ∧ f1 b = some e1 ∧ hTag e0 ≠ 3 ∧ hTag e1 ≠ 3 ∧ hLen e0 ≠ 6) : FRef f1 v := by
  rcases h with h4 | ⟨w, k2, h5, h6⟩
  · exact Or.inl h4
  · have hw0 : w ∉ S := fun z => by
      obtain ⟨e0, e1, q0, q1, t0, t1, l0⟩ := hfr w z
      rw [h6] at q0; cases q0; exact t0 rfl
    exact Or.inr ⟨w, k2, h5, by rw [he w hw0]; exact h6⟩
theorem CW.eq {G : hG} {f f1 : hM} {xo ez eo bu nw0 na0 nq0 nr0 nw1 na1 nq1 nr1 bs bp bh bf bl bg : Nat} {gw0 : Nat → Int32} {ga0 : Nat → Int32} {gw1 : Nat → Int32} {ga1 : Nat → Int32} {mg0 : Int32} {mg1 : Int32} {n : Nat} {a : Nat} {cg : Nat} {x : Nat} {sa : Nat → Nat} {pk : Nat → Nat} {fl : Nat → Nat} {gv : Nat → Nat} {gh : Nat → Int32} {gl : Nat → Int32} {S : List Nat} (h : CW G f xo ez eo bu nw0 na0 nq0 nr0 nw1 na1 nq1 nr1 bs bp bh bf bl bg gw0 ga0 gw1 ga1 mg0 mg1 n a cg x sa pk fl gv gh gl) (he : hEq S f f1) (hd : ∀ p, p ∈ [xo, ez, eo, bu, nw0, na0, nq0, nr0, nw1, na1, nq1, nr1, bs, bp, bh, bf, bl, bg] → p ∉ S) (hfr : ∀ b, b ∈ S → ∃ e0 e1, f b = some e0 ∧ f1 b = some e1 ∧ hTag e0 ≠ 3 ∧ hTag e1 ≠ 3 ∧ hLen e0 ≠ 6) : CW G f1 xo ez eo bu nw0 na0 nq0 nr0 nw1 na1 nq1 nr1 bs bp bh bf bl bg gw0 ga0 gw1 ga1 mg0 mg1 n a cg x sa pk fl gv gh gl := by
  obtain ⟨k_xo, ⟨_, _, _, _, _, _, _, _, _, _, k_ez, k_nq0, k_nr0, fhd0, ftl0, blp0⟩, ⟨_, _, _, _, _, _, _, _, _, _, k_eo, k_nq1, k_nr1, fhd1, ftl1, blp1⟩, k_nw0, k_na0, k_nw1, k_na1, k_bu, k_bs, k_bp, k_bh, k_bf, k_bl, k_bg, hPx, hB9, hfl9, hnd9⟩ := h
  exact ⟨(by rw [he _ (hd _ (by simp))]; exact k_xo), ⟨_, _, _, _, _, _, _, _, _, _, (by rw [he _ (hd _ (by simp))]; exact k_ez), (by rw [he _ (hd _ (by simp))]; exact k_nq0), (by rw [he _ (hd _ (by simp))]; exact k_nr0), FRef.eq fhd0 he hfr, FRef.eq ftl0 he hfr, blp0⟩, ⟨_, _, _, _, _, _, _, _, _, _, (by rw [he _ (hd _ (by simp))]; exact k_eo), (by rw [he _ (hd _ (by simp))]; exact k_nq1), (by rw [he _ (hd _ (by simp))]; exact k_nr1), FRef.eq fhd1 he hfr, FRef.eq ftl1 he hfr, blp1⟩, (by rw [he _ (hd _ (by simp))]; exact k_nw0), (by rw [he _ (hd _ (by simp))]; exact k_na0), (by rw [he _ (hd _ (by simp))]; exact k_nw1), (by rw [he _ (hd _ (by simp))]; exact k_na1), (by rw [he _ (hd _ (by simp))]; exact k_bu), (by rw [he _ (hd _ (by simp))]; exact k_bs), (by rw [he _ (hd _ (by simp))]; exact k_bp), (by rw [he _ (hd _ (by simp))]; exact k_bh), (by rw [he _ (hd _ (by simp))]; exact k_bf), (by rw [he _ (hd _ (by simp))]; exact k_bl), (by rw [he _ (hd _ (by simp))]; exact k_bg), px_eq hPx he hfr, hB9, hfl9, hnd9⟩
theorem MW.kp {G : hG} {f f1 : hM} {mo dW dA dQ dM dS dL dR dT dZ dI dH dN dK dJ dU dO dF dP dE dX dY dG : Nat} {th : Int32} {B : Nat} {gw0 : Nat → Int32} {ga0 : Nat → Int32} {gw1 : Nat → Int32} {ga1 : Nat → Int32} {mg0 : Int32} {mg1 : Int32} {n : Nat} {a : Nat} {cg : Nat} {x : Nat} {sa : Nat → Nat} {pk : Nat → Nat} {fl : Nat → Nat} {gv : Nat → Nat} {gh : Nat → Int32} {gl : Nat → Int32} {S : List Nat} (h : MW G f mo dW dA dQ dM dS dL dR dT dZ dI dH dN dK dJ dU dO dF dP dE dX dY dG th B gw0 ga0 gw1 ga1 mg0 mg1 n a cg x sa pk fl gv gh gl) (hk : hKp S f f1) (hd : ∀ q, q ∈ [mo, dW, dA, dQ, dM, dS, dL, dR, dT, dZ, dI, dH, dN, dK, dJ, dU, dO, dF, dP, dE, dX, dY, dG] → q ∉ S) : MW G f1 mo dW dA dQ dM dS dL dR dT dZ dI dH dN dK dJ dU dO dF dP dE dX dY dG th B gw0 ga0 gw1 ga1 mg0 mg1 n a cg x sa pk fl gv gh gl := by
  obtain ⟨k_mo, hND, ⟨_, _, _, _, _, _, _, _, _, _, _, _, _, k_dQ, k_dS, k_dL, k_dR, k_dT, k_dZ, k_dI, k_dH, k_dN, k_dK, k_dJ, k_dU, k_dO, hH9, hN9⟩, k_dW, k_dA, k_dM, k_dF, k_dP, k_dE, k_dX, k_dY, k_dG, hSA, hB9, hfl9⟩ := h
  exact ⟨(hk.1 _ _ k_mo (Nat.ne_of_beq_eq_false rfl) (hd _ (by simp))), hND, ⟨_, _, _, _, _, _, _, _, _, _, _, _, _, (hk.1 _ _ k_dQ (Nat.ne_of_beq_eq_false rfl) (hd _ (by simp))), (hk.1 _ _ k_dS (Nat.ne_of_beq_eq_false rfl) (hd _ (by simp))), (hk.1 _ _ k_dL (Nat.ne_of_beq_eq_false rfl) (hd _ (by simp))), (hk.1 _ _ k_dR (Nat.ne_of_beq_eq_false rfl) (hd _ (by simp))), (hk.1 _ _ k_dT (Nat.ne_of_beq_eq_false rfl) (hd _ (by simp))), (hk.1 _ _ k_dZ (Nat.ne_of_beq_eq_false rfl) (hd _ (by simp))), (hk.1 _ _ k_dI (Nat.ne_of_beq_eq_false rfl) (hd _ (by simp))), (hk.1 _ _ k_dH (Nat.ne_of_beq_eq_false rfl) (hd _ (by simp))), (hk.1 _ _ k_dN (Nat.ne_of_beq_eq_false rfl) (hd _ (by simp))), (hk.1 _ _ k_dK (Nat.ne_of_beq_eq_false rfl) (hd _ (by simp))), (hk.1 _ _ k_dJ (Nat.ne_of_beq_eq_false rfl) (hd _ (by simp))), (hk.1 _ _ k_dU (Nat.ne_of_beq_eq_false rfl) (hd _ (by simp))), (hk.1 _ _ k_dO (Nat.ne_of_beq_eq_false rfl) (hd _ (by simp))), hH9, hN9⟩, (hk.1 _ _ k_dW (Nat.ne_of_beq_eq_false rfl) (hd _ (by simp))), (hk.1 _ _ k_dA (Nat.ne_of_beq_eq_false rfl) (hd _ (by simp))), (hk.1 _ _ k_dM (Nat.ne_of_beq_eq_false rfl) (hd _ (by simp))), (hk.1 _ _ k_dF (Nat.ne_of_beq_eq_false rfl) (hd _ (by simp))), (hk.1 _ _ k_dP (Nat.ne_of_beq_eq_false rfl) (hd _ (by simp))), (hk.1 _ _ k_dE (Nat.ne_of_beq_eq_false rfl) (hd _ (by simp))), (hk.1 _ _ k_dX (Nat.ne_of_beq_eq_false rfl) (hd _ (by simp))), (hk.1 _ _ k_dY (Nat.ne_of_beq_eq_false rfl) (hd _ (by simp))), (hk.1 _ _ k_dG (Nat.ne_of_beq_eq_false rfl) (hd _ (by simp))), hSA, hB9, hfl9⟩
theorem MW.fr {G : hG} {f f1 : hM} {mo dW dA dQ dM dS dL dR dT dZ dI dH dN dK dJ dU dO dF dP dE dX dY dG : Nat} {th th2 : Int32} {B B2 : Nat} {gw0 : Nat → Int32} {ga0 : Nat → Int32} {gw1 : Nat → Int32} {ga1 : Nat → Int32} {mg0 : Int32} {mg1 : Int32} {n : Nat} {a : Nat} {cg : Nat} {x : Nat} {sa : Nat → Nat} {pk : Nat → Nat} {fl : Nat → Nat} {gv : Nat → Nat} {gh : Nat → Int32} {gl : Nat → Int32} {gw02 : Nat → Int32} {ga02 : Nat → Int32} {gw12 : Nat → Int32} {ga12 : Nat → Int32} {mg02 : Int32} {mg12 : Int32} {n2 : Nat} {a2 : Nat} {cg2 : Nat} {x2 : Nat} {sa2 : Nat → Nat} {pk2 : Nat → Nat} {fl2 : Nat → Nat} {gv2 : Nat → Nat} {gh2 : Nat → Int32} {gl2 : Nat → Int32} (h : MW G f mo dW dA dQ dM dS dL dR dT dZ dI dH dN dK dJ dU dO dF dP dE dX dY dG th B gw0 ga0 gw1 ga1 mg0 mg1 n a cg x sa pk fl gv gh gl) (h2 : MW G f1 mo dW dA dQ dM dS dL dR dT dZ dI dH dN dK dJ dU dO dF dP dE dX dY dG th2 B2 gw02 ga02 gw12 ga12 mg02 mg12 n2 a2 cg2 x2 sa2 pk2 fl2 gv2 gh2 gl2) : ∀ b, b ∈ [mo, dW, dA, dQ, dM, dS, dL, dR, dT, dZ, dI, dH, dN, dK, dJ, dU, dO, dF, dP, dE, dX, dY, dG] → ∃ e0 e1, f b = some e0 ∧ f1 b = some e1 ∧ hTag e0 ≠ 3 ∧ hTag e1 ≠ 3 ∧ hLen e0 ≠ 6 := by
  obtain ⟨k_mo, hND, ⟨_, _, _, _, _, _, _, _, _, _, _, _, _, k_dQ, k_dS, k_dL, k_dR, k_dT, k_dZ, k_dI, k_dH, k_dN, k_dK, k_dJ, k_dU, k_dO, hH9, hN9⟩, k_dW, k_dA, k_dM, k_dF, k_dP, k_dE, k_dX, k_dY, k_dG, hSA, hB9, hfl9⟩ := h
  obtain ⟨j_mo, -, ⟨_, _, _, _, _, _, _, _, _, _, _, _, _, j_dQ, j_dS, j_dL, j_dR, j_dT, j_dZ, j_dI, j_dH, j_dN, j_dK, j_dJ, j_dU, j_dO, -, -⟩, j_dW, j_dA, j_dM, j_dF, j_dP, j_dE, j_dX, j_dY, j_dG, -, -, -⟩ := h2
  intro b hb
  simp only [List.mem_cons, List.not_mem_nil, or_false] at hb
  rcases hb with hb | hb | hb | hb | hb | hb | hb | hb | hb | hb | hb | hb | hb | hb | hb | hb | hb | hb | hb | hb | hb | hb | hb
  · rw [hb]; exact ⟨_, _, k_mo, j_mo, (Nat.ne_of_beq_eq_false rfl), (Nat.ne_of_beq_eq_false rfl), (Nat.ne_of_beq_eq_false rfl)⟩
  · rw [hb]; exact ⟨_, _, k_dW, j_dW, (Nat.ne_of_beq_eq_false rfl), (Nat.ne_of_beq_eq_false rfl), (Nat.ne_of_beq_eq_false rfl)⟩
  · rw [hb]; exact ⟨_, _, k_dA, j_dA, (Nat.ne_of_beq_eq_false rfl), (Nat.ne_of_beq_eq_false rfl), (Nat.ne_of_beq_eq_false rfl)⟩
  · rw [hb]; exact ⟨_, _, k_dQ, j_dQ, (Nat.ne_of_beq_eq_false rfl), (Nat.ne_of_beq_eq_false rfl), (Nat.ne_of_beq_eq_false rfl)⟩
  · rw [hb]; exact ⟨_, _, k_dM, j_dM, (Nat.ne_of_beq_eq_false rfl), (Nat.ne_of_beq_eq_false rfl), (Nat.ne_of_beq_eq_false rfl)⟩
  · rw [hb]; exact ⟨_, _, k_dS, j_dS, (Nat.ne_of_beq_eq_false rfl), (Nat.ne_of_beq_eq_false rfl), (Nat.ne_of_beq_eq_false rfl)⟩
  · rw [hb]; exact ⟨_, _, k_dL, j_dL, (Nat.ne_of_beq_eq_false rfl), (Nat.ne_of_beq_eq_false rfl), (Nat.ne_of_beq_eq_false rfl)⟩
  · rw [hb]; exact ⟨_, _, k_dR, j_dR, (Nat.ne_of_beq_eq_false rfl), (Nat.ne_of_beq_eq_false rfl), (Nat.ne_of_beq_eq_false rfl)⟩
  · rw [hb]; exact ⟨_, _, k_dT, j_dT, (Nat.ne_of_beq_eq_false rfl), (Nat.ne_of_beq_eq_false rfl), (Nat.ne_of_beq_eq_false rfl)⟩
  · rw [hb]; exact ⟨_, _, k_dZ, j_dZ, (Nat.ne_of_beq_eq_false rfl), (Nat.ne_of_beq_eq_false rfl), (Nat.ne_of_beq_eq_false rfl)⟩
  · rw [hb]; exact ⟨_, _, k_dI, j_dI, (Nat.ne_of_beq_eq_false rfl), (Nat.ne_of_beq_eq_false rfl), (Nat.ne_of_beq_eq_false rfl)⟩
  · rw [hb]; exact ⟨_, _, k_dH, j_dH, (Nat.ne_of_beq_eq_false rfl), (Nat.ne_of_beq_eq_false rfl), (Nat.ne_of_beq_eq_false rfl)⟩
  · rw [hb]; exact ⟨_, _, k_dN, j_dN, (Nat.ne_of_beq_eq_false rfl), (Nat.ne_of_beq_eq_false rfl), (Nat.ne_of_beq_eq_false rfl)⟩
  · rw [hb]; exact ⟨_, _, k_dK, j_dK, (Nat.ne_of_beq_eq_false rfl), (Nat.ne_of_beq_eq_false rfl), (Nat.ne_of_beq_eq_false rfl)⟩
  · rw [hb]; exact ⟨_, _, k_dJ, j_dJ, (Nat.ne_of_beq_eq_false rfl), (Nat.ne_of_beq_eq_false rfl), (Nat.ne_of_beq_eq_false rfl)⟩
  · rw [hb]; exact ⟨_, _, k_dU, j_dU, (Nat.ne_of_beq_eq_false rfl), (Nat.ne_of_beq_eq_false rfl), (Nat.ne_of_beq_eq_false rfl)⟩
  · rw [hb]; exact ⟨_, _, k_dO, j_dO, (Nat.ne_of_beq_eq_false rfl), (Nat.ne_of_beq_eq_false rfl), (Nat.ne_of_beq_eq_false rfl)⟩
  · rw [hb]; exact ⟨_, _, k_dF, j_dF, (Nat.ne_of_beq_eq_false rfl), (Nat.ne_of_beq_eq_false rfl), (Nat.ne_of_beq_eq_false rfl)⟩
  · rw [hb]; exact ⟨_, _, k_dP, j_dP, (Nat.ne_of_beq_eq_false rfl), (Nat.ne_of_beq_eq_false rfl), (Nat.ne_of_beq_eq_false rfl)⟩
  · rw [hb]; exact ⟨_, _, k_dE, j_dE, (Nat.ne_of_beq_eq_false rfl), (Nat.ne_of_beq_eq_false rfl), (Nat.ne_of_beq_eq_false rfl)⟩
  · rw [hb]; exact ⟨_, _, k_dX, j_dX, (Nat.ne_of_beq_eq_false rfl), (Nat.ne_of_beq_eq_false rfl), (Nat.ne_of_beq_eq_false rfl)⟩
  · rw [hb]; exact ⟨_, _, k_dY, j_dY, (Nat.ne_of_beq_eq_false rfl), (Nat.ne_of_beq_eq_false rfl), (Nat.ne_of_beq_eq_false rfl)⟩
  · rw [hb]; exact ⟨_, _, k_dG, j_dG, (Nat.ne_of_beq_eq_false rfl), (Nat.ne_of_beq_eq_false rfl), (Nat.ne_of_beq_eq_false rfl)⟩
theorem lg_eq0 {x y : Int64} (h : x = y) : lg_cmp x y = 0 := by
  subst h
  unfold lg_cmp
  rw [if_neg (show ¬ x > x from Int64.lt_irrefl), if_pos rfl]
set_option maxHeartbeats 4000000 in
set_option maxRecDepth 100000 in
theorem c_L_open {l : Launch} (hl : l.stackTraces = false) (G : hG) (f : hM) (xo ez eo bu nw0 na0 nq0 nr0 nw1 na1 nq1 nr1 bs bp bh bf bl bg : Nat) (gw0 : Nat → Int32) (ga0 : Nat → Int32) (gw1 : Nat → Int32) (ga1 : Nat → Int32) (mg0 : Int32) (mg1 : Int32) (n : Nat) (a : Nat) (cg : Nat) (x : Nat) (sa : Nat → Nat) (pk : Nat → Nat) (fl : Nat → Nat) (gv : Nat → Nat) (gh : Nat → Int32) (gl : Nat → Int32) (hC : CW G f xo ez eo bu nw0 na0 nq0 nr0 nw1 na1 nq1 nr1 bs bp bh bf bl bg gw0 ga0 gw1 ga1 mg0 mg1 n a cg x sa pk fl gv gh gl) (out : Nat) (go : Nat → Int64) (k_out : f out = some (.inl (cJ G, 1, .inr (.inl go)))) (hno : out ∉ [xo, ez, eo, bu, nw0, na0, nq0, nr0, nw1, na1, nq1, nr1, bs, bp, bh, bf, bl, bg]) (i : Int32) : CT l yL_open (.codeWith yL_open cL_open 4 (some .int) [(0, 9, 12, 13), (0, 9, 15, 28)]) 8 125 3 17 G [.ref xo, .int i, .ref out] f (fun v f1 => (∃ k9 : Int32, v = some (.int k9)) ∧ CW G f1 xo ez eo bu nw0 na0 nq0 nr0 nw1 na1 nq1 nr1 bs bp bh bf bl bg gw0 ga0 gw1 ga1 mg0 mg1 n a cg x sa pk fl gv gh gl ∧ (∃ g9 : Nat → Int64, f1 out = some (.inl (cJ G, 1, .inr (.inl g9)))) ∧ hKp [out, xo, ez, eo, bu, nw0, na0, nq0, nr0, nw1, na1, nq1, nr1, bs, bp, bh, bf, bl, bg] f f1) (fun E f1 => False) := by
  refine hp_startH hl (own := RL) (by decide) rfl (Nat.le_of_ble_eq_true rfl) ?_
  intro p e s m args below meth c B0 hr htab hw hS ls hl9
  have hx := B0.1
  have hb := B0.2.1
  have hl9 : lv_has ls 4 [(0, .ref xo), (1, .int i), (2, .ref out)] := hl9
  have k_xo := hC.1
  have no_xo : out ≠ xo := fun h9 => hno (by rw [h9]; simp)
  have no_ez : out ≠ ez := fun h9 => hno (by rw [h9]; simp)
  have no_eo : out ≠ eo := fun h9 => hno (by rw [h9]; simp)
  have no_bu : out ≠ bu := fun h9 => hno (by rw [h9]; simp)
  have no_nw0 : out ≠ nw0 := fun h9 => hno (by rw [h9]; simp)
  have no_na0 : out ≠ na0 := fun h9 => hno (by rw [h9]; simp)
  have no_nq0 : out ≠ nq0 := fun h9 => hno (by rw [h9]; simp)
  have no_nr0 : out ≠ nr0 := fun h9 => hno (by rw [h9]; simp)
  have no_nw1 : out ≠ nw1 := fun h9 => hno (by rw [h9]; simp)
  have no_na1 : out ≠ na1 := fun h9 => hno (by rw [h9]; simp)
  have no_nq1 : out ≠ nq1 := fun h9 => hno (by rw [h9]; simp)
  have no_nr1 : out ≠ nr1 := fun h9 => hno (by rw [h9]; simp)
  have no_bs : out ≠ bs := fun h9 => hno (by rw [h9]; simp)
  have no_bp : out ≠ bp := fun h9 => hno (by rw [h9]; simp)
  have no_bh : out ≠ bh := fun h9 => hno (by rw [h9]; simp)
  have no_bf : out ≠ bf := fun h9 => hno (by rw [h9]; simp)
  have no_bl : out ≠ bl := fun h9 => hno (by rw [h9]; simp)
  have no_bg : out ≠ bg := fun h9 => hno (by rw [h9]; simp)
  refine lv_aload_n hx hb dL_open_0 rfl (lv_at hl9 2 rfl) ?_
  refine lv_iconst (v := 0) hx hb dL_open_1 (by decide) ?_
  refine lv_aload_n hx hb dL_open_2 rfl (lv_at hl9 0 rfl) ?_
  refine lv_iload_n hx hb dL_open_3 rfl (lv_at hl9 1 rfl) ?_
  refine hp_V (ci := 4) (As := [.int i]) (rest := [.int 0, .ref out]) B0 hw hS (c_W4_open hl G f xo ez eo bu nw0 na0 nq0 nr0 nw1 na1 nq1 nr1 bs bp bh bf bl bg gw0 ga0 gw1 ga1 mg0 mg1 n a cg x sa pk fl gv gh gl hC i) mV_X4_open qM_L_24 rfl k_xo rfl rfl hl9.1 (Nat.le_of_ble_eq_true rfl) ⟨⟨Nat.le_of_ble_eq_true rfl, Nat.le_of_ble_eq_true rfl⟩, Nat.le_of_ble_eq_true rfl, Nat.le_of_ble_eq_true rfl⟩ dL_open_4 (fun E ce q9 f1 H locs hPX hw hS hce hcv hcl => ?_) (fun v f1 H locs hP hw hS => ?_)
  · obtain ⟨hE9, hC8, hk8⟩ := hPX
    rcases hE9 with eE9 | eE9
    · subst eE9
      refine hp_catch (name := eI) B0 [] _ _ (htab.trans rfl) (fun z hz => nomatch hz) rfl (by decide) qC_L_13 oC_eI hce hcv hcl ?_
      refine W.eq (g2 := F0 m 12 ls [.ref q9]) rfl ?_
      refine lv_astore_n (lv' := [(3, .ref q9), (0, .ref xo), (1, .int i), (2, .ref out)]) hx hb dL_open_12 rfl hl9 (by decide) rfl (fun ls hl9 => ?_)
      refine lv_iconst (v := 1) hx hb dL_open_13 (by decide) ?_
      have h2 : f1 out = some (.inl (cJ G, 1, .inr (.inl go))) := hk8.1 _ _ k_out (Nat.ne_of_beq_eq_false rfl) (ninc no_xo (ninc no_ez (ninc no_eo (ninc no_bu (ninc no_nw0 (ninc no_na0 (ninc no_nq0 (ninc no_nr0 (ninc no_nw1 (ninc no_na1 (ninc no_nq1 (ninc no_nr1 (ninc no_bs (ninc no_bp (ninc no_bh (ninc no_bf (ninc no_bl (ninc no_bg nin0))))))))))))))))))
      exact hp_iret (v := 1) B0 hw hS hr ⟨Nat.le_of_ble_eq_true rfl, Nat.le_of_ble_eq_true rfl⟩ dL_open_14 (⟨⟨_, rfl⟩, hC8, ⟨_, h2⟩, (show hKp [out, xo, ez, eo, bu, nw0, na0, nq0, nr0, nw1, na1, nq1, nr1, bs, bp, bh, bf, bl, bg] f f1 from (hk8.mono (fun x9 hx9 => by simp only [List.mem_cons, List.not_mem_nil, or_false] at hx9; rcases hx9 with hx9 | hx9 | hx9 | hx9 | hx9 | hx9 | hx9 | hx9 | hx9 | hx9 | hx9 | hx9 | hx9 | hx9 | hx9 | hx9 | hx9 | hx9 <;> (rw [hx9]; simp))))⟩)
    · subst eE9
      refine hp_catch (name := eS) B0 [_] _ _ (htab.trans rfl) (fun z hz => Or.inr (by rcases List.mem_singleton.mp hz with rfl; exact ⟨by decide, eI, qC_L_13, List.mem_of_getElem? (i := 4) rfl⟩)) rfl (by decide) qC_L_28 oC_eS hce hcv hcl ?_
      refine W.eq (g2 := F0 m 15 ls [.ref q9]) rfl ?_
      refine lv_astore_n (lv' := [(3, .ref q9), (0, .ref xo), (1, .int i), (2, .ref out)]) hx hb dL_open_15 rfl hl9 (by decide) rfl (fun ls hl9 => ?_)
      refine lv_iconst (v := 2) hx hb dL_open_16 (by decide) ?_
      have h3 : f1 out = some (.inl (cJ G, 1, .inr (.inl go))) := hk8.1 _ _ k_out (Nat.ne_of_beq_eq_false rfl) (ninc no_xo (ninc no_ez (ninc no_eo (ninc no_bu (ninc no_nw0 (ninc no_na0 (ninc no_nq0 (ninc no_nr0 (ninc no_nw1 (ninc no_na1 (ninc no_nq1 (ninc no_nr1 (ninc no_bs (ninc no_bp (ninc no_bh (ninc no_bf (ninc no_bl (ninc no_bg nin0))))))))))))))))))
      exact hp_iret (v := 2) B0 hw hS hr ⟨Nat.le_of_ble_eq_true rfl, Nat.le_of_ble_eq_true rfl⟩ dL_open_17 (⟨⟨_, rfl⟩, hC8, ⟨_, h3⟩, (show hKp [out, xo, ez, eo, bu, nw0, na0, nq0, nr0, nw1, na1, nq1, nr1, bs, bp, bh, bf, bl, bg] f f1 from (hk8.mono (fun x9 hx9 => by simp only [List.mem_cons, List.not_mem_nil, or_false] at hx9; rcases hx9 with hx9 | hx9 | hx9 | hx9 | hx9 | hx9 | hx9 | hx9 | hx9 | hx9 | hx9 | hx9 | hx9 | hx9 | hx9 | hx9 | hx9 | hx9 <;> (rw [hx9]; simp))))⟩)
  · obtain ⟨⟨r4, ev9⟩, hC8, hk8⟩ := hP
    subst ev9
    refine W.eq (g2 := F0 m 7 ls [.int r4, .int 0, .ref out]) rfl ?_
    refine lv_i2l (v := (r4 : Int32).toInt64) hx hb dL_open_7 rfl ?_
    have h5 : f1 out = some (.inl (cJ G, 1, .inr (.inl go))) := hk8.1 _ _ k_out (Nat.ne_of_beq_eq_false rfl) (ninc no_xo (ninc no_ez (ninc no_eo (ninc no_bu (ninc no_nw0 (ninc no_na0 (ninc no_nq0 (ninc no_nr0 (ninc no_nw1 (ninc no_na1 (ninc no_nq1 (ninc no_nr1 (ninc no_bs (ninc no_bp (ninc no_bh (ninc no_bf (ninc no_bl (ninc no_bg nin0))))))))))))))))))
    refine hp_last B0 hw hS h5 (by unfold vp_in; decide) dL_open_8 (fun H locs f6 ef6 hw hS => ?_)
    have h7 : f6 out = some (.inl (cJ G, 1, .inr (.inl (vp_updL go (0 : Int32).toNatClampNeg ((r4 : Int32).toInt64))))) := by rw [ef6, va_up_self]
    refine lv_goto (tgt := 18) hx hb dL_open_9 (by decide) ?_
    refine lv_iconst (v := 0) hx hb dL_open_18 (by decide) ?_
    exact hp_iret (v := 0) B0 hw hS hr ⟨Nat.le_of_ble_eq_true rfl, Nat.le_of_ble_eq_true rfl⟩ dL_open_19 (⟨⟨_, rfl⟩, (CW.eq hC8 (show hEq [out] f1 f6 from (by rw [ef6]; exact hEq.up (by simp))) (fun p9 h9 h8 => hno (by rw [← List.mem_singleton.mp h8]; exact h9)) (fun b9 h9 => by rw [List.mem_singleton.mp h9]; exact ⟨_, _, h5, h7, (Nat.ne_of_beq_eq_false rfl), (Nat.ne_of_beq_eq_false rfl), (Nat.ne_of_beq_eq_false rfl)⟩)), ⟨_, h7⟩, ((show hKp [out, xo, ez, eo, bu, nw0, na0, nq0, nr0, nw1, na1, nq1, nr1, bs, bp, bh, bf, bl, bg] f f1 from (hk8.mono (fun x9 hx9 => by simp only [List.mem_cons, List.not_mem_nil, or_false] at hx9; rcases hx9 with hx9 | hx9 | hx9 | hx9 | hx9 | hx9 | hx9 | hx9 | hx9 | hx9 | hx9 | hx9 | hx9 | hx9 | hx9 | hx9 | hx9 | hx9 <;> (rw [hx9]; simp)))).tr (show hKp [out, xo, ez, eo, bu, nw0, na0, nq0, nr0, nw1, na1, nq1, nr1, bs, bp, bh, bf, bl, bg] f1 f6 from (by rw [ef6]; exact hKp.up h5 (Nat.ne_of_beq_eq_false rfl) (by simp))))⟩)

set_option maxHeartbeats 4000000 in
set_option maxRecDepth 100000 in
theorem c_L_close {l : Launch} (hl : l.stackTraces = false) (G : hG) (f : hM) (xo ez eo bu nw0 na0 nq0 nr0 nw1 na1 nq1 nr1 bs bp bh bf bl bg : Nat) (gw0 : Nat → Int32) (ga0 : Nat → Int32) (gw1 : Nat → Int32) (ga1 : Nat → Int32) (mg0 : Int32) (mg1 : Int32) (n : Nat) (a : Nat) (cg : Nat) (x : Nat) (sa : Nat → Nat) (pk : Nat → Nat) (fl : Nat → Nat) (gv : Nat → Nat) (gh : Nat → Int32) (gl : Nat → Int32) (hC : CW G f xo ez eo bu nw0 na0 nq0 nr0 nw1 na1 nq1 nr1 bs bp bh bf bl bg gw0 ga0 gw1 ga1 mg0 mg1 n a cg x sa pk fl gv gh gl) (out : Nat) (go : Nat → Int64) (k_out : f out = some (.inl (cJ G, 1, .inr (.inl go)))) (hno : out ∉ [xo, ez, eo, bu, nw0, na0, nq0, nr0, nw1, na1, nq1, nr1, bs, bp, bh, bf, bl, bg]) (i : Int32) : CT l yL_close (.codeWith yL_close cL_close 4 (some .int) [(0, 9, 12, 13), (0, 9, 15, 28)]) 8 125 3 17 G [.ref xo, .int i, .ref out] f (fun v f1 => (∃ k9 : Int32, v = some (.int k9)) ∧ CW G f1 xo ez eo bu nw0 na0 nq0 nr0 nw1 na1 nq1 nr1 bs bp bh bf bl bg gw0 ga0 gw1 ga1 mg0 mg1 n a cg x sa pk fl gv gh gl ∧ (∃ g9 : Nat → Int64, f1 out = some (.inl (cJ G, 1, .inr (.inl g9)))) ∧ hKp [out, xo, ez, eo, bu, nw0, na0, nq0, nr0, nw1, na1, nq1, nr1, bs, bp, bh, bf, bl, bg] f f1) (fun E f1 => False) := by
  refine hp_startH hl (own := RL) (by decide) rfl (Nat.le_of_ble_eq_true rfl) ?_
  intro p e s m args below meth c B0 hr htab hw hS ls hl9
  have hx := B0.1
  have hb := B0.2.1
  have hl9 : lv_has ls 4 [(0, .ref xo), (1, .int i), (2, .ref out)] := hl9
  have k_xo := hC.1
  have no_xo : out ≠ xo := fun h9 => hno (by rw [h9]; simp)
  have no_ez : out ≠ ez := fun h9 => hno (by rw [h9]; simp)
  have no_eo : out ≠ eo := fun h9 => hno (by rw [h9]; simp)
  have no_bu : out ≠ bu := fun h9 => hno (by rw [h9]; simp)
  have no_nw0 : out ≠ nw0 := fun h9 => hno (by rw [h9]; simp)
  have no_na0 : out ≠ na0 := fun h9 => hno (by rw [h9]; simp)
  have no_nq0 : out ≠ nq0 := fun h9 => hno (by rw [h9]; simp)
  have no_nr0 : out ≠ nr0 := fun h9 => hno (by rw [h9]; simp)
  have no_nw1 : out ≠ nw1 := fun h9 => hno (by rw [h9]; simp)
  have no_na1 : out ≠ na1 := fun h9 => hno (by rw [h9]; simp)
  have no_nq1 : out ≠ nq1 := fun h9 => hno (by rw [h9]; simp)
  have no_nr1 : out ≠ nr1 := fun h9 => hno (by rw [h9]; simp)
  have no_bs : out ≠ bs := fun h9 => hno (by rw [h9]; simp)
  have no_bp : out ≠ bp := fun h9 => hno (by rw [h9]; simp)
  have no_bh : out ≠ bh := fun h9 => hno (by rw [h9]; simp)
  have no_bf : out ≠ bf := fun h9 => hno (by rw [h9]; simp)
  have no_bl : out ≠ bl := fun h9 => hno (by rw [h9]; simp)
  have no_bg : out ≠ bg := fun h9 => hno (by rw [h9]; simp)
  refine lv_aload_n hx hb dL_close_0 rfl (lv_at hl9 2 rfl) ?_
  refine lv_iconst (v := 0) hx hb dL_close_1 (by decide) ?_
  refine lv_aload_n hx hb dL_close_2 rfl (lv_at hl9 0 rfl) ?_
  refine lv_iload_n hx hb dL_close_3 rfl (lv_at hl9 1 rfl) ?_
  refine hp_V (ci := 4) (As := [.int i]) (rest := [.int 0, .ref out]) B0 hw hS (c_W4_close hl G f xo ez eo bu nw0 na0 nq0 nr0 nw1 na1 nq1 nr1 bs bp bh bf bl bg gw0 ga0 gw1 ga1 mg0 mg1 n a cg x sa pk fl gv gh gl hC i) mV_X4_close qM_L_30 rfl k_xo rfl rfl hl9.1 (Nat.le_of_ble_eq_true rfl) ⟨⟨Nat.le_of_ble_eq_true rfl, Nat.le_of_ble_eq_true rfl⟩, Nat.le_of_ble_eq_true rfl, Nat.le_of_ble_eq_true rfl⟩ dL_close_4 (fun E ce q9 f1 H locs hPX hw hS hce hcv hcl => ?_) (fun v f1 H locs hP hw hS => ?_)
  · obtain ⟨hE9, hC8, hk8⟩ := hPX
    rcases hE9 with eE9 | eE9
    · subst eE9
      refine hp_catch (name := eI) B0 [] _ _ (htab.trans rfl) (fun z hz => nomatch hz) rfl (by decide) qC_L_13 oC_eI hce hcv hcl ?_
      refine W.eq (g2 := F0 m 12 ls [.ref q9]) rfl ?_
      refine lv_astore_n (lv' := [(3, .ref q9), (0, .ref xo), (1, .int i), (2, .ref out)]) hx hb dL_close_12 rfl hl9 (by decide) rfl (fun ls hl9 => ?_)
      refine lv_iconst (v := 1) hx hb dL_close_13 (by decide) ?_
      have h2 : f1 out = some (.inl (cJ G, 1, .inr (.inl go))) := hk8.1 _ _ k_out (Nat.ne_of_beq_eq_false rfl) (ninc no_xo (ninc no_ez (ninc no_eo (ninc no_bu (ninc no_nw0 (ninc no_na0 (ninc no_nq0 (ninc no_nr0 (ninc no_nw1 (ninc no_na1 (ninc no_nq1 (ninc no_nr1 (ninc no_bs (ninc no_bp (ninc no_bh (ninc no_bf (ninc no_bl (ninc no_bg nin0))))))))))))))))))
      exact hp_iret (v := 1) B0 hw hS hr ⟨Nat.le_of_ble_eq_true rfl, Nat.le_of_ble_eq_true rfl⟩ dL_close_14 (⟨⟨_, rfl⟩, hC8, ⟨_, h2⟩, (show hKp [out, xo, ez, eo, bu, nw0, na0, nq0, nr0, nw1, na1, nq1, nr1, bs, bp, bh, bf, bl, bg] f f1 from (hk8.mono (fun x9 hx9 => by simp only [List.mem_cons, List.not_mem_nil, or_false] at hx9; rcases hx9 with hx9 | hx9 | hx9 | hx9 | hx9 | hx9 | hx9 | hx9 | hx9 | hx9 | hx9 | hx9 | hx9 | hx9 | hx9 | hx9 | hx9 | hx9 <;> (rw [hx9]; simp))))⟩)
    · subst eE9
      refine hp_catch (name := eS) B0 [_] _ _ (htab.trans rfl) (fun z hz => Or.inr (by rcases List.mem_singleton.mp hz with rfl; exact ⟨by decide, eI, qC_L_13, List.mem_of_getElem? (i := 4) rfl⟩)) rfl (by decide) qC_L_28 oC_eS hce hcv hcl ?_
      refine W.eq (g2 := F0 m 15 ls [.ref q9]) rfl ?_
      refine lv_astore_n (lv' := [(3, .ref q9), (0, .ref xo), (1, .int i), (2, .ref out)]) hx hb dL_close_15 rfl hl9 (by decide) rfl (fun ls hl9 => ?_)
      refine lv_iconst (v := 2) hx hb dL_close_16 (by decide) ?_
      have h3 : f1 out = some (.inl (cJ G, 1, .inr (.inl go))) := hk8.1 _ _ k_out (Nat.ne_of_beq_eq_false rfl) (ninc no_xo (ninc no_ez (ninc no_eo (ninc no_bu (ninc no_nw0 (ninc no_na0 (ninc no_nq0 (ninc no_nr0 (ninc no_nw1 (ninc no_na1 (ninc no_nq1 (ninc no_nr1 (ninc no_bs (ninc no_bp (ninc no_bh (ninc no_bf (ninc no_bl (ninc no_bg nin0))))))))))))))))))
      exact hp_iret (v := 2) B0 hw hS hr ⟨Nat.le_of_ble_eq_true rfl, Nat.le_of_ble_eq_true rfl⟩ dL_close_17 (⟨⟨_, rfl⟩, hC8, ⟨_, h3⟩, (show hKp [out, xo, ez, eo, bu, nw0, na0, nq0, nr0, nw1, na1, nq1, nr1, bs, bp, bh, bf, bl, bg] f f1 from (hk8.mono (fun x9 hx9 => by simp only [List.mem_cons, List.not_mem_nil, or_false] at hx9; rcases hx9 with hx9 | hx9 | hx9 | hx9 | hx9 | hx9 | hx9 | hx9 | hx9 | hx9 | hx9 | hx9 | hx9 | hx9 | hx9 | hx9 | hx9 | hx9 <;> (rw [hx9]; simp))))⟩)
  · obtain ⟨⟨r4, ev9⟩, hC8, hk8⟩ := hP
    subst ev9
    refine W.eq (g2 := F0 m 7 ls [.int r4, .int 0, .ref out]) rfl ?_
    refine lv_i2l (v := (r4 : Int32).toInt64) hx hb dL_close_7 rfl ?_
    have h5 : f1 out = some (.inl (cJ G, 1, .inr (.inl go))) := hk8.1 _ _ k_out (Nat.ne_of_beq_eq_false rfl) (ninc no_xo (ninc no_ez (ninc no_eo (ninc no_bu (ninc no_nw0 (ninc no_na0 (ninc no_nq0 (ninc no_nr0 (ninc no_nw1 (ninc no_na1 (ninc no_nq1 (ninc no_nr1 (ninc no_bs (ninc no_bp (ninc no_bh (ninc no_bf (ninc no_bl (ninc no_bg nin0))))))))))))))))))
    refine hp_last B0 hw hS h5 (by unfold vp_in; decide) dL_close_8 (fun H locs f6 ef6 hw hS => ?_)
    have h7 : f6 out = some (.inl (cJ G, 1, .inr (.inl (vp_updL go (0 : Int32).toNatClampNeg ((r4 : Int32).toInt64))))) := by rw [ef6, va_up_self]
    refine lv_goto (tgt := 18) hx hb dL_close_9 (by decide) ?_
    refine lv_iconst (v := 0) hx hb dL_close_18 (by decide) ?_
    exact hp_iret (v := 0) B0 hw hS hr ⟨Nat.le_of_ble_eq_true rfl, Nat.le_of_ble_eq_true rfl⟩ dL_close_19 (⟨⟨_, rfl⟩, (CW.eq hC8 (show hEq [out] f1 f6 from (by rw [ef6]; exact hEq.up (by simp))) (fun p9 h9 h8 => hno (by rw [← List.mem_singleton.mp h8]; exact h9)) (fun b9 h9 => by rw [List.mem_singleton.mp h9]; exact ⟨_, _, h5, h7, (Nat.ne_of_beq_eq_false rfl), (Nat.ne_of_beq_eq_false rfl), (Nat.ne_of_beq_eq_false rfl)⟩)), ⟨_, h7⟩, ((show hKp [out, xo, ez, eo, bu, nw0, na0, nq0, nr0, nw1, na1, nq1, nr1, bs, bp, bh, bf, bl, bg] f f1 from (hk8.mono (fun x9 hx9 => by simp only [List.mem_cons, List.not_mem_nil, or_false] at hx9; rcases hx9 with hx9 | hx9 | hx9 | hx9 | hx9 | hx9 | hx9 | hx9 | hx9 | hx9 | hx9 | hx9 | hx9 | hx9 | hx9 | hx9 | hx9 | hx9 <;> (rw [hx9]; simp)))).tr (show hKp [out, xo, ez, eo, bu, nw0, na0, nq0, nr0, nw1, na1, nq1, nr1, bs, bp, bh, bf, bl, bg] f1 f6 from (by rw [ef6]; exact hKp.up h5 (Nat.ne_of_beq_eq_false rfl) (by simp))))⟩)

set_option maxHeartbeats 4000000 in
set_option maxRecDepth 100000 in
theorem c_L_deliver {l : Launch} (hl : l.stackTraces = false) (G : hG) (f : hM) (xo ez eo bu nw0 na0 nq0 nr0 nw1 na1 nq1 nr1 bs bp bh bf bl bg : Nat) (gw0 : Nat → Int32) (ga0 : Nat → Int32) (gw1 : Nat → Int32) (ga1 : Nat → Int32) (mg0 : Int32) (mg1 : Int32) (n : Nat) (a : Nat) (cg : Nat) (x : Nat) (sa : Nat → Nat) (pk : Nat → Nat) (fl : Nat → Nat) (gv : Nat → Nat) (gh : Nat → Int32) (gl : Nat → Int32) (hC : CW G f xo ez eo bu nw0 na0 nq0 nr0 nw1 na1 nq1 nr1 bs bp bh bf bl bg gw0 ga0 gw1 ga1 mg0 mg1 n a cg x sa pk fl gv gh gl) (out : Nat) (go : Nat → Int64) (k_out : f out = some (.inl (cJ G, 1, .inr (.inl go)))) (hno : out ∉ [xo, ez, eo, bu, nw0, na0, nq0, nr0, nw1, na1, nq1, nr1, bs, bp, bh, bf, bl, bg]) (i : Int32) : CT l yL_deliver (.codeWith yL_deliver cL_deliver 4 (some .int) [(0, 9, 12, 13), (0, 9, 15, 28)]) 8 154 7 40 G [.ref xo, .int i, .ref out] f (fun v f1 => (∃ k9 : Int32, v = some (.int k9)) ∧ CW G f1 xo ez eo bu nw0 na0 nq0 nr0 nw1 na1 nq1 nr1 bs bp bh bf bl bg gw0 ga0 gw1 ga1 mg0 mg1 n a cg x sa pk fl gv gh gl ∧ (∃ g9 : Nat → Int64, f1 out = some (.inl (cJ G, 1, .inr (.inl g9)))) ∧ hKp [out, xo, ez, eo, bu, nw0, na0, nq0, nr0, nw1, na1, nq1, nr1, bs, bp, bh, bf, bl, bg] f f1) (fun E f1 => False) := by
  refine hp_startH hl (own := RL) (by decide) rfl (Nat.le_of_ble_eq_true rfl) ?_
  intro p e s m args below meth c B0 hr htab hw hS ls hl9
  have hx := B0.1
  have hb := B0.2.1
  have hl9 : lv_has ls 4 [(0, .ref xo), (1, .int i), (2, .ref out)] := hl9
  have k_xo := hC.1
  have no_xo : out ≠ xo := fun h9 => hno (by rw [h9]; simp)
  have no_ez : out ≠ ez := fun h9 => hno (by rw [h9]; simp)
  have no_eo : out ≠ eo := fun h9 => hno (by rw [h9]; simp)
  have no_bu : out ≠ bu := fun h9 => hno (by rw [h9]; simp)
  have no_nw0 : out ≠ nw0 := fun h9 => hno (by rw [h9]; simp)
  have no_na0 : out ≠ na0 := fun h9 => hno (by rw [h9]; simp)
  have no_nq0 : out ≠ nq0 := fun h9 => hno (by rw [h9]; simp)
  have no_nr0 : out ≠ nr0 := fun h9 => hno (by rw [h9]; simp)
  have no_nw1 : out ≠ nw1 := fun h9 => hno (by rw [h9]; simp)
  have no_na1 : out ≠ na1 := fun h9 => hno (by rw [h9]; simp)
  have no_nq1 : out ≠ nq1 := fun h9 => hno (by rw [h9]; simp)
  have no_nr1 : out ≠ nr1 := fun h9 => hno (by rw [h9]; simp)
  have no_bs : out ≠ bs := fun h9 => hno (by rw [h9]; simp)
  have no_bp : out ≠ bp := fun h9 => hno (by rw [h9]; simp)
  have no_bh : out ≠ bh := fun h9 => hno (by rw [h9]; simp)
  have no_bf : out ≠ bf := fun h9 => hno (by rw [h9]; simp)
  have no_bl : out ≠ bl := fun h9 => hno (by rw [h9]; simp)
  have no_bg : out ≠ bg := fun h9 => hno (by rw [h9]; simp)
  refine lv_aload_n hx hb dL_deliver_0 rfl (lv_at hl9 2 rfl) ?_
  refine lv_iconst (v := 0) hx hb dL_deliver_1 (by decide) ?_
  refine lv_aload_n hx hb dL_deliver_2 rfl (lv_at hl9 0 rfl) ?_
  refine lv_iload_n hx hb dL_deliver_3 rfl (lv_at hl9 1 rfl) ?_
  refine hp_V (ci := 4) (As := [.int i]) (rest := [.int 0, .ref out]) B0 hw hS (c_W4_deliver hl G f xo ez eo bu nw0 na0 nq0 nr0 nw1 na1 nq1 nr1 bs bp bh bf bl bg gw0 ga0 gw1 ga1 mg0 mg1 n a cg x sa pk fl gv gh gl hC i) mV_X4_deliver qM_L_33 rfl k_xo rfl rfl hl9.1 (Nat.le_of_ble_eq_true rfl) ⟨⟨Nat.le_of_ble_eq_true rfl, Nat.le_of_ble_eq_true rfl⟩, Nat.le_of_ble_eq_true rfl, Nat.le_of_ble_eq_true rfl⟩ dL_deliver_4 (fun E ce q9 f1 H locs hPX hw hS hce hcv hcl => ?_) (fun v f1 H locs hP hw hS => ?_)
  · obtain ⟨hE9, hC8, hk8⟩ := hPX
    rcases hE9 with eE9 | eE9
    · subst eE9
      refine hp_catch (name := eI) B0 [] _ _ (htab.trans rfl) (fun z hz => nomatch hz) rfl (by decide) qC_L_13 oC_eI hce hcv hcl ?_
      refine W.eq (g2 := F0 m 12 ls [.ref q9]) rfl ?_
      refine lv_astore_n (lv' := [(3, .ref q9), (0, .ref xo), (1, .int i), (2, .ref out)]) hx hb dL_deliver_12 rfl hl9 (by decide) rfl (fun ls hl9 => ?_)
      refine lv_iconst (v := 1) hx hb dL_deliver_13 (by decide) ?_
      have h2 : f1 out = some (.inl (cJ G, 1, .inr (.inl go))) := hk8.1 _ _ k_out (Nat.ne_of_beq_eq_false rfl) (ninc no_xo (ninc no_ez (ninc no_eo (ninc no_bu (ninc no_nw0 (ninc no_na0 (ninc no_nq0 (ninc no_nr0 (ninc no_nw1 (ninc no_na1 (ninc no_nq1 (ninc no_nr1 (ninc no_bs (ninc no_bp (ninc no_bh (ninc no_bf (ninc no_bl (ninc no_bg nin0))))))))))))))))))
      exact hp_iret (v := 1) B0 hw hS hr ⟨Nat.le_of_ble_eq_true rfl, Nat.le_of_ble_eq_true rfl⟩ dL_deliver_14 (⟨⟨_, rfl⟩, hC8, ⟨_, h2⟩, (show hKp [out, xo, ez, eo, bu, nw0, na0, nq0, nr0, nw1, na1, nq1, nr1, bs, bp, bh, bf, bl, bg] f f1 from (hk8.mono (fun x9 hx9 => by simp only [List.mem_cons, List.not_mem_nil, or_false] at hx9; rcases hx9 with hx9 | hx9 | hx9 | hx9 | hx9 | hx9 | hx9 | hx9 | hx9 | hx9 | hx9 | hx9 | hx9 | hx9 | hx9 | hx9 | hx9 | hx9 <;> (rw [hx9]; simp))))⟩)
    · subst eE9
      refine hp_catch (name := eS) B0 [_] _ _ (htab.trans rfl) (fun z hz => Or.inr (by rcases List.mem_singleton.mp hz with rfl; exact ⟨by decide, eI, qC_L_13, List.mem_of_getElem? (i := 4) rfl⟩)) rfl (by decide) qC_L_28 oC_eS hce hcv hcl ?_
      refine W.eq (g2 := F0 m 15 ls [.ref q9]) rfl ?_
      refine lv_astore_n (lv' := [(3, .ref q9), (0, .ref xo), (1, .int i), (2, .ref out)]) hx hb dL_deliver_15 rfl hl9 (by decide) rfl (fun ls hl9 => ?_)
      refine lv_iconst (v := 2) hx hb dL_deliver_16 (by decide) ?_
      have h3 : f1 out = some (.inl (cJ G, 1, .inr (.inl go))) := hk8.1 _ _ k_out (Nat.ne_of_beq_eq_false rfl) (ninc no_xo (ninc no_ez (ninc no_eo (ninc no_bu (ninc no_nw0 (ninc no_na0 (ninc no_nq0 (ninc no_nr0 (ninc no_nw1 (ninc no_na1 (ninc no_nq1 (ninc no_nr1 (ninc no_bs (ninc no_bp (ninc no_bh (ninc no_bf (ninc no_bl (ninc no_bg nin0))))))))))))))))))
      exact hp_iret (v := 2) B0 hw hS hr ⟨Nat.le_of_ble_eq_true rfl, Nat.le_of_ble_eq_true rfl⟩ dL_deliver_17 (⟨⟨_, rfl⟩, hC8, ⟨_, h3⟩, (show hKp [out, xo, ez, eo, bu, nw0, na0, nq0, nr0, nw1, na1, nq1, nr1, bs, bp, bh, bf, bl, bg] f f1 from (hk8.mono (fun x9 hx9 => by simp only [List.mem_cons, List.not_mem_nil, or_false] at hx9; rcases hx9 with hx9 | hx9 | hx9 | hx9 | hx9 | hx9 | hx9 | hx9 | hx9 | hx9 | hx9 | hx9 | hx9 | hx9 | hx9 | hx9 | hx9 | hx9 <;> (rw [hx9]; simp))))⟩)
  · obtain ⟨⟨r4, ev9⟩, hC8, hk8⟩ := hP
    subst ev9
    refine W.eq (g2 := F0 m 7 ls [.int r4, .int 0, .ref out]) rfl ?_
    refine lv_i2l (v := (r4 : Int32).toInt64) hx hb dL_deliver_7 rfl ?_
    have h5 : f1 out = some (.inl (cJ G, 1, .inr (.inl go))) := hk8.1 _ _ k_out (Nat.ne_of_beq_eq_false rfl) (ninc no_xo (ninc no_ez (ninc no_eo (ninc no_bu (ninc no_nw0 (ninc no_na0 (ninc no_nq0 (ninc no_nr0 (ninc no_nw1 (ninc no_na1 (ninc no_nq1 (ninc no_nr1 (ninc no_bs (ninc no_bp (ninc no_bh (ninc no_bf (ninc no_bl (ninc no_bg nin0))))))))))))))))))
    refine hp_last B0 hw hS h5 (by unfold vp_in; decide) dL_deliver_8 (fun H locs f6 ef6 hw hS => ?_)
    have h7 : f6 out = some (.inl (cJ G, 1, .inr (.inl (vp_updL go (0 : Int32).toNatClampNeg ((r4 : Int32).toInt64))))) := by rw [ef6, va_up_self]
    refine lv_goto (tgt := 18) hx hb dL_deliver_9 (by decide) ?_
    refine lv_iconst (v := 0) hx hb dL_deliver_18 (by decide) ?_
    exact hp_iret (v := 0) B0 hw hS hr ⟨Nat.le_of_ble_eq_true rfl, Nat.le_of_ble_eq_true rfl⟩ dL_deliver_19 (⟨⟨_, rfl⟩, (CW.eq hC8 (show hEq [out] f1 f6 from (by rw [ef6]; exact hEq.up (by simp))) (fun p9 h9 h8 => hno (by rw [← List.mem_singleton.mp h8]; exact h9)) (fun b9 h9 => by rw [List.mem_singleton.mp h9]; exact ⟨_, _, h5, h7, (Nat.ne_of_beq_eq_false rfl), (Nat.ne_of_beq_eq_false rfl), (Nat.ne_of_beq_eq_false rfl)⟩)), ⟨_, h7⟩, ((show hKp [out, xo, ez, eo, bu, nw0, na0, nq0, nr0, nw1, na1, nq1, nr1, bs, bp, bh, bf, bl, bg] f f1 from (hk8.mono (fun x9 hx9 => by simp only [List.mem_cons, List.not_mem_nil, or_false] at hx9; rcases hx9 with hx9 | hx9 | hx9 | hx9 | hx9 | hx9 | hx9 | hx9 | hx9 | hx9 | hx9 | hx9 | hx9 | hx9 | hx9 | hx9 | hx9 | hx9 <;> (rw [hx9]; simp)))).tr (show hKp [out, xo, ez, eo, bu, nw0, na0, nq0, nr0, nw1, na1, nq1, nr1, bs, bp, bh, bf, bl, bg] f1 f6 from (by rw [ef6]; exact hKp.up h5 (Nat.ne_of_beq_eq_false rfl) (by simp))))⟩)

set_option maxHeartbeats 4000000 in
set_option maxRecDepth 100000 in
theorem c_L_lose {l : Launch} (hl : l.stackTraces = false) (G : hG) (f : hM) (xo ez eo bu nw0 na0 nq0 nr0 nw1 na1 nq1 nr1 bs bp bh bf bl bg : Nat) (gw0 : Nat → Int32) (ga0 : Nat → Int32) (gw1 : Nat → Int32) (ga1 : Nat → Int32) (mg0 : Int32) (mg1 : Int32) (n : Nat) (a : Nat) (cg : Nat) (x : Nat) (sa : Nat → Nat) (pk : Nat → Nat) (fl : Nat → Nat) (gv : Nat → Nat) (gh : Nat → Int32) (gl : Nat → Int32) (hC : CW G f xo ez eo bu nw0 na0 nq0 nr0 nw1 na1 nq1 nr1 bs bp bh bf bl bg gw0 ga0 gw1 ga1 mg0 mg1 n a cg x sa pk fl gv gh gl) (out : Nat) (go : Nat → Int64) (k_out : f out = some (.inl (cJ G, 1, .inr (.inl go)))) (hno : out ∉ [xo, ez, eo, bu, nw0, na0, nq0, nr0, nw1, na1, nq1, nr1, bs, bp, bh, bf, bl, bg]) (i : Int32) : CT l yL_lose (.codeWith yL_lose cL_lose 4 (some .int) [(0, 9, 12, 13), (0, 9, 15, 28)]) 8 126 2 12 G [.ref xo, .int i, .ref out] f (fun v f1 => (∃ k9 : Int32, v = some (.int k9)) ∧ CW G f1 xo ez eo bu nw0 na0 nq0 nr0 nw1 na1 nq1 nr1 bs bp bh bf bl bg gw0 ga0 gw1 ga1 mg0 mg1 n a cg x sa pk fl gv gh gl ∧ (∃ g9 : Nat → Int64, f1 out = some (.inl (cJ G, 1, .inr (.inl g9)))) ∧ hKp [out, xo, ez, eo, bu, nw0, na0, nq0, nr0, nw1, na1, nq1, nr1, bs, bp, bh, bf, bl, bg] f f1) (fun E f1 => False) := by
  refine hp_startH hl (own := RL) (by decide) rfl (Nat.le_of_ble_eq_true rfl) ?_
  intro p e s m args below meth c B0 hr htab hw hS ls hl9
  have hx := B0.1
  have hb := B0.2.1
  have hl9 : lv_has ls 4 [(0, .ref xo), (1, .int i), (2, .ref out)] := hl9
  have k_xo := hC.1
  have no_xo : out ≠ xo := fun h9 => hno (by rw [h9]; simp)
  have no_ez : out ≠ ez := fun h9 => hno (by rw [h9]; simp)
  have no_eo : out ≠ eo := fun h9 => hno (by rw [h9]; simp)
  have no_bu : out ≠ bu := fun h9 => hno (by rw [h9]; simp)
  have no_nw0 : out ≠ nw0 := fun h9 => hno (by rw [h9]; simp)
  have no_na0 : out ≠ na0 := fun h9 => hno (by rw [h9]; simp)
  have no_nq0 : out ≠ nq0 := fun h9 => hno (by rw [h9]; simp)
  have no_nr0 : out ≠ nr0 := fun h9 => hno (by rw [h9]; simp)
  have no_nw1 : out ≠ nw1 := fun h9 => hno (by rw [h9]; simp)
  have no_na1 : out ≠ na1 := fun h9 => hno (by rw [h9]; simp)
  have no_nq1 : out ≠ nq1 := fun h9 => hno (by rw [h9]; simp)
  have no_nr1 : out ≠ nr1 := fun h9 => hno (by rw [h9]; simp)
  have no_bs : out ≠ bs := fun h9 => hno (by rw [h9]; simp)
  have no_bp : out ≠ bp := fun h9 => hno (by rw [h9]; simp)
  have no_bh : out ≠ bh := fun h9 => hno (by rw [h9]; simp)
  have no_bf : out ≠ bf := fun h9 => hno (by rw [h9]; simp)
  have no_bl : out ≠ bl := fun h9 => hno (by rw [h9]; simp)
  have no_bg : out ≠ bg := fun h9 => hno (by rw [h9]; simp)
  refine lv_aload_n hx hb dL_lose_0 rfl (lv_at hl9 2 rfl) ?_
  refine lv_iconst (v := 0) hx hb dL_lose_1 (by decide) ?_
  refine lv_aload_n hx hb dL_lose_2 rfl (lv_at hl9 0 rfl) ?_
  refine lv_iload_n hx hb dL_lose_3 rfl (lv_at hl9 1 rfl) ?_
  refine hp_V (ci := 4) (As := [.int i]) (rest := [.int 0, .ref out]) B0 hw hS (c_W4_lose hl G f xo ez eo bu nw0 na0 nq0 nr0 nw1 na1 nq1 nr1 bs bp bh bf bl bg gw0 ga0 gw1 ga1 mg0 mg1 n a cg x sa pk fl gv gh gl hC i) mV_X4_lose qM_L_36 rfl k_xo rfl rfl hl9.1 (Nat.le_of_ble_eq_true rfl) ⟨⟨Nat.le_of_ble_eq_true rfl, Nat.le_of_ble_eq_true rfl⟩, Nat.le_of_ble_eq_true rfl, Nat.le_of_ble_eq_true rfl⟩ dL_lose_4 (fun E ce q9 f1 H locs hPX hw hS hce hcv hcl => ?_) (fun v f1 H locs hP hw hS => ?_)
  · obtain ⟨hE9, hC8, hk8⟩ := hPX
    rcases hE9 with eE9 | eE9
    · subst eE9
      refine hp_catch (name := eI) B0 [] _ _ (htab.trans rfl) (fun z hz => nomatch hz) rfl (by decide) qC_L_13 oC_eI hce hcv hcl ?_
      refine W.eq (g2 := F0 m 12 ls [.ref q9]) rfl ?_
      refine lv_astore_n (lv' := [(3, .ref q9), (0, .ref xo), (1, .int i), (2, .ref out)]) hx hb dL_lose_12 rfl hl9 (by decide) rfl (fun ls hl9 => ?_)
      refine lv_iconst (v := 1) hx hb dL_lose_13 (by decide) ?_
      have h2 : f1 out = some (.inl (cJ G, 1, .inr (.inl go))) := hk8.1 _ _ k_out (Nat.ne_of_beq_eq_false rfl) (ninc no_xo (ninc no_ez (ninc no_eo (ninc no_bu (ninc no_nw0 (ninc no_na0 (ninc no_nq0 (ninc no_nr0 (ninc no_nw1 (ninc no_na1 (ninc no_nq1 (ninc no_nr1 (ninc no_bs (ninc no_bp (ninc no_bh (ninc no_bf (ninc no_bl (ninc no_bg nin0))))))))))))))))))
      exact hp_iret (v := 1) B0 hw hS hr ⟨Nat.le_of_ble_eq_true rfl, Nat.le_of_ble_eq_true rfl⟩ dL_lose_14 (⟨⟨_, rfl⟩, hC8, ⟨_, h2⟩, (show hKp [out, xo, ez, eo, bu, nw0, na0, nq0, nr0, nw1, na1, nq1, nr1, bs, bp, bh, bf, bl, bg] f f1 from (hk8.mono (fun x9 hx9 => by simp only [List.mem_cons, List.not_mem_nil, or_false] at hx9; rcases hx9 with hx9 | hx9 | hx9 | hx9 | hx9 | hx9 | hx9 | hx9 | hx9 | hx9 | hx9 | hx9 | hx9 | hx9 | hx9 | hx9 | hx9 | hx9 <;> (rw [hx9]; simp))))⟩)
    · subst eE9
      refine hp_catch (name := eS) B0 [_] _ _ (htab.trans rfl) (fun z hz => Or.inr (by rcases List.mem_singleton.mp hz with rfl; exact ⟨by decide, eI, qC_L_13, List.mem_of_getElem? (i := 4) rfl⟩)) rfl (by decide) qC_L_28 oC_eS hce hcv hcl ?_
      refine W.eq (g2 := F0 m 15 ls [.ref q9]) rfl ?_
      refine lv_astore_n (lv' := [(3, .ref q9), (0, .ref xo), (1, .int i), (2, .ref out)]) hx hb dL_lose_15 rfl hl9 (by decide) rfl (fun ls hl9 => ?_)
      refine lv_iconst (v := 2) hx hb dL_lose_16 (by decide) ?_
      have h3 : f1 out = some (.inl (cJ G, 1, .inr (.inl go))) := hk8.1 _ _ k_out (Nat.ne_of_beq_eq_false rfl) (ninc no_xo (ninc no_ez (ninc no_eo (ninc no_bu (ninc no_nw0 (ninc no_na0 (ninc no_nq0 (ninc no_nr0 (ninc no_nw1 (ninc no_na1 (ninc no_nq1 (ninc no_nr1 (ninc no_bs (ninc no_bp (ninc no_bh (ninc no_bf (ninc no_bl (ninc no_bg nin0))))))))))))))))))
      exact hp_iret (v := 2) B0 hw hS hr ⟨Nat.le_of_ble_eq_true rfl, Nat.le_of_ble_eq_true rfl⟩ dL_lose_17 (⟨⟨_, rfl⟩, hC8, ⟨_, h3⟩, (show hKp [out, xo, ez, eo, bu, nw0, na0, nq0, nr0, nw1, na1, nq1, nr1, bs, bp, bh, bf, bl, bg] f f1 from (hk8.mono (fun x9 hx9 => by simp only [List.mem_cons, List.not_mem_nil, or_false] at hx9; rcases hx9 with hx9 | hx9 | hx9 | hx9 | hx9 | hx9 | hx9 | hx9 | hx9 | hx9 | hx9 | hx9 | hx9 | hx9 | hx9 | hx9 | hx9 | hx9 <;> (rw [hx9]; simp))))⟩)
  · obtain ⟨⟨r4, ev9⟩, hC8, hk8⟩ := hP
    subst ev9
    refine W.eq (g2 := F0 m 7 ls [.int r4, .int 0, .ref out]) rfl ?_
    refine lv_i2l (v := (r4 : Int32).toInt64) hx hb dL_lose_7 rfl ?_
    have h5 : f1 out = some (.inl (cJ G, 1, .inr (.inl go))) := hk8.1 _ _ k_out (Nat.ne_of_beq_eq_false rfl) (ninc no_xo (ninc no_ez (ninc no_eo (ninc no_bu (ninc no_nw0 (ninc no_na0 (ninc no_nq0 (ninc no_nr0 (ninc no_nw1 (ninc no_na1 (ninc no_nq1 (ninc no_nr1 (ninc no_bs (ninc no_bp (ninc no_bh (ninc no_bf (ninc no_bl (ninc no_bg nin0))))))))))))))))))
    refine hp_last B0 hw hS h5 (by unfold vp_in; decide) dL_lose_8 (fun H locs f6 ef6 hw hS => ?_)
    have h7 : f6 out = some (.inl (cJ G, 1, .inr (.inl (vp_updL go (0 : Int32).toNatClampNeg ((r4 : Int32).toInt64))))) := by rw [ef6, va_up_self]
    refine lv_goto (tgt := 18) hx hb dL_lose_9 (by decide) ?_
    refine lv_iconst (v := 0) hx hb dL_lose_18 (by decide) ?_
    exact hp_iret (v := 0) B0 hw hS hr ⟨Nat.le_of_ble_eq_true rfl, Nat.le_of_ble_eq_true rfl⟩ dL_lose_19 (⟨⟨_, rfl⟩, (CW.eq hC8 (show hEq [out] f1 f6 from (by rw [ef6]; exact hEq.up (by simp))) (fun p9 h9 h8 => hno (by rw [← List.mem_singleton.mp h8]; exact h9)) (fun b9 h9 => by rw [List.mem_singleton.mp h9]; exact ⟨_, _, h5, h7, (Nat.ne_of_beq_eq_false rfl), (Nat.ne_of_beq_eq_false rfl), (Nat.ne_of_beq_eq_false rfl)⟩)), ⟨_, h7⟩, ((show hKp [out, xo, ez, eo, bu, nw0, na0, nq0, nr0, nw1, na1, nq1, nr1, bs, bp, bh, bf, bl, bg] f f1 from (hk8.mono (fun x9 hx9 => by simp only [List.mem_cons, List.not_mem_nil, or_false] at hx9; rcases hx9 with hx9 | hx9 | hx9 | hx9 | hx9 | hx9 | hx9 | hx9 | hx9 | hx9 | hx9 | hx9 | hx9 | hx9 | hx9 | hx9 | hx9 | hx9 <;> (rw [hx9]; simp)))).tr (show hKp [out, xo, ez, eo, bu, nw0, na0, nq0, nr0, nw1, na1, nq1, nr1, bs, bp, bh, bf, bl, bg] f1 f6 from (by rw [ef6]; exact hKp.up h5 (Nat.ne_of_beq_eq_false rfl) (by simp))))⟩)

set_option maxHeartbeats 4000000 in
set_option maxRecDepth 100000 in
theorem c_L_loop {l : Launch} (hl : l.stackTraces = false) (G : hG) (f : hM) (xo ez eo bu nw0 na0 nq0 nr0 nw1 na1 nq1 nr1 bs bp bh bf bl bg : Nat) (gw0 : Nat → Int32) (ga0 : Nat → Int32) (gw1 : Nat → Int32) (ga1 : Nat → Int32) (mg0 : Int32) (mg1 : Int32) (n : Nat) (a : Nat) (cg : Nat) (x : Nat) (sa : Nat → Nat) (pk : Nat → Nat) (fl : Nat → Nat) (gv : Nat → Nat) (gh : Nat → Int32) (gl : Nat → Int32) (hC : CW G f xo ez eo bu nw0 na0 nq0 nr0 nw1 na1 nq1 nr1 bs bp bh bf bl bg gw0 ga0 gw1 ga1 mg0 mg1 n a cg x sa pk fl gv gh gl) (out : Nat) (go : Nat → Int64) (k_out : f out = some (.inl (cJ G, 1, .inr (.inl go)))) (hno : out ∉ [xo, ez, eo, bu, nw0, na0, nq0, nr0, nw1, na1, nq1, nr1, bs, bp, bh, bf, bl, bg]) (i : Int32) : CT l yL_loop (.codeWith yL_loop cL_loop 4 (some .int) [(0, 9, 12, 13), (0, 9, 15, 28)]) 8 155 6 34 G [.ref xo, .int i, .ref out] f (fun v f1 => (∃ k9 : Int32, v = some (.int k9)) ∧ CW G f1 xo ez eo bu nw0 na0 nq0 nr0 nw1 na1 nq1 nr1 bs bp bh bf bl bg gw0 ga0 gw1 ga1 mg0 mg1 n a cg x sa pk fl gv gh gl ∧ (∃ g9 : Nat → Int64, f1 out = some (.inl (cJ G, 1, .inr (.inl g9)))) ∧ hKp [out, xo, ez, eo, bu, nw0, na0, nq0, nr0, nw1, na1, nq1, nr1, bs, bp, bh, bf, bl, bg] f f1) (fun E f1 => False) := by
  refine hp_startH hl (own := RL) (by decide) rfl (Nat.le_of_ble_eq_true rfl) ?_
  intro p e s m args below meth c B0 hr htab hw hS ls hl9
  have hx := B0.1
  have hb := B0.2.1
  have hl9 : lv_has ls 4 [(0, .ref xo), (1, .int i), (2, .ref out)] := hl9
  have k_xo := hC.1
  have no_xo : out ≠ xo := fun h9 => hno (by rw [h9]; simp)
  have no_ez : out ≠ ez := fun h9 => hno (by rw [h9]; simp)
  have no_eo : out ≠ eo := fun h9 => hno (by rw [h9]; simp)
  have no_bu : out ≠ bu := fun h9 => hno (by rw [h9]; simp)
  have no_nw0 : out ≠ nw0 := fun h9 => hno (by rw [h9]; simp)
  have no_na0 : out ≠ na0 := fun h9 => hno (by rw [h9]; simp)
  have no_nq0 : out ≠ nq0 := fun h9 => hno (by rw [h9]; simp)
  have no_nr0 : out ≠ nr0 := fun h9 => hno (by rw [h9]; simp)
  have no_nw1 : out ≠ nw1 := fun h9 => hno (by rw [h9]; simp)
  have no_na1 : out ≠ na1 := fun h9 => hno (by rw [h9]; simp)
  have no_nq1 : out ≠ nq1 := fun h9 => hno (by rw [h9]; simp)
  have no_nr1 : out ≠ nr1 := fun h9 => hno (by rw [h9]; simp)
  have no_bs : out ≠ bs := fun h9 => hno (by rw [h9]; simp)
  have no_bp : out ≠ bp := fun h9 => hno (by rw [h9]; simp)
  have no_bh : out ≠ bh := fun h9 => hno (by rw [h9]; simp)
  have no_bf : out ≠ bf := fun h9 => hno (by rw [h9]; simp)
  have no_bl : out ≠ bl := fun h9 => hno (by rw [h9]; simp)
  have no_bg : out ≠ bg := fun h9 => hno (by rw [h9]; simp)
  refine lv_aload_n hx hb dL_loop_0 rfl (lv_at hl9 2 rfl) ?_
  refine lv_iconst (v := 0) hx hb dL_loop_1 (by decide) ?_
  refine lv_aload_n hx hb dL_loop_2 rfl (lv_at hl9 0 rfl) ?_
  refine lv_iload_n hx hb dL_loop_3 rfl (lv_at hl9 1 rfl) ?_
  refine hp_V (ci := 4) (As := [.int i]) (rest := [.int 0, .ref out]) B0 hw hS (c_W4_loop hl G f xo ez eo bu nw0 na0 nq0 nr0 nw1 na1 nq1 nr1 bs bp bh bf bl bg gw0 ga0 gw1 ga1 mg0 mg1 n a cg x sa pk fl gv gh gl hC i) mV_X4_loop qM_L_39 rfl k_xo rfl rfl hl9.1 (Nat.le_of_ble_eq_true rfl) ⟨⟨Nat.le_of_ble_eq_true rfl, Nat.le_of_ble_eq_true rfl⟩, Nat.le_of_ble_eq_true rfl, Nat.le_of_ble_eq_true rfl⟩ dL_loop_4 (fun E ce q9 f1 H locs hPX hw hS hce hcv hcl => ?_) (fun v f1 H locs hP hw hS => ?_)
  · obtain ⟨hE9, hC8, hk8⟩ := hPX
    rcases hE9 with eE9 | eE9
    · subst eE9
      refine hp_catch (name := eI) B0 [] _ _ (htab.trans rfl) (fun z hz => nomatch hz) rfl (by decide) qC_L_13 oC_eI hce hcv hcl ?_
      refine W.eq (g2 := F0 m 12 ls [.ref q9]) rfl ?_
      refine lv_astore_n (lv' := [(3, .ref q9), (0, .ref xo), (1, .int i), (2, .ref out)]) hx hb dL_loop_12 rfl hl9 (by decide) rfl (fun ls hl9 => ?_)
      refine lv_iconst (v := 1) hx hb dL_loop_13 (by decide) ?_
      have h2 : f1 out = some (.inl (cJ G, 1, .inr (.inl go))) := hk8.1 _ _ k_out (Nat.ne_of_beq_eq_false rfl) (ninc no_xo (ninc no_ez (ninc no_eo (ninc no_bu (ninc no_nw0 (ninc no_na0 (ninc no_nq0 (ninc no_nr0 (ninc no_nw1 (ninc no_na1 (ninc no_nq1 (ninc no_nr1 (ninc no_bs (ninc no_bp (ninc no_bh (ninc no_bf (ninc no_bl (ninc no_bg nin0))))))))))))))))))
      exact hp_iret (v := 1) B0 hw hS hr ⟨Nat.le_of_ble_eq_true rfl, Nat.le_of_ble_eq_true rfl⟩ dL_loop_14 (⟨⟨_, rfl⟩, hC8, ⟨_, h2⟩, (show hKp [out, xo, ez, eo, bu, nw0, na0, nq0, nr0, nw1, na1, nq1, nr1, bs, bp, bh, bf, bl, bg] f f1 from (hk8.mono (fun x9 hx9 => by simp only [List.mem_cons, List.not_mem_nil, or_false] at hx9; rcases hx9 with hx9 | hx9 | hx9 | hx9 | hx9 | hx9 | hx9 | hx9 | hx9 | hx9 | hx9 | hx9 | hx9 | hx9 | hx9 | hx9 | hx9 | hx9 <;> (rw [hx9]; simp))))⟩)
    · subst eE9
      refine hp_catch (name := eS) B0 [_] _ _ (htab.trans rfl) (fun z hz => Or.inr (by rcases List.mem_singleton.mp hz with rfl; exact ⟨by decide, eI, qC_L_13, List.mem_of_getElem? (i := 4) rfl⟩)) rfl (by decide) qC_L_28 oC_eS hce hcv hcl ?_
      refine W.eq (g2 := F0 m 15 ls [.ref q9]) rfl ?_
      refine lv_astore_n (lv' := [(3, .ref q9), (0, .ref xo), (1, .int i), (2, .ref out)]) hx hb dL_loop_15 rfl hl9 (by decide) rfl (fun ls hl9 => ?_)
      refine lv_iconst (v := 2) hx hb dL_loop_16 (by decide) ?_
      have h3 : f1 out = some (.inl (cJ G, 1, .inr (.inl go))) := hk8.1 _ _ k_out (Nat.ne_of_beq_eq_false rfl) (ninc no_xo (ninc no_ez (ninc no_eo (ninc no_bu (ninc no_nw0 (ninc no_na0 (ninc no_nq0 (ninc no_nr0 (ninc no_nw1 (ninc no_na1 (ninc no_nq1 (ninc no_nr1 (ninc no_bs (ninc no_bp (ninc no_bh (ninc no_bf (ninc no_bl (ninc no_bg nin0))))))))))))))))))
      exact hp_iret (v := 2) B0 hw hS hr ⟨Nat.le_of_ble_eq_true rfl, Nat.le_of_ble_eq_true rfl⟩ dL_loop_17 (⟨⟨_, rfl⟩, hC8, ⟨_, h3⟩, (show hKp [out, xo, ez, eo, bu, nw0, na0, nq0, nr0, nw1, na1, nq1, nr1, bs, bp, bh, bf, bl, bg] f f1 from (hk8.mono (fun x9 hx9 => by simp only [List.mem_cons, List.not_mem_nil, or_false] at hx9; rcases hx9 with hx9 | hx9 | hx9 | hx9 | hx9 | hx9 | hx9 | hx9 | hx9 | hx9 | hx9 | hx9 | hx9 | hx9 | hx9 | hx9 | hx9 | hx9 <;> (rw [hx9]; simp))))⟩)
  · obtain ⟨⟨r4, ev9⟩, hC8, hk8⟩ := hP
    subst ev9
    refine W.eq (g2 := F0 m 7 ls [.int r4, .int 0, .ref out]) rfl ?_
    refine lv_i2l (v := (r4 : Int32).toInt64) hx hb dL_loop_7 rfl ?_
    have h5 : f1 out = some (.inl (cJ G, 1, .inr (.inl go))) := hk8.1 _ _ k_out (Nat.ne_of_beq_eq_false rfl) (ninc no_xo (ninc no_ez (ninc no_eo (ninc no_bu (ninc no_nw0 (ninc no_na0 (ninc no_nq0 (ninc no_nr0 (ninc no_nw1 (ninc no_na1 (ninc no_nq1 (ninc no_nr1 (ninc no_bs (ninc no_bp (ninc no_bh (ninc no_bf (ninc no_bl (ninc no_bg nin0))))))))))))))))))
    refine hp_last B0 hw hS h5 (by unfold vp_in; decide) dL_loop_8 (fun H locs f6 ef6 hw hS => ?_)
    have h7 : f6 out = some (.inl (cJ G, 1, .inr (.inl (vp_updL go (0 : Int32).toNatClampNeg ((r4 : Int32).toInt64))))) := by rw [ef6, va_up_self]
    refine lv_goto (tgt := 18) hx hb dL_loop_9 (by decide) ?_
    refine lv_iconst (v := 0) hx hb dL_loop_18 (by decide) ?_
    exact hp_iret (v := 0) B0 hw hS hr ⟨Nat.le_of_ble_eq_true rfl, Nat.le_of_ble_eq_true rfl⟩ dL_loop_19 (⟨⟨_, rfl⟩, (CW.eq hC8 (show hEq [out] f1 f6 from (by rw [ef6]; exact hEq.up (by simp))) (fun p9 h9 h8 => hno (by rw [← List.mem_singleton.mp h8]; exact h9)) (fun b9 h9 => by rw [List.mem_singleton.mp h9]; exact ⟨_, _, h5, h7, (Nat.ne_of_beq_eq_false rfl), (Nat.ne_of_beq_eq_false rfl), (Nat.ne_of_beq_eq_false rfl)⟩)), ⟨_, h7⟩, ((show hKp [out, xo, ez, eo, bu, nw0, na0, nq0, nr0, nw1, na1, nq1, nr1, bs, bp, bh, bf, bl, bg] f f1 from (hk8.mono (fun x9 hx9 => by simp only [List.mem_cons, List.not_mem_nil, or_false] at hx9; rcases hx9 with hx9 | hx9 | hx9 | hx9 | hx9 | hx9 | hx9 | hx9 | hx9 | hx9 | hx9 | hx9 | hx9 | hx9 | hx9 | hx9 | hx9 | hx9 <;> (rw [hx9]; simp)))).tr (show hKp [out, xo, ez, eo, bu, nw0, na0, nq0, nr0, nw1, na1, nq1, nr1, bs, bp, bh, bf, bl, bg] f1 f6 from (by rw [ef6]; exact hKp.up h5 (Nat.ne_of_beq_eq_false rfl) (by simp))))⟩)

set_option maxHeartbeats 4000000 in
set_option maxRecDepth 100000 in
theorem c_L_pass {l : Launch} (hl : l.stackTraces = false) (G : hG) (f : hM) (xo ez eo bu nw0 na0 nq0 nr0 nw1 na1 nq1 nr1 bs bp bh bf bl bg : Nat) (gw0 : Nat → Int32) (ga0 : Nat → Int32) (gw1 : Nat → Int32) (ga1 : Nat → Int32) (mg0 : Int32) (mg1 : Int32) (n : Nat) (a : Nat) (cg : Nat) (x : Nat) (sa : Nat → Nat) (pk : Nat → Nat) (fl : Nat → Nat) (gv : Nat → Nat) (gh : Nat → Int32) (gl : Nat → Int32) (hC : CW G f xo ez eo bu nw0 na0 nq0 nr0 nw1 na1 nq1 nr1 bs bp bh bf bl bg gw0 ga0 gw1 ga1 mg0 mg1 n a cg x sa pk fl gv gh gl) (out : Nat) (go : Nat → Int64) (k_out : f out = some (.inl (cJ G, 1, .inr (.inl go)))) (hno : out ∉ [xo, ez, eo, bu, nw0, na0, nq0, nr0, nw1, na1, nq1, nr1, bs, bp, bh, bf, bl, bg]) (xv : Int32) : CT l yL_pass (.codeWith yL_pass cL_pass 4 (some .int) [(0, 9, 12, 15)]) 7 105 200 1100 G [.ref xo, .int xv, .ref out] f (fun v f1 => (∃ k9 : Int32, v = some (.int k9)) ∧ CW G f1 xo ez eo bu nw0 na0 nq0 nr0 nw1 na1 nq1 nr1 bs bp bh bf bl bg gw0 ga0 gw1 ga1 mg0 mg1 n a cg x sa pk fl gv gh gl ∧ (∃ g9 : Nat → Int64, f1 out = some (.inl (cJ G, 1, .inr (.inl g9)))) ∧ hKp [out, xo, ez, eo, bu, nw0, na0, nq0, nr0, nw1, na1, nq1, nr1, bs, bp, bh, bf, bl, bg] f f1) (fun E f1 => False) := by
  refine hp_startH hl (own := RL) (by decide) rfl (Nat.le_of_ble_eq_true rfl) ?_
  intro p e s m args below meth c B0 hr htab hw hS ls hl9
  have hx := B0.1
  have hb := B0.2.1
  have hl9 : lv_has ls 4 [(0, .ref xo), (1, .int xv), (2, .ref out)] := hl9
  have k_xo := hC.1
  have no_xo : out ≠ xo := fun h9 => hno (by rw [h9]; simp)
  have no_ez : out ≠ ez := fun h9 => hno (by rw [h9]; simp)
  have no_eo : out ≠ eo := fun h9 => hno (by rw [h9]; simp)
  have no_bu : out ≠ bu := fun h9 => hno (by rw [h9]; simp)
  have no_nw0 : out ≠ nw0 := fun h9 => hno (by rw [h9]; simp)
  have no_na0 : out ≠ na0 := fun h9 => hno (by rw [h9]; simp)
  have no_nq0 : out ≠ nq0 := fun h9 => hno (by rw [h9]; simp)
  have no_nr0 : out ≠ nr0 := fun h9 => hno (by rw [h9]; simp)
  have no_nw1 : out ≠ nw1 := fun h9 => hno (by rw [h9]; simp)
  have no_na1 : out ≠ na1 := fun h9 => hno (by rw [h9]; simp)
  have no_nq1 : out ≠ nq1 := fun h9 => hno (by rw [h9]; simp)
  have no_nr1 : out ≠ nr1 := fun h9 => hno (by rw [h9]; simp)
  have no_bs : out ≠ bs := fun h9 => hno (by rw [h9]; simp)
  have no_bp : out ≠ bp := fun h9 => hno (by rw [h9]; simp)
  have no_bh : out ≠ bh := fun h9 => hno (by rw [h9]; simp)
  have no_bf : out ≠ bf := fun h9 => hno (by rw [h9]; simp)
  have no_bl : out ≠ bl := fun h9 => hno (by rw [h9]; simp)
  have no_bg : out ≠ bg := fun h9 => hno (by rw [h9]; simp)
  refine lv_aload_n hx hb dL_pass_0 rfl (lv_at hl9 2 rfl) ?_
  refine lv_iconst (v := 0) hx hb dL_pass_1 (by decide) ?_
  refine lv_aload_n hx hb dL_pass_2 rfl (lv_at hl9 0 rfl) ?_
  refine lv_iload_n hx hb dL_pass_3 rfl (lv_at hl9 1 rfl) ?_
  refine hp_V (ci := 4) (As := [.int xv]) (rest := [.int 0, .ref out]) B0 hw hS (c_W4_pass hl G f xo ez eo bu nw0 na0 nq0 nr0 nw1 na1 nq1 nr1 bs bp bh bf bl bg gw0 ga0 gw1 ga1 mg0 mg1 n a cg x sa pk fl gv gh gl hC xv) mV_X4_pass qM_L_42 rfl k_xo rfl rfl hl9.1 (Nat.le_of_ble_eq_true rfl) ⟨⟨Nat.le_of_ble_eq_true rfl, Nat.le_of_ble_eq_true rfl⟩, Nat.le_of_ble_eq_true rfl, Nat.le_of_ble_eq_true rfl⟩ dL_pass_4 (fun E ce q9 f1 H locs hPX hw hS hce hcv hcl => ?_) (fun v f1 H locs hP hw hS => ?_)
  · obtain ⟨hE9, hC8, hk8⟩ := hPX
    subst hE9
    refine hp_catch (name := eA) B0 [] _ _ (htab.trans rfl) (fun z hz => nomatch hz) rfl (by decide) qC_L_15 oC_eA hce hcv hcl ?_
    refine W.eq (g2 := F0 m 12 ls [.ref q9]) rfl ?_
    refine lv_astore_n (lv' := [(3, .ref q9), (0, .ref xo), (1, .int xv), (2, .ref out)]) hx hb dL_pass_12 rfl hl9 (by decide) rfl (fun ls hl9 => ?_)
    refine lv_iconst (v := 1) hx hb dL_pass_13 (by decide) ?_
    have h2 : f1 out = some (.inl (cJ G, 1, .inr (.inl go))) := hk8.1 _ _ k_out (Nat.ne_of_beq_eq_false rfl) (ninc no_xo (ninc no_ez (ninc no_eo (ninc no_bu (ninc no_nw0 (ninc no_na0 (ninc no_nq0 (ninc no_nr0 (ninc no_nw1 (ninc no_na1 (ninc no_nq1 (ninc no_nr1 (ninc no_bs (ninc no_bp (ninc no_bh (ninc no_bf (ninc no_bl (ninc no_bg nin0))))))))))))))))))
    exact hp_iret (v := 1) B0 hw hS hr ⟨Nat.le_of_ble_eq_true rfl, Nat.le_of_ble_eq_true rfl⟩ dL_pass_14 (⟨⟨_, rfl⟩, hC8, ⟨_, h2⟩, (show hKp [out, xo, ez, eo, bu, nw0, na0, nq0, nr0, nw1, na1, nq1, nr1, bs, bp, bh, bf, bl, bg] f f1 from (hk8.mono (fun x9 hx9 => by simp only [List.mem_cons, List.not_mem_nil, or_false] at hx9; rcases hx9 with hx9 | hx9 | hx9 | hx9 | hx9 | hx9 | hx9 | hx9 | hx9 | hx9 | hx9 | hx9 | hx9 | hx9 | hx9 | hx9 | hx9 | hx9 <;> (rw [hx9]; simp))))⟩)
  · obtain ⟨⟨r3, ev9⟩, hC8, hk8⟩ := hP
    subst ev9
    refine W.eq (g2 := F0 m 7 ls [.int r3, .int 0, .ref out]) rfl ?_
    refine lv_i2l (v := (r3 : Int32).toInt64) hx hb dL_pass_7 rfl ?_
    have h4 : f1 out = some (.inl (cJ G, 1, .inr (.inl go))) := hk8.1 _ _ k_out (Nat.ne_of_beq_eq_false rfl) (ninc no_xo (ninc no_ez (ninc no_eo (ninc no_bu (ninc no_nw0 (ninc no_na0 (ninc no_nq0 (ninc no_nr0 (ninc no_nw1 (ninc no_na1 (ninc no_nq1 (ninc no_nr1 (ninc no_bs (ninc no_bp (ninc no_bh (ninc no_bf (ninc no_bl (ninc no_bg nin0))))))))))))))))))
    refine hp_last B0 hw hS h4 (by unfold vp_in; decide) dL_pass_8 (fun H locs f5 ef5 hw hS => ?_)
    have h6 : f5 out = some (.inl (cJ G, 1, .inr (.inl (vp_updL go (0 : Int32).toNatClampNeg ((r3 : Int32).toInt64))))) := by rw [ef5, va_up_self]
    refine lv_goto (tgt := 15) hx hb dL_pass_9 (by decide) ?_
    refine lv_iconst (v := 0) hx hb dL_pass_15 (by decide) ?_
    exact hp_iret (v := 0) B0 hw hS hr ⟨Nat.le_of_ble_eq_true rfl, Nat.le_of_ble_eq_true rfl⟩ dL_pass_16 (⟨⟨_, rfl⟩, (CW.eq hC8 (show hEq [out] f1 f5 from (by rw [ef5]; exact hEq.up (by simp))) (fun p9 h9 h8 => hno (by rw [← List.mem_singleton.mp h8]; exact h9)) (fun b9 h9 => by rw [List.mem_singleton.mp h9]; exact ⟨_, _, h4, h6, (Nat.ne_of_beq_eq_false rfl), (Nat.ne_of_beq_eq_false rfl), (Nat.ne_of_beq_eq_false rfl)⟩)), ⟨_, h6⟩, ((show hKp [out, xo, ez, eo, bu, nw0, na0, nq0, nr0, nw1, na1, nq1, nr1, bs, bp, bh, bf, bl, bg] f f1 from (hk8.mono (fun x9 hx9 => by simp only [List.mem_cons, List.not_mem_nil, or_false] at hx9; rcases hx9 with hx9 | hx9 | hx9 | hx9 | hx9 | hx9 | hx9 | hx9 | hx9 | hx9 | hx9 | hx9 | hx9 | hx9 | hx9 | hx9 | hx9 | hx9 <;> (rw [hx9]; simp)))).tr (show hKp [out, xo, ez, eo, bu, nw0, na0, nq0, nr0, nw1, na1, nq1, nr1, bs, bp, bh, bf, bl, bg] f1 f5 from (by rw [ef5]; exact hKp.up h4 (Nat.ne_of_beq_eq_false rfl) (by simp))))⟩)

set_option maxHeartbeats 4000000 in
set_option maxRecDepth 100000 in
theorem c_L_stateOf {l : Launch} (hl : l.stackTraces = false) (G : hG) (f : hM) (xo ez eo bu nw0 na0 nq0 nr0 nw1 na1 nq1 nr1 bs bp bh bf bl bg : Nat) (gw0 : Nat → Int32) (ga0 : Nat → Int32) (gw1 : Nat → Int32) (ga1 : Nat → Int32) (mg0 : Int32) (mg1 : Int32) (n : Nat) (a : Nat) (cg : Nat) (x : Nat) (sa : Nat → Nat) (pk : Nat → Nat) (fl : Nat → Nat) (gv : Nat → Nat) (gh : Nat → Int32) (gl : Nat → Int32) (hC : CW G f xo ez eo bu nw0 na0 nq0 nr0 nw1 na1 nq1 nr1 bs bp bh bf bl bg gw0 ga0 gw1 ga1 mg0 mg1 n a cg x sa pk fl gv gh gl) (out : Nat) (go : Nat → Int64) (k_out : f out = some (.inl (cJ G, 1, .inr (.inl go)))) (hno : out ∉ [xo, ez, eo, bu, nw0, na0, nq0, nr0, nw1, na1, nq1, nr1, bs, bp, bh, bf, bl, bg]) (i : Int32) : CT l yL_stateOf (.codeWith yL_stateOf cL_stateOf 4 (some .int) [(0, 9, 12, 13)]) 8 124 1 6 G [.ref xo, .int i, .ref out] f (fun v f1 => (∃ k9 : Int32, v = some (.int k9)) ∧ CW G f1 xo ez eo bu nw0 na0 nq0 nr0 nw1 na1 nq1 nr1 bs bp bh bf bl bg gw0 ga0 gw1 ga1 mg0 mg1 n a cg x sa pk fl gv gh gl ∧ (∃ g9 : Nat → Int64, f1 out = some (.inl (cJ G, 1, .inr (.inl g9)))) ∧ hKp [out, xo, ez, eo, bu, nw0, na0, nq0, nr0, nw1, na1, nq1, nr1, bs, bp, bh, bf, bl, bg] f f1) (fun E f1 => False) := by
  refine hp_startH hl (own := RL) (by decide) rfl (Nat.le_of_ble_eq_true rfl) ?_
  intro p e s m args below meth c B0 hr htab hw hS ls hl9
  have hx := B0.1
  have hb := B0.2.1
  have hl9 : lv_has ls 4 [(0, .ref xo), (1, .int i), (2, .ref out)] := hl9
  have k_xo := hC.1
  have no_xo : out ≠ xo := fun h9 => hno (by rw [h9]; simp)
  have no_ez : out ≠ ez := fun h9 => hno (by rw [h9]; simp)
  have no_eo : out ≠ eo := fun h9 => hno (by rw [h9]; simp)
  have no_bu : out ≠ bu := fun h9 => hno (by rw [h9]; simp)
  have no_nw0 : out ≠ nw0 := fun h9 => hno (by rw [h9]; simp)
  have no_na0 : out ≠ na0 := fun h9 => hno (by rw [h9]; simp)
  have no_nq0 : out ≠ nq0 := fun h9 => hno (by rw [h9]; simp)
  have no_nr0 : out ≠ nr0 := fun h9 => hno (by rw [h9]; simp)
  have no_nw1 : out ≠ nw1 := fun h9 => hno (by rw [h9]; simp)
  have no_na1 : out ≠ na1 := fun h9 => hno (by rw [h9]; simp)
  have no_nq1 : out ≠ nq1 := fun h9 => hno (by rw [h9]; simp)
  have no_nr1 : out ≠ nr1 := fun h9 => hno (by rw [h9]; simp)
  have no_bs : out ≠ bs := fun h9 => hno (by rw [h9]; simp)
  have no_bp : out ≠ bp := fun h9 => hno (by rw [h9]; simp)
  have no_bh : out ≠ bh := fun h9 => hno (by rw [h9]; simp)
  have no_bf : out ≠ bf := fun h9 => hno (by rw [h9]; simp)
  have no_bl : out ≠ bl := fun h9 => hno (by rw [h9]; simp)
  have no_bg : out ≠ bg := fun h9 => hno (by rw [h9]; simp)
  refine lv_aload_n hx hb dL_stateOf_0 rfl (lv_at hl9 2 rfl) ?_
  refine lv_iconst (v := 0) hx hb dL_stateOf_1 (by decide) ?_
  refine lv_aload_n hx hb dL_stateOf_2 rfl (lv_at hl9 0 rfl) ?_
  refine lv_iload_n hx hb dL_stateOf_3 rfl (lv_at hl9 1 rfl) ?_
  refine hp_V (ci := 4) (As := [.int i]) (rest := [.int 0, .ref out]) B0 hw hS (c_W4_stateOf hl G f xo ez eo bu nw0 na0 nq0 nr0 nw1 na1 nq1 nr1 bs bp bh bf bl bg gw0 ga0 gw1 ga1 mg0 mg1 n a cg x sa pk fl gv gh gl hC i) mV_X4_stateOf qM_L_45 rfl k_xo rfl rfl hl9.1 (Nat.le_of_ble_eq_true rfl) ⟨⟨Nat.le_of_ble_eq_true rfl, Nat.le_of_ble_eq_true rfl⟩, Nat.le_of_ble_eq_true rfl, Nat.le_of_ble_eq_true rfl⟩ dL_stateOf_4 (fun E ce q9 f1 H locs hPX hw hS hce hcv hcl => ?_) (fun v f1 H locs hP hw hS => ?_)
  · obtain ⟨hE9, hC8, hk8⟩ := hPX
    subst hE9
    refine hp_catch (name := eI) B0 [] _ _ (htab.trans rfl) (fun z hz => nomatch hz) rfl (by decide) qC_L_13 oC_eI hce hcv hcl ?_
    refine W.eq (g2 := F0 m 12 ls [.ref q9]) rfl ?_
    refine lv_astore_n (lv' := [(3, .ref q9), (0, .ref xo), (1, .int i), (2, .ref out)]) hx hb dL_stateOf_12 rfl hl9 (by decide) rfl (fun ls hl9 => ?_)
    refine lv_iconst (v := 1) hx hb dL_stateOf_13 (by decide) ?_
    have h2 : f1 out = some (.inl (cJ G, 1, .inr (.inl go))) := hk8.1 _ _ k_out (Nat.ne_of_beq_eq_false rfl) (ninc no_xo (ninc no_ez (ninc no_eo (ninc no_bu (ninc no_nw0 (ninc no_na0 (ninc no_nq0 (ninc no_nr0 (ninc no_nw1 (ninc no_na1 (ninc no_nq1 (ninc no_nr1 (ninc no_bs (ninc no_bp (ninc no_bh (ninc no_bf (ninc no_bl (ninc no_bg nin0))))))))))))))))))
    exact hp_iret (v := 1) B0 hw hS hr ⟨Nat.le_of_ble_eq_true rfl, Nat.le_of_ble_eq_true rfl⟩ dL_stateOf_14 (⟨⟨_, rfl⟩, hC8, ⟨_, h2⟩, (show hKp [out, xo, ez, eo, bu, nw0, na0, nq0, nr0, nw1, na1, nq1, nr1, bs, bp, bh, bf, bl, bg] f f1 from (hk8.mono (fun x9 hx9 => by simp only [List.mem_cons, List.not_mem_nil, or_false] at hx9; rcases hx9 with hx9 | hx9 | hx9 | hx9 | hx9 | hx9 | hx9 | hx9 | hx9 | hx9 | hx9 | hx9 | hx9 | hx9 | hx9 | hx9 | hx9 | hx9 <;> (rw [hx9]; simp))))⟩)
  · obtain ⟨⟨r3, ev9⟩, hC8, hk8⟩ := hP
    subst ev9
    refine W.eq (g2 := F0 m 7 ls [.int r3, .int 0, .ref out]) rfl ?_
    refine lv_i2l (v := (r3 : Int32).toInt64) hx hb dL_stateOf_7 rfl ?_
    have h4 : f1 out = some (.inl (cJ G, 1, .inr (.inl go))) := hk8.1 _ _ k_out (Nat.ne_of_beq_eq_false rfl) (ninc no_xo (ninc no_ez (ninc no_eo (ninc no_bu (ninc no_nw0 (ninc no_na0 (ninc no_nq0 (ninc no_nr0 (ninc no_nw1 (ninc no_na1 (ninc no_nq1 (ninc no_nr1 (ninc no_bs (ninc no_bp (ninc no_bh (ninc no_bf (ninc no_bl (ninc no_bg nin0))))))))))))))))))
    refine hp_last B0 hw hS h4 (by unfold vp_in; decide) dL_stateOf_8 (fun H locs f5 ef5 hw hS => ?_)
    have h6 : f5 out = some (.inl (cJ G, 1, .inr (.inl (vp_updL go (0 : Int32).toNatClampNeg ((r3 : Int32).toInt64))))) := by rw [ef5, va_up_self]
    refine lv_goto (tgt := 15) hx hb dL_stateOf_9 (by decide) ?_
    refine lv_iconst (v := 0) hx hb dL_stateOf_15 (by decide) ?_
    exact hp_iret (v := 0) B0 hw hS hr ⟨Nat.le_of_ble_eq_true rfl, Nat.le_of_ble_eq_true rfl⟩ dL_stateOf_16 (⟨⟨_, rfl⟩, (CW.eq hC8 (show hEq [out] f1 f5 from (by rw [ef5]; exact hEq.up (by simp))) (fun p9 h9 h8 => hno (by rw [← List.mem_singleton.mp h8]; exact h9)) (fun b9 h9 => by rw [List.mem_singleton.mp h9]; exact ⟨_, _, h4, h6, (Nat.ne_of_beq_eq_false rfl), (Nat.ne_of_beq_eq_false rfl), (Nat.ne_of_beq_eq_false rfl)⟩)), ⟨_, h6⟩, ((show hKp [out, xo, ez, eo, bu, nw0, na0, nq0, nr0, nw1, na1, nq1, nr1, bs, bp, bh, bf, bl, bg] f f1 from (hk8.mono (fun x9 hx9 => by simp only [List.mem_cons, List.not_mem_nil, or_false] at hx9; rcases hx9 with hx9 | hx9 | hx9 | hx9 | hx9 | hx9 | hx9 | hx9 | hx9 | hx9 | hx9 | hx9 | hx9 | hx9 | hx9 | hx9 | hx9 | hx9 <;> (rw [hx9]; simp)))).tr (show hKp [out, xo, ez, eo, bu, nw0, na0, nq0, nr0, nw1, na1, nq1, nr1, bs, bp, bh, bf, bl, bg] f1 f5 from (by rw [ef5]; exact hKp.up h4 (Nat.ne_of_beq_eq_false rfl) (by simp))))⟩)

set_option maxHeartbeats 4000000 in
set_option maxRecDepth 100000 in
theorem c_L_requests {l : Launch} (hl : l.stackTraces = false) (G : hG) (f : hM) (xo ez eo bu nw0 na0 nq0 nr0 nw1 na1 nq1 nr1 bs bp bh bf bl bg : Nat) (gw0 : Nat → Int32) (ga0 : Nat → Int32) (gw1 : Nat → Int32) (ga1 : Nat → Int32) (mg0 : Int32) (mg1 : Int32) (n : Nat) (a : Nat) (cg : Nat) (x : Nat) (sa : Nat → Nat) (pk : Nat → Nat) (fl : Nat → Nat) (gv : Nat → Nat) (gh : Nat → Int32) (gl : Nat → Int32) (hC : CW G f xo ez eo bu nw0 na0 nq0 nr0 nw1 na1 nq1 nr1 bs bp bh bf bl bg gw0 ga0 gw1 ga1 mg0 mg1 n a cg x sa pk fl gv gh gl) (out : Nat) (go : Nat → Int64) (k_out : f out = some (.inl (cJ G, 1, .inr (.inl go)))) (hno : out ∉ [xo, ez, eo, bu, nw0, na0, nq0, nr0, nw1, na1, nq1, nr1, bs, bp, bh, bf, bl, bg]) (i : Int32) : CT l yL_requests (.codeWith yL_requests cL_requests 4 (some .int) [(0, 9, 12, 13)]) 8 124 1 6 G [.ref xo, .int i, .ref out] f (fun v f1 => (∃ k9 : Int32, v = some (.int k9)) ∧ CW G f1 xo ez eo bu nw0 na0 nq0 nr0 nw1 na1 nq1 nr1 bs bp bh bf bl bg gw0 ga0 gw1 ga1 mg0 mg1 n a cg x sa pk fl gv gh gl ∧ (∃ g9 : Nat → Int64, f1 out = some (.inl (cJ G, 1, .inr (.inl g9)))) ∧ hKp [out, xo, ez, eo, bu, nw0, na0, nq0, nr0, nw1, na1, nq1, nr1, bs, bp, bh, bf, bl, bg] f f1) (fun E f1 => False) := by
  refine hp_startH hl (own := RL) (by decide) rfl (Nat.le_of_ble_eq_true rfl) ?_
  intro p e s m args below meth c B0 hr htab hw hS ls hl9
  have hx := B0.1
  have hb := B0.2.1
  have hl9 : lv_has ls 4 [(0, .ref xo), (1, .int i), (2, .ref out)] := hl9
  have k_xo := hC.1
  have no_xo : out ≠ xo := fun h9 => hno (by rw [h9]; simp)
  have no_ez : out ≠ ez := fun h9 => hno (by rw [h9]; simp)
  have no_eo : out ≠ eo := fun h9 => hno (by rw [h9]; simp)
  have no_bu : out ≠ bu := fun h9 => hno (by rw [h9]; simp)
  have no_nw0 : out ≠ nw0 := fun h9 => hno (by rw [h9]; simp)
  have no_na0 : out ≠ na0 := fun h9 => hno (by rw [h9]; simp)
  have no_nq0 : out ≠ nq0 := fun h9 => hno (by rw [h9]; simp)
  have no_nr0 : out ≠ nr0 := fun h9 => hno (by rw [h9]; simp)
  have no_nw1 : out ≠ nw1 := fun h9 => hno (by rw [h9]; simp)
  have no_na1 : out ≠ na1 := fun h9 => hno (by rw [h9]; simp)
  have no_nq1 : out ≠ nq1 := fun h9 => hno (by rw [h9]; simp)
  have no_nr1 : out ≠ nr1 := fun h9 => hno (by rw [h9]; simp)
  have no_bs : out ≠ bs := fun h9 => hno (by rw [h9]; simp)
  have no_bp : out ≠ bp := fun h9 => hno (by rw [h9]; simp)
  have no_bh : out ≠ bh := fun h9 => hno (by rw [h9]; simp)
  have no_bf : out ≠ bf := fun h9 => hno (by rw [h9]; simp)
  have no_bl : out ≠ bl := fun h9 => hno (by rw [h9]; simp)
  have no_bg : out ≠ bg := fun h9 => hno (by rw [h9]; simp)
  refine lv_aload_n hx hb dL_requests_0 rfl (lv_at hl9 2 rfl) ?_
  refine lv_iconst (v := 0) hx hb dL_requests_1 (by decide) ?_
  refine lv_aload_n hx hb dL_requests_2 rfl (lv_at hl9 0 rfl) ?_
  refine lv_iload_n hx hb dL_requests_3 rfl (lv_at hl9 1 rfl) ?_
  refine hp_V (ci := 4) (As := [.int i]) (rest := [.int 0, .ref out]) B0 hw hS (c_W4_requests hl G f xo ez eo bu nw0 na0 nq0 nr0 nw1 na1 nq1 nr1 bs bp bh bf bl bg gw0 ga0 gw1 ga1 mg0 mg1 n a cg x sa pk fl gv gh gl hC i) mV_X4_requests qM_L_51 rfl k_xo rfl rfl hl9.1 (Nat.le_of_ble_eq_true rfl) ⟨⟨Nat.le_of_ble_eq_true rfl, Nat.le_of_ble_eq_true rfl⟩, Nat.le_of_ble_eq_true rfl, Nat.le_of_ble_eq_true rfl⟩ dL_requests_4 (fun E ce q9 f1 H locs hPX hw hS hce hcv hcl => ?_) (fun v f1 H locs hP hw hS => ?_)
  · obtain ⟨hE9, hC8, hk8⟩ := hPX
    subst hE9
    refine hp_catch (name := eI) B0 [] _ _ (htab.trans rfl) (fun z hz => nomatch hz) rfl (by decide) qC_L_13 oC_eI hce hcv hcl ?_
    refine W.eq (g2 := F0 m 12 ls [.ref q9]) rfl ?_
    refine lv_astore_n (lv' := [(3, .ref q9), (0, .ref xo), (1, .int i), (2, .ref out)]) hx hb dL_requests_12 rfl hl9 (by decide) rfl (fun ls hl9 => ?_)
    refine lv_iconst (v := 1) hx hb dL_requests_13 (by decide) ?_
    have h2 : f1 out = some (.inl (cJ G, 1, .inr (.inl go))) := hk8.1 _ _ k_out (Nat.ne_of_beq_eq_false rfl) (ninc no_xo (ninc no_ez (ninc no_eo (ninc no_bu (ninc no_nw0 (ninc no_na0 (ninc no_nq0 (ninc no_nr0 (ninc no_nw1 (ninc no_na1 (ninc no_nq1 (ninc no_nr1 (ninc no_bs (ninc no_bp (ninc no_bh (ninc no_bf (ninc no_bl (ninc no_bg nin0))))))))))))))))))
    exact hp_iret (v := 1) B0 hw hS hr ⟨Nat.le_of_ble_eq_true rfl, Nat.le_of_ble_eq_true rfl⟩ dL_requests_14 (⟨⟨_, rfl⟩, hC8, ⟨_, h2⟩, (show hKp [out, xo, ez, eo, bu, nw0, na0, nq0, nr0, nw1, na1, nq1, nr1, bs, bp, bh, bf, bl, bg] f f1 from (hk8.mono (fun x9 hx9 => by simp only [List.mem_cons, List.not_mem_nil, or_false] at hx9; rcases hx9 with hx9 | hx9 | hx9 | hx9 | hx9 | hx9 | hx9 | hx9 | hx9 | hx9 | hx9 | hx9 | hx9 | hx9 | hx9 | hx9 | hx9 | hx9 <;> (rw [hx9]; simp))))⟩)
  · obtain ⟨⟨r3, ev9⟩, hC8, hk8⟩ := hP
    subst ev9
    refine W.eq (g2 := F0 m 7 ls [.int r3, .int 0, .ref out]) rfl ?_
    refine lv_i2l (v := (r3 : Int32).toInt64) hx hb dL_requests_7 rfl ?_
    have h4 : f1 out = some (.inl (cJ G, 1, .inr (.inl go))) := hk8.1 _ _ k_out (Nat.ne_of_beq_eq_false rfl) (ninc no_xo (ninc no_ez (ninc no_eo (ninc no_bu (ninc no_nw0 (ninc no_na0 (ninc no_nq0 (ninc no_nr0 (ninc no_nw1 (ninc no_na1 (ninc no_nq1 (ninc no_nr1 (ninc no_bs (ninc no_bp (ninc no_bh (ninc no_bf (ninc no_bl (ninc no_bg nin0))))))))))))))))))
    refine hp_last B0 hw hS h4 (by unfold vp_in; decide) dL_requests_8 (fun H locs f5 ef5 hw hS => ?_)
    have h6 : f5 out = some (.inl (cJ G, 1, .inr (.inl (vp_updL go (0 : Int32).toNatClampNeg ((r3 : Int32).toInt64))))) := by rw [ef5, va_up_self]
    refine lv_goto (tgt := 15) hx hb dL_requests_9 (by decide) ?_
    refine lv_iconst (v := 0) hx hb dL_requests_15 (by decide) ?_
    exact hp_iret (v := 0) B0 hw hS hr ⟨Nat.le_of_ble_eq_true rfl, Nat.le_of_ble_eq_true rfl⟩ dL_requests_16 (⟨⟨_, rfl⟩, (CW.eq hC8 (show hEq [out] f1 f5 from (by rw [ef5]; exact hEq.up (by simp))) (fun p9 h9 h8 => hno (by rw [← List.mem_singleton.mp h8]; exact h9)) (fun b9 h9 => by rw [List.mem_singleton.mp h9]; exact ⟨_, _, h4, h6, (Nat.ne_of_beq_eq_false rfl), (Nat.ne_of_beq_eq_false rfl), (Nat.ne_of_beq_eq_false rfl)⟩)), ⟨_, h6⟩, ((show hKp [out, xo, ez, eo, bu, nw0, na0, nq0, nr0, nw1, na1, nq1, nr1, bs, bp, bh, bf, bl, bg] f f1 from (hk8.mono (fun x9 hx9 => by simp only [List.mem_cons, List.not_mem_nil, or_false] at hx9; rcases hx9 with hx9 | hx9 | hx9 | hx9 | hx9 | hx9 | hx9 | hx9 | hx9 | hx9 | hx9 | hx9 | hx9 | hx9 | hx9 | hx9 | hx9 | hx9 <;> (rw [hx9]; simp)))).tr (show hKp [out, xo, ez, eo, bu, nw0, na0, nq0, nr0, nw1, na1, nq1, nr1, bs, bp, bh, bf, bl, bg] f1 f5 from (by rw [ef5]; exact hKp.up h4 (Nat.ne_of_beq_eq_false rfl) (by simp))))⟩)

set_option maxHeartbeats 4000000 in
set_option maxRecDepth 100000 in
theorem c_L_isLooped {l : Launch} (hl : l.stackTraces = false) (G : hG) (f : hM) (xo ez eo bu nw0 na0 nq0 nr0 nw1 na1 nq1 nr1 bs bp bh bf bl bg : Nat) (gw0 : Nat → Int32) (ga0 : Nat → Int32) (gw1 : Nat → Int32) (ga1 : Nat → Int32) (mg0 : Int32) (mg1 : Int32) (n : Nat) (a : Nat) (cg : Nat) (x : Nat) (sa : Nat → Nat) (pk : Nat → Nat) (fl : Nat → Nat) (gv : Nat → Nat) (gh : Nat → Int32) (gl : Nat → Int32) (hC : CW G f xo ez eo bu nw0 na0 nq0 nr0 nw1 na1 nq1 nr1 bs bp bh bf bl bg gw0 ga0 gw1 ga1 mg0 mg1 n a cg x sa pk fl gv gh gl) (out : Nat) (go : Nat → Int64) (k_out : f out = some (.inl (cJ G, 1, .inr (.inl go)))) (hno : out ∉ [xo, ez, eo, bu, nw0, na0, nq0, nr0, nw1, na1, nq1, nr1, bs, bp, bh, bf, bl, bg]) (i : Int32) : CT l yL_isLooped (.codeWith yL_isLooped cL_isLooped 4 (some .int) [(0, 16, 19, 13)]) 8 124 1 6 G [.ref xo, .int i, .ref out] f (fun v f1 => (∃ k9 : Int32, v = some (.int k9)) ∧ CW G f1 xo ez eo bu nw0 na0 nq0 nr0 nw1 na1 nq1 nr1 bs bp bh bf bl bg gw0 ga0 gw1 ga1 mg0 mg1 n a cg x sa pk fl gv gh gl ∧ (∃ g9 : Nat → Int64, f1 out = some (.inl (cJ G, 1, .inr (.inl g9)))) ∧ hKp [out, xo, ez, eo, bu, nw0, na0, nq0, nr0, nw1, na1, nq1, nr1, bs, bp, bh, bf, bl, bg] f f1) (fun E f1 => False) := by
  refine hp_startH hl (own := RL) (by decide) rfl (Nat.le_of_ble_eq_true rfl) ?_
  intro p e s m args below meth c B0 hr htab hw hS ls hl9
  have hx := B0.1
  have hb := B0.2.1
  have hl9 : lv_has ls 4 [(0, .ref xo), (1, .int i), (2, .ref out)] := hl9
  have k_xo := hC.1
  have no_xo : out ≠ xo := fun h9 => hno (by rw [h9]; simp)
  have no_ez : out ≠ ez := fun h9 => hno (by rw [h9]; simp)
  have no_eo : out ≠ eo := fun h9 => hno (by rw [h9]; simp)
  have no_bu : out ≠ bu := fun h9 => hno (by rw [h9]; simp)
  have no_nw0 : out ≠ nw0 := fun h9 => hno (by rw [h9]; simp)
  have no_na0 : out ≠ na0 := fun h9 => hno (by rw [h9]; simp)
  have no_nq0 : out ≠ nq0 := fun h9 => hno (by rw [h9]; simp)
  have no_nr0 : out ≠ nr0 := fun h9 => hno (by rw [h9]; simp)
  have no_nw1 : out ≠ nw1 := fun h9 => hno (by rw [h9]; simp)
  have no_na1 : out ≠ na1 := fun h9 => hno (by rw [h9]; simp)
  have no_nq1 : out ≠ nq1 := fun h9 => hno (by rw [h9]; simp)
  have no_nr1 : out ≠ nr1 := fun h9 => hno (by rw [h9]; simp)
  have no_bs : out ≠ bs := fun h9 => hno (by rw [h9]; simp)
  have no_bp : out ≠ bp := fun h9 => hno (by rw [h9]; simp)
  have no_bh : out ≠ bh := fun h9 => hno (by rw [h9]; simp)
  have no_bf : out ≠ bf := fun h9 => hno (by rw [h9]; simp)
  have no_bl : out ≠ bl := fun h9 => hno (by rw [h9]; simp)
  have no_bg : out ≠ bg := fun h9 => hno (by rw [h9]; simp)
  refine lv_aload_n hx hb dL_isLooped_0 rfl (lv_at hl9 2 rfl) ?_
  refine lv_iconst (v := 0) hx hb dL_isLooped_1 (by decide) ?_
  refine lv_aload_n hx hb dL_isLooped_2 rfl (lv_at hl9 0 rfl) ?_
  refine lv_iload_n hx hb dL_isLooped_3 rfl (lv_at hl9 1 rfl) ?_
  refine hp_V (ci := 4) (As := [.int i]) (rest := [.int 0, .ref out]) B0 hw hS (c_W4_isLooped hl G f xo ez eo bu nw0 na0 nq0 nr0 nw1 na1 nq1 nr1 bs bp bh bf bl bg gw0 ga0 gw1 ga1 mg0 mg1 n a cg x sa pk fl gv gh gl hC i) mV_X4_isLooped qM_L_54 rfl k_xo rfl rfl hl9.1 (Nat.le_of_ble_eq_true rfl) ⟨⟨Nat.le_of_ble_eq_true rfl, Nat.le_of_ble_eq_true rfl⟩, Nat.le_of_ble_eq_true rfl, Nat.le_of_ble_eq_true rfl⟩ dL_isLooped_4 (fun E ce q9 f1 H locs hPX hw hS hce hcv hcl => ?_) (fun v f1 H locs hP hw hS => ?_)
  · obtain ⟨hE9, hC8, hk8⟩ := hPX
    subst hE9
    refine hp_catch (name := eI) B0 [] _ _ (htab.trans rfl) (fun z hz => nomatch hz) rfl (by decide) qC_L_13 oC_eI hce hcv hcl ?_
    refine W.eq (g2 := F0 m 19 ls [.ref q9]) rfl ?_
    refine lv_astore_n (lv' := [(3, .ref q9), (0, .ref xo), (1, .int i), (2, .ref out)]) hx hb dL_isLooped_19 rfl hl9 (by decide) rfl (fun ls hl9 => ?_)
    refine lv_iconst (v := 1) hx hb dL_isLooped_20 (by decide) ?_
    have h2 : f1 out = some (.inl (cJ G, 1, .inr (.inl go))) := hk8.1 _ _ k_out (Nat.ne_of_beq_eq_false rfl) (ninc no_xo (ninc no_ez (ninc no_eo (ninc no_bu (ninc no_nw0 (ninc no_na0 (ninc no_nq0 (ninc no_nr0 (ninc no_nw1 (ninc no_na1 (ninc no_nq1 (ninc no_nr1 (ninc no_bs (ninc no_bp (ninc no_bh (ninc no_bf (ninc no_bl (ninc no_bg nin0))))))))))))))))))
    exact hp_iret (v := 1) B0 hw hS hr ⟨Nat.le_of_ble_eq_true rfl, Nat.le_of_ble_eq_true rfl⟩ dL_isLooped_21 (⟨⟨_, rfl⟩, hC8, ⟨_, h2⟩, (show hKp [out, xo, ez, eo, bu, nw0, na0, nq0, nr0, nw1, na1, nq1, nr1, bs, bp, bh, bf, bl, bg] f f1 from (hk8.mono (fun x9 hx9 => by simp only [List.mem_cons, List.not_mem_nil, or_false] at hx9; rcases hx9 with hx9 | hx9 | hx9 | hx9 | hx9 | hx9 | hx9 | hx9 | hx9 | hx9 | hx9 | hx9 | hx9 | hx9 | hx9 | hx9 | hx9 | hx9 <;> (rw [hx9]; simp))))⟩)
  · obtain ⟨⟨r3, ev9⟩, hC8, hk8⟩ := hP
    subst ev9
    refine W.eq (g2 := F0 m 7 ls [.int r3, .int 0, .ref out]) rfl ?_
    refine lv_if_eq (tgt := 14) hx hb dL_isLooped_7 (by decide) (fun c4 => ?_) (fun c4 => ?_)
    · refine lv_lconst (v := 0) hx hb dL_isLooped_14 (by decide) ?_
      have h5 : f1 out = some (.inl (cJ G, 1, .inr (.inl go))) := hk8.1 _ _ k_out (Nat.ne_of_beq_eq_false rfl) (ninc no_xo (ninc no_ez (ninc no_eo (ninc no_bu (ninc no_nw0 (ninc no_na0 (ninc no_nq0 (ninc no_nr0 (ninc no_nw1 (ninc no_na1 (ninc no_nq1 (ninc no_nr1 (ninc no_bs (ninc no_bp (ninc no_bh (ninc no_bf (ninc no_bl (ninc no_bg nin0))))))))))))))))))
      refine hp_last B0 hw hS h5 (by unfold vp_in; decide) dL_isLooped_15 (fun H locs f6 ef6 hw hS => ?_)
      have h7 : f6 out = some (.inl (cJ G, 1, .inr (.inl (vp_updL go (0 : Int32).toNatClampNeg 0)))) := by rw [ef6, va_up_self]
      refine lv_goto (tgt := 22) hx hb dL_isLooped_16 (by decide) ?_
      refine lv_iconst (v := 0) hx hb dL_isLooped_22 (by decide) ?_
      exact hp_iret (v := 0) B0 hw hS hr ⟨Nat.le_of_ble_eq_true rfl, Nat.le_of_ble_eq_true rfl⟩ dL_isLooped_23 (⟨⟨_, rfl⟩, (CW.eq hC8 (show hEq [out] f1 f6 from (by rw [ef6]; exact hEq.up (by simp))) (fun p9 h9 h8 => hno (by rw [← List.mem_singleton.mp h8]; exact h9)) (fun b9 h9 => by rw [List.mem_singleton.mp h9]; exact ⟨_, _, h5, h7, (Nat.ne_of_beq_eq_false rfl), (Nat.ne_of_beq_eq_false rfl), (Nat.ne_of_beq_eq_false rfl)⟩)), ⟨_, h7⟩, ((show hKp [out, xo, ez, eo, bu, nw0, na0, nq0, nr0, nw1, na1, nq1, nr1, bs, bp, bh, bf, bl, bg] f f1 from (hk8.mono (fun x9 hx9 => by simp only [List.mem_cons, List.not_mem_nil, or_false] at hx9; rcases hx9 with hx9 | hx9 | hx9 | hx9 | hx9 | hx9 | hx9 | hx9 | hx9 | hx9 | hx9 | hx9 | hx9 | hx9 | hx9 | hx9 | hx9 | hx9 <;> (rw [hx9]; simp)))).tr (show hKp [out, xo, ez, eo, bu, nw0, na0, nq0, nr0, nw1, na1, nq1, nr1, bs, bp, bh, bf, bl, bg] f1 f6 from (by rw [ef6]; exact hKp.up h5 (Nat.ne_of_beq_eq_false rfl) (by simp))))⟩)
    · refine lv_lconst (v := 1) hx hb dL_isLooped_10 (by decide) ?_
      refine lv_goto (tgt := 15) hx hb dL_isLooped_11 (by decide) ?_
      have h8 : f1 out = some (.inl (cJ G, 1, .inr (.inl go))) := hk8.1 _ _ k_out (Nat.ne_of_beq_eq_false rfl) (ninc no_xo (ninc no_ez (ninc no_eo (ninc no_bu (ninc no_nw0 (ninc no_na0 (ninc no_nq0 (ninc no_nr0 (ninc no_nw1 (ninc no_na1 (ninc no_nq1 (ninc no_nr1 (ninc no_bs (ninc no_bp (ninc no_bh (ninc no_bf (ninc no_bl (ninc no_bg nin0))))))))))))))))))
      refine hp_last B0 hw hS h8 (by unfold vp_in; decide) dL_isLooped_15 (fun H locs f9 ef9 hw hS => ?_)
      have h10 : f9 out = some (.inl (cJ G, 1, .inr (.inl (vp_updL go (0 : Int32).toNatClampNeg 1)))) := by rw [ef9, va_up_self]
      refine lv_goto (tgt := 22) hx hb dL_isLooped_16 (by decide) ?_
      refine lv_iconst (v := 0) hx hb dL_isLooped_22 (by decide) ?_
      exact hp_iret (v := 0) B0 hw hS hr ⟨Nat.le_of_ble_eq_true rfl, Nat.le_of_ble_eq_true rfl⟩ dL_isLooped_23 (⟨⟨_, rfl⟩, (CW.eq hC8 (show hEq [out] f1 f9 from (by rw [ef9]; exact hEq.up (by simp))) (fun p9 h9 h8 => hno (by rw [← List.mem_singleton.mp h8]; exact h9)) (fun b9 h9 => by rw [List.mem_singleton.mp h9]; exact ⟨_, _, h8, h10, (Nat.ne_of_beq_eq_false rfl), (Nat.ne_of_beq_eq_false rfl), (Nat.ne_of_beq_eq_false rfl)⟩)), ⟨_, h10⟩, ((show hKp [out, xo, ez, eo, bu, nw0, na0, nq0, nr0, nw1, na1, nq1, nr1, bs, bp, bh, bf, bl, bg] f f1 from (hk8.mono (fun x9 hx9 => by simp only [List.mem_cons, List.not_mem_nil, or_false] at hx9; rcases hx9 with hx9 | hx9 | hx9 | hx9 | hx9 | hx9 | hx9 | hx9 | hx9 | hx9 | hx9 | hx9 | hx9 | hx9 | hx9 | hx9 | hx9 | hx9 <;> (rw [hx9]; simp)))).tr (show hKp [out, xo, ez, eo, bu, nw0, na0, nq0, nr0, nw1, na1, nq1, nr1, bs, bp, bh, bf, bl, bg] f1 f9 from (by rw [ef9]; exact hKp.up h8 (Nat.ne_of_beq_eq_false rfl) (by simp))))⟩)

set_option maxHeartbeats 4000000 in
set_option maxRecDepth 100000 in
theorem c_L_underWay {l : Launch} (hl : l.stackTraces = false) (G : hG) (f : hM) (xo ez eo bu nw0 na0 nq0 nr0 nw1 na1 nq1 nr1 bs bp bh bf bl bg : Nat) (gw0 : Nat → Int32) (ga0 : Nat → Int32) (gw1 : Nat → Int32) (ga1 : Nat → Int32) (mg0 : Int32) (mg1 : Int32) (n : Nat) (a : Nat) (cg : Nat) (x : Nat) (sa : Nat → Nat) (pk : Nat → Nat) (fl : Nat → Nat) (gv : Nat → Nat) (gh : Nat → Int32) (gl : Nat → Int32) (hC : CW G f xo ez eo bu nw0 na0 nq0 nr0 nw1 na1 nq1 nr1 bs bp bh bf bl bg gw0 ga0 gw1 ga1 mg0 mg1 n a cg x sa pk fl gv gh gl) (out : Nat) (go : Nat → Int64) (k_out : f out = some (.inl (cJ G, 1, .inr (.inl go)))) (hno : out ∉ [xo, ez, eo, bu, nw0, na0, nq0, nr0, nw1, na1, nq1, nr1, bs, bp, bh, bf, bl, bg]) (i : Int32) : CT l yL_underWay (.codeWith yL_underWay cL_underWay 4 (some .int) [(0, 9, 12, 13)]) 8 124 1 6 G [.ref xo, .int i, .ref out] f (fun v f1 => (∃ k9 : Int32, v = some (.int k9)) ∧ CW G f1 xo ez eo bu nw0 na0 nq0 nr0 nw1 na1 nq1 nr1 bs bp bh bf bl bg gw0 ga0 gw1 ga1 mg0 mg1 n a cg x sa pk fl gv gh gl ∧ (∃ g9 : Nat → Int64, f1 out = some (.inl (cJ G, 1, .inr (.inl g9)))) ∧ hKp [out, xo, ez, eo, bu, nw0, na0, nq0, nr0, nw1, na1, nq1, nr1, bs, bp, bh, bf, bl, bg] f f1) (fun E f1 => False) := by
  refine hp_startH hl (own := RL) (by decide) rfl (Nat.le_of_ble_eq_true rfl) ?_
  intro p e s m args below meth c B0 hr htab hw hS ls hl9
  have hx := B0.1
  have hb := B0.2.1
  have hl9 : lv_has ls 4 [(0, .ref xo), (1, .int i), (2, .ref out)] := hl9
  have k_xo := hC.1
  have no_xo : out ≠ xo := fun h9 => hno (by rw [h9]; simp)
  have no_ez : out ≠ ez := fun h9 => hno (by rw [h9]; simp)
  have no_eo : out ≠ eo := fun h9 => hno (by rw [h9]; simp)
  have no_bu : out ≠ bu := fun h9 => hno (by rw [h9]; simp)
  have no_nw0 : out ≠ nw0 := fun h9 => hno (by rw [h9]; simp)
  have no_na0 : out ≠ na0 := fun h9 => hno (by rw [h9]; simp)
  have no_nq0 : out ≠ nq0 := fun h9 => hno (by rw [h9]; simp)
  have no_nr0 : out ≠ nr0 := fun h9 => hno (by rw [h9]; simp)
  have no_nw1 : out ≠ nw1 := fun h9 => hno (by rw [h9]; simp)
  have no_na1 : out ≠ na1 := fun h9 => hno (by rw [h9]; simp)
  have no_nq1 : out ≠ nq1 := fun h9 => hno (by rw [h9]; simp)
  have no_nr1 : out ≠ nr1 := fun h9 => hno (by rw [h9]; simp)
  have no_bs : out ≠ bs := fun h9 => hno (by rw [h9]; simp)
  have no_bp : out ≠ bp := fun h9 => hno (by rw [h9]; simp)
  have no_bh : out ≠ bh := fun h9 => hno (by rw [h9]; simp)
  have no_bf : out ≠ bf := fun h9 => hno (by rw [h9]; simp)
  have no_bl : out ≠ bl := fun h9 => hno (by rw [h9]; simp)
  have no_bg : out ≠ bg := fun h9 => hno (by rw [h9]; simp)
  refine lv_aload_n hx hb dL_underWay_0 rfl (lv_at hl9 2 rfl) ?_
  refine lv_iconst (v := 0) hx hb dL_underWay_1 (by decide) ?_
  refine lv_aload_n hx hb dL_underWay_2 rfl (lv_at hl9 0 rfl) ?_
  refine lv_iload_n hx hb dL_underWay_3 rfl (lv_at hl9 1 rfl) ?_
  refine hp_V (ci := 4) (As := [.int i]) (rest := [.int 0, .ref out]) B0 hw hS (c_W4_underWay hl G f xo ez eo bu nw0 na0 nq0 nr0 nw1 na1 nq1 nr1 bs bp bh bf bl bg gw0 ga0 gw1 ga1 mg0 mg1 n a cg x sa pk fl gv gh gl hC i) mV_X4_underWay qM_L_58 rfl k_xo rfl rfl hl9.1 (Nat.le_of_ble_eq_true rfl) ⟨⟨Nat.le_of_ble_eq_true rfl, Nat.le_of_ble_eq_true rfl⟩, Nat.le_of_ble_eq_true rfl, Nat.le_of_ble_eq_true rfl⟩ dL_underWay_4 (fun E ce q9 f1 H locs hPX hw hS hce hcv hcl => ?_) (fun v f1 H locs hP hw hS => ?_)
  · obtain ⟨hE9, hC8, hk8⟩ := hPX
    subst hE9
    refine hp_catch (name := eI) B0 [] _ _ (htab.trans rfl) (fun z hz => nomatch hz) rfl (by decide) qC_L_13 oC_eI hce hcv hcl ?_
    refine W.eq (g2 := F0 m 12 ls [.ref q9]) rfl ?_
    refine lv_astore_n (lv' := [(3, .ref q9), (0, .ref xo), (1, .int i), (2, .ref out)]) hx hb dL_underWay_12 rfl hl9 (by decide) rfl (fun ls hl9 => ?_)
    refine lv_iconst (v := 1) hx hb dL_underWay_13 (by decide) ?_
    have h2 : f1 out = some (.inl (cJ G, 1, .inr (.inl go))) := hk8.1 _ _ k_out (Nat.ne_of_beq_eq_false rfl) (ninc no_xo (ninc no_ez (ninc no_eo (ninc no_bu (ninc no_nw0 (ninc no_na0 (ninc no_nq0 (ninc no_nr0 (ninc no_nw1 (ninc no_na1 (ninc no_nq1 (ninc no_nr1 (ninc no_bs (ninc no_bp (ninc no_bh (ninc no_bf (ninc no_bl (ninc no_bg nin0))))))))))))))))))
    exact hp_iret (v := 1) B0 hw hS hr ⟨Nat.le_of_ble_eq_true rfl, Nat.le_of_ble_eq_true rfl⟩ dL_underWay_14 (⟨⟨_, rfl⟩, hC8, ⟨_, h2⟩, (show hKp [out, xo, ez, eo, bu, nw0, na0, nq0, nr0, nw1, na1, nq1, nr1, bs, bp, bh, bf, bl, bg] f f1 from (hk8.mono (fun x9 hx9 => by simp only [List.mem_cons, List.not_mem_nil, or_false] at hx9; rcases hx9 with hx9 | hx9 | hx9 | hx9 | hx9 | hx9 | hx9 | hx9 | hx9 | hx9 | hx9 | hx9 | hx9 | hx9 | hx9 | hx9 | hx9 | hx9 <;> (rw [hx9]; simp))))⟩)
  · obtain ⟨⟨r3, ev9⟩, hC8, hk8⟩ := hP
    subst ev9
    refine W.eq (g2 := F0 m 7 ls [.int r3, .int 0, .ref out]) rfl ?_
    refine lv_i2l (v := (r3 : Int32).toInt64) hx hb dL_underWay_7 rfl ?_
    have h4 : f1 out = some (.inl (cJ G, 1, .inr (.inl go))) := hk8.1 _ _ k_out (Nat.ne_of_beq_eq_false rfl) (ninc no_xo (ninc no_ez (ninc no_eo (ninc no_bu (ninc no_nw0 (ninc no_na0 (ninc no_nq0 (ninc no_nr0 (ninc no_nw1 (ninc no_na1 (ninc no_nq1 (ninc no_nr1 (ninc no_bs (ninc no_bp (ninc no_bh (ninc no_bf (ninc no_bl (ninc no_bg nin0))))))))))))))))))
    refine hp_last B0 hw hS h4 (by unfold vp_in; decide) dL_underWay_8 (fun H locs f5 ef5 hw hS => ?_)
    have h6 : f5 out = some (.inl (cJ G, 1, .inr (.inl (vp_updL go (0 : Int32).toNatClampNeg ((r3 : Int32).toInt64))))) := by rw [ef5, va_up_self]
    refine lv_goto (tgt := 15) hx hb dL_underWay_9 (by decide) ?_
    refine lv_iconst (v := 0) hx hb dL_underWay_15 (by decide) ?_
    exact hp_iret (v := 0) B0 hw hS hr ⟨Nat.le_of_ble_eq_true rfl, Nat.le_of_ble_eq_true rfl⟩ dL_underWay_16 (⟨⟨_, rfl⟩, (CW.eq hC8 (show hEq [out] f1 f5 from (by rw [ef5]; exact hEq.up (by simp))) (fun p9 h9 h8 => hno (by rw [← List.mem_singleton.mp h8]; exact h9)) (fun b9 h9 => by rw [List.mem_singleton.mp h9]; exact ⟨_, _, h4, h6, (Nat.ne_of_beq_eq_false rfl), (Nat.ne_of_beq_eq_false rfl), (Nat.ne_of_beq_eq_false rfl)⟩)), ⟨_, h6⟩, ((show hKp [out, xo, ez, eo, bu, nw0, na0, nq0, nr0, nw1, na1, nq1, nr1, bs, bp, bh, bf, bl, bg] f f1 from (hk8.mono (fun x9 hx9 => by simp only [List.mem_cons, List.not_mem_nil, or_false] at hx9; rcases hx9 with hx9 | hx9 | hx9 | hx9 | hx9 | hx9 | hx9 | hx9 | hx9 | hx9 | hx9 | hx9 | hx9 | hx9 | hx9 | hx9 | hx9 | hx9 <;> (rw [hx9]; simp)))).tr (show hKp [out, xo, ez, eo, bu, nw0, na0, nq0, nr0, nw1, na1, nq1, nr1, bs, bp, bh, bf, bl, bg] f1 f5 from (by rw [ef5]; exact hKp.up h4 (Nat.ne_of_beq_eq_false rfl) (by simp))))⟩)

set_option maxHeartbeats 4000000 in
set_option maxRecDepth 100000 in
theorem c_L_missed {l : Launch} (hl : l.stackTraces = false) (G : hG) (f : hM) (xo ez eo bu nw0 na0 nq0 nr0 nw1 na1 nq1 nr1 bs bp bh bf bl bg : Nat) (gw0 : Nat → Int32) (ga0 : Nat → Int32) (gw1 : Nat → Int32) (ga1 : Nat → Int32) (mg0 : Int32) (mg1 : Int32) (n : Nat) (a : Nat) (cg : Nat) (x : Nat) (sa : Nat → Nat) (pk : Nat → Nat) (fl : Nat → Nat) (gv : Nat → Nat) (gh : Nat → Int32) (gl : Nat → Int32) (hC : CW G f xo ez eo bu nw0 na0 nq0 nr0 nw1 na1 nq1 nr1 bs bp bh bf bl bg gw0 ga0 gw1 ga1 mg0 mg1 n a cg x sa pk fl gv gh gl) (out : Nat) (go : Nat → Int64) (k_out : f out = some (.inl (cJ G, 1, .inr (.inl go)))) (hno : out ∉ [xo, ez, eo, bu, nw0, na0, nq0, nr0, nw1, na1, nq1, nr1, bs, bp, bh, bf, bl, bg]) (i : Int32) : CT l yL_missed (.codeWith yL_missed cL_missed 4 (some .int) [(0, 9, 12, 13)]) 8 124 1 6 G [.ref xo, .int i, .ref out] f (fun v f1 => (∃ k9 : Int32, v = some (.int k9)) ∧ CW G f1 xo ez eo bu nw0 na0 nq0 nr0 nw1 na1 nq1 nr1 bs bp bh bf bl bg gw0 ga0 gw1 ga1 mg0 mg1 n a cg x sa pk fl gv gh gl ∧ (∃ g9 : Nat → Int64, f1 out = some (.inl (cJ G, 1, .inr (.inl g9)))) ∧ hKp [out, xo, ez, eo, bu, nw0, na0, nq0, nr0, nw1, na1, nq1, nr1, bs, bp, bh, bf, bl, bg] f f1) (fun E f1 => False) := by
  refine hp_startH hl (own := RL) (by decide) rfl (Nat.le_of_ble_eq_true rfl) ?_
  intro p e s m args below meth c B0 hr htab hw hS ls hl9
  have hx := B0.1
  have hb := B0.2.1
  have hl9 : lv_has ls 4 [(0, .ref xo), (1, .int i), (2, .ref out)] := hl9
  have k_xo := hC.1
  have no_xo : out ≠ xo := fun h9 => hno (by rw [h9]; simp)
  have no_ez : out ≠ ez := fun h9 => hno (by rw [h9]; simp)
  have no_eo : out ≠ eo := fun h9 => hno (by rw [h9]; simp)
  have no_bu : out ≠ bu := fun h9 => hno (by rw [h9]; simp)
  have no_nw0 : out ≠ nw0 := fun h9 => hno (by rw [h9]; simp)
  have no_na0 : out ≠ na0 := fun h9 => hno (by rw [h9]; simp)
  have no_nq0 : out ≠ nq0 := fun h9 => hno (by rw [h9]; simp)
  have no_nr0 : out ≠ nr0 := fun h9 => hno (by rw [h9]; simp)
  have no_nw1 : out ≠ nw1 := fun h9 => hno (by rw [h9]; simp)
  have no_na1 : out ≠ na1 := fun h9 => hno (by rw [h9]; simp)
  have no_nq1 : out ≠ nq1 := fun h9 => hno (by rw [h9]; simp)
  have no_nr1 : out ≠ nr1 := fun h9 => hno (by rw [h9]; simp)
  have no_bs : out ≠ bs := fun h9 => hno (by rw [h9]; simp)
  have no_bp : out ≠ bp := fun h9 => hno (by rw [h9]; simp)
  have no_bh : out ≠ bh := fun h9 => hno (by rw [h9]; simp)
  have no_bf : out ≠ bf := fun h9 => hno (by rw [h9]; simp)
  have no_bl : out ≠ bl := fun h9 => hno (by rw [h9]; simp)
  have no_bg : out ≠ bg := fun h9 => hno (by rw [h9]; simp)
  refine lv_aload_n hx hb dL_missed_0 rfl (lv_at hl9 2 rfl) ?_
  refine lv_iconst (v := 0) hx hb dL_missed_1 (by decide) ?_
  refine lv_aload_n hx hb dL_missed_2 rfl (lv_at hl9 0 rfl) ?_
  refine lv_iload_n hx hb dL_missed_3 rfl (lv_at hl9 1 rfl) ?_
  refine hp_V (ci := 4) (As := [.int i]) (rest := [.int 0, .ref out]) B0 hw hS (c_W4_missed hl G f xo ez eo bu nw0 na0 nq0 nr0 nw1 na1 nq1 nr1 bs bp bh bf bl bg gw0 ga0 gw1 ga1 mg0 mg1 n a cg x sa pk fl gv gh gl hC i) mV_X4_missed qM_L_61 rfl k_xo rfl rfl hl9.1 (Nat.le_of_ble_eq_true rfl) ⟨⟨Nat.le_of_ble_eq_true rfl, Nat.le_of_ble_eq_true rfl⟩, Nat.le_of_ble_eq_true rfl, Nat.le_of_ble_eq_true rfl⟩ dL_missed_4 (fun E ce q9 f1 H locs hPX hw hS hce hcv hcl => ?_) (fun v f1 H locs hP hw hS => ?_)
  · obtain ⟨hE9, hC8, hk8⟩ := hPX
    subst hE9
    refine hp_catch (name := eI) B0 [] _ _ (htab.trans rfl) (fun z hz => nomatch hz) rfl (by decide) qC_L_13 oC_eI hce hcv hcl ?_
    refine W.eq (g2 := F0 m 12 ls [.ref q9]) rfl ?_
    refine lv_astore_n (lv' := [(3, .ref q9), (0, .ref xo), (1, .int i), (2, .ref out)]) hx hb dL_missed_12 rfl hl9 (by decide) rfl (fun ls hl9 => ?_)
    refine lv_iconst (v := 1) hx hb dL_missed_13 (by decide) ?_
    have h2 : f1 out = some (.inl (cJ G, 1, .inr (.inl go))) := hk8.1 _ _ k_out (Nat.ne_of_beq_eq_false rfl) (ninc no_xo (ninc no_ez (ninc no_eo (ninc no_bu (ninc no_nw0 (ninc no_na0 (ninc no_nq0 (ninc no_nr0 (ninc no_nw1 (ninc no_na1 (ninc no_nq1 (ninc no_nr1 (ninc no_bs (ninc no_bp (ninc no_bh (ninc no_bf (ninc no_bl (ninc no_bg nin0))))))))))))))))))
    exact hp_iret (v := 1) B0 hw hS hr ⟨Nat.le_of_ble_eq_true rfl, Nat.le_of_ble_eq_true rfl⟩ dL_missed_14 (⟨⟨_, rfl⟩, hC8, ⟨_, h2⟩, (show hKp [out, xo, ez, eo, bu, nw0, na0, nq0, nr0, nw1, na1, nq1, nr1, bs, bp, bh, bf, bl, bg] f f1 from (hk8.mono (fun x9 hx9 => by simp only [List.mem_cons, List.not_mem_nil, or_false] at hx9; rcases hx9 with hx9 | hx9 | hx9 | hx9 | hx9 | hx9 | hx9 | hx9 | hx9 | hx9 | hx9 | hx9 | hx9 | hx9 | hx9 | hx9 | hx9 | hx9 <;> (rw [hx9]; simp))))⟩)
  · obtain ⟨⟨r3, ev9⟩, hC8, hk8⟩ := hP
    subst ev9
    refine W.eq (g2 := F0 m 7 ls [.int r3, .int 0, .ref out]) rfl ?_
    refine lv_i2l (v := (r3 : Int32).toInt64) hx hb dL_missed_7 rfl ?_
    have h4 : f1 out = some (.inl (cJ G, 1, .inr (.inl go))) := hk8.1 _ _ k_out (Nat.ne_of_beq_eq_false rfl) (ninc no_xo (ninc no_ez (ninc no_eo (ninc no_bu (ninc no_nw0 (ninc no_na0 (ninc no_nq0 (ninc no_nr0 (ninc no_nw1 (ninc no_na1 (ninc no_nq1 (ninc no_nr1 (ninc no_bs (ninc no_bp (ninc no_bh (ninc no_bf (ninc no_bl (ninc no_bg nin0))))))))))))))))))
    refine hp_last B0 hw hS h4 (by unfold vp_in; decide) dL_missed_8 (fun H locs f5 ef5 hw hS => ?_)
    have h6 : f5 out = some (.inl (cJ G, 1, .inr (.inl (vp_updL go (0 : Int32).toNatClampNeg ((r3 : Int32).toInt64))))) := by rw [ef5, va_up_self]
    refine lv_goto (tgt := 15) hx hb dL_missed_9 (by decide) ?_
    refine lv_iconst (v := 0) hx hb dL_missed_15 (by decide) ?_
    exact hp_iret (v := 0) B0 hw hS hr ⟨Nat.le_of_ble_eq_true rfl, Nat.le_of_ble_eq_true rfl⟩ dL_missed_16 (⟨⟨_, rfl⟩, (CW.eq hC8 (show hEq [out] f1 f5 from (by rw [ef5]; exact hEq.up (by simp))) (fun p9 h9 h8 => hno (by rw [← List.mem_singleton.mp h8]; exact h9)) (fun b9 h9 => by rw [List.mem_singleton.mp h9]; exact ⟨_, _, h4, h6, (Nat.ne_of_beq_eq_false rfl), (Nat.ne_of_beq_eq_false rfl), (Nat.ne_of_beq_eq_false rfl)⟩)), ⟨_, h6⟩, ((show hKp [out, xo, ez, eo, bu, nw0, na0, nq0, nr0, nw1, na1, nq1, nr1, bs, bp, bh, bf, bl, bg] f f1 from (hk8.mono (fun x9 hx9 => by simp only [List.mem_cons, List.not_mem_nil, or_false] at hx9; rcases hx9 with hx9 | hx9 | hx9 | hx9 | hx9 | hx9 | hx9 | hx9 | hx9 | hx9 | hx9 | hx9 | hx9 | hx9 | hx9 | hx9 | hx9 | hx9 <;> (rw [hx9]; simp)))).tr (show hKp [out, xo, ez, eo, bu, nw0, na0, nq0, nr0, nw1, na1, nq1, nr1, bs, bp, bh, bf, bl, bg] f1 f5 from (by rw [ef5]; exact hKp.up h4 (Nat.ne_of_beq_eq_false rfl) (by simp))))⟩)

set_option maxHeartbeats 4000000 in
set_option maxRecDepth 100000 in
theorem c_L_asked {l : Launch} (hl : l.stackTraces = false) (G : hG) (f : hM) (xo ez eo bu nw0 na0 nq0 nr0 nw1 na1 nq1 nr1 bs bp bh bf bl bg : Nat) (gw0 : Nat → Int32) (ga0 : Nat → Int32) (gw1 : Nat → Int32) (ga1 : Nat → Int32) (mg0 : Int32) (mg1 : Int32) (n : Nat) (a : Nat) (cg : Nat) (x : Nat) (sa : Nat → Nat) (pk : Nat → Nat) (fl : Nat → Nat) (gv : Nat → Nat) (gh : Nat → Int32) (gl : Nat → Int32) (hC : CW G f xo ez eo bu nw0 na0 nq0 nr0 nw1 na1 nq1 nr1 bs bp bh bf bl bg gw0 ga0 gw1 ga1 mg0 mg1 n a cg x sa pk fl gv gh gl) (out : Nat) (go : Nat → Int64) (k_out : f out = some (.inl (cJ G, 1, .inr (.inl go)))) (hno : out ∉ [xo, ez, eo, bu, nw0, na0, nq0, nr0, nw1, na1, nq1, nr1, bs, bp, bh, bf, bl, bg]) (i o : Int32) : CT l yL_asked (.codeWith yL_asked cL_asked 5 (some .int) [(0, 10, 13, 13)]) 8 126 2 12 G [.ref xo, .int i, .int o, .ref out] f (fun v f1 => (∃ k9 : Int32, v = some (.int k9)) ∧ CW G f1 xo ez eo bu nw0 na0 nq0 nr0 nw1 na1 nq1 nr1 bs bp bh bf bl bg gw0 ga0 gw1 ga1 mg0 mg1 n a cg x sa pk fl gv gh gl ∧ (∃ g9 : Nat → Int64, f1 out = some (.inl (cJ G, 1, .inr (.inl g9)))) ∧ hKp [out, xo, ez, eo, bu, nw0, na0, nq0, nr0, nw1, na1, nq1, nr1, bs, bp, bh, bf, bl, bg] f f1) (fun E f1 => False) := by
  refine hp_startH hl (own := RL) (by decide) rfl (Nat.le_of_ble_eq_true rfl) ?_
  intro p e s m args below meth c B0 hr htab hw hS ls hl9
  have hx := B0.1
  have hb := B0.2.1
  have hl9 : lv_has ls 5 [(0, .ref xo), (1, .int i), (2, .int o), (3, .ref out)] := hl9
  have k_xo := hC.1
  have no_xo : out ≠ xo := fun h9 => hno (by rw [h9]; simp)
  have no_ez : out ≠ ez := fun h9 => hno (by rw [h9]; simp)
  have no_eo : out ≠ eo := fun h9 => hno (by rw [h9]; simp)
  have no_bu : out ≠ bu := fun h9 => hno (by rw [h9]; simp)
  have no_nw0 : out ≠ nw0 := fun h9 => hno (by rw [h9]; simp)
  have no_na0 : out ≠ na0 := fun h9 => hno (by rw [h9]; simp)
  have no_nq0 : out ≠ nq0 := fun h9 => hno (by rw [h9]; simp)
  have no_nr0 : out ≠ nr0 := fun h9 => hno (by rw [h9]; simp)
  have no_nw1 : out ≠ nw1 := fun h9 => hno (by rw [h9]; simp)
  have no_na1 : out ≠ na1 := fun h9 => hno (by rw [h9]; simp)
  have no_nq1 : out ≠ nq1 := fun h9 => hno (by rw [h9]; simp)
  have no_nr1 : out ≠ nr1 := fun h9 => hno (by rw [h9]; simp)
  have no_bs : out ≠ bs := fun h9 => hno (by rw [h9]; simp)
  have no_bp : out ≠ bp := fun h9 => hno (by rw [h9]; simp)
  have no_bh : out ≠ bh := fun h9 => hno (by rw [h9]; simp)
  have no_bf : out ≠ bf := fun h9 => hno (by rw [h9]; simp)
  have no_bl : out ≠ bl := fun h9 => hno (by rw [h9]; simp)
  have no_bg : out ≠ bg := fun h9 => hno (by rw [h9]; simp)
  refine lv_aload_n hx hb dL_asked_0 rfl (lv_at hl9 3 rfl) ?_
  refine lv_iconst (v := 0) hx hb dL_asked_1 (by decide) ?_
  refine lv_aload_n hx hb dL_asked_2 rfl (lv_at hl9 0 rfl) ?_
  refine lv_iload_n hx hb dL_asked_3 rfl (lv_at hl9 1 rfl) ?_
  refine lv_iload_n hx hb dL_asked_4 rfl (lv_at hl9 2 rfl) ?_
  refine hp_V (ci := 4) (As := [.int i, .int o]) (rest := [.int 0, .ref out]) B0 hw hS (c_W4_asked hl G f xo ez eo bu nw0 na0 nq0 nr0 nw1 na1 nq1 nr1 bs bp bh bf bl bg gw0 ga0 gw1 ga1 mg0 mg1 n a cg x sa pk fl gv gh gl hC i o) mV_X4_asked qM_L_48 rfl k_xo rfl rfl hl9.1 (Nat.le_of_ble_eq_true rfl) ⟨⟨Nat.le_of_ble_eq_true rfl, Nat.le_of_ble_eq_true rfl⟩, Nat.le_of_ble_eq_true rfl, Nat.le_of_ble_eq_true rfl⟩ dL_asked_5 (fun E ce q9 f1 H locs hPX hw hS hce hcv hcl => ?_) (fun v f1 H locs hP hw hS => ?_)
  · obtain ⟨hE9, hC8, hk8⟩ := hPX
    subst hE9
    refine hp_catch (name := eI) B0 [] _ _ (htab.trans rfl) (fun z hz => nomatch hz) rfl (by decide) qC_L_13 oC_eI hce hcv hcl ?_
    refine W.eq (g2 := F0 m 13 ls [.ref q9]) rfl ?_
    refine lv_astore (lv' := [(4, .ref q9), (0, .ref xo), (1, .int i), (2, .int o), (3, .ref out)]) hx hb dL_asked_13 hl9 (by decide) rfl (fun ls hl9 => ?_)
    refine lv_iconst (v := 1) hx hb dL_asked_15 (by decide) ?_
    have h2 : f1 out = some (.inl (cJ G, 1, .inr (.inl go))) := hk8.1 _ _ k_out (Nat.ne_of_beq_eq_false rfl) (ninc no_xo (ninc no_ez (ninc no_eo (ninc no_bu (ninc no_nw0 (ninc no_na0 (ninc no_nq0 (ninc no_nr0 (ninc no_nw1 (ninc no_na1 (ninc no_nq1 (ninc no_nr1 (ninc no_bs (ninc no_bp (ninc no_bh (ninc no_bf (ninc no_bl (ninc no_bg nin0))))))))))))))))))
    exact hp_iret (v := 1) B0 hw hS hr ⟨Nat.le_of_ble_eq_true rfl, Nat.le_of_ble_eq_true rfl⟩ dL_asked_16 (⟨⟨_, rfl⟩, hC8, ⟨_, h2⟩, (show hKp [out, xo, ez, eo, bu, nw0, na0, nq0, nr0, nw1, na1, nq1, nr1, bs, bp, bh, bf, bl, bg] f f1 from (hk8.mono (fun x9 hx9 => by simp only [List.mem_cons, List.not_mem_nil, or_false] at hx9; rcases hx9 with hx9 | hx9 | hx9 | hx9 | hx9 | hx9 | hx9 | hx9 | hx9 | hx9 | hx9 | hx9 | hx9 | hx9 | hx9 | hx9 | hx9 | hx9 <;> (rw [hx9]; simp))))⟩)
  · obtain ⟨⟨r3, ev9⟩, hC8, hk8⟩ := hP
    subst ev9
    refine W.eq (g2 := F0 m 8 ls [.int r3, .int 0, .ref out]) rfl ?_
    refine lv_i2l (v := (r3 : Int32).toInt64) hx hb dL_asked_8 rfl ?_
    have h4 : f1 out = some (.inl (cJ G, 1, .inr (.inl go))) := hk8.1 _ _ k_out (Nat.ne_of_beq_eq_false rfl) (ninc no_xo (ninc no_ez (ninc no_eo (ninc no_bu (ninc no_nw0 (ninc no_na0 (ninc no_nq0 (ninc no_nr0 (ninc no_nw1 (ninc no_na1 (ninc no_nq1 (ninc no_nr1 (ninc no_bs (ninc no_bp (ninc no_bh (ninc no_bf (ninc no_bl (ninc no_bg nin0))))))))))))))))))
    refine hp_last B0 hw hS h4 (by unfold vp_in; decide) dL_asked_9 (fun H locs f5 ef5 hw hS => ?_)
    have h6 : f5 out = some (.inl (cJ G, 1, .inr (.inl (vp_updL go (0 : Int32).toNatClampNeg ((r3 : Int32).toInt64))))) := by rw [ef5, va_up_self]
    refine lv_goto (tgt := 17) hx hb dL_asked_10 (by decide) ?_
    refine lv_iconst (v := 0) hx hb dL_asked_17 (by decide) ?_
    exact hp_iret (v := 0) B0 hw hS hr ⟨Nat.le_of_ble_eq_true rfl, Nat.le_of_ble_eq_true rfl⟩ dL_asked_18 (⟨⟨_, rfl⟩, (CW.eq hC8 (show hEq [out] f1 f5 from (by rw [ef5]; exact hEq.up (by simp))) (fun p9 h9 h8 => hno (by rw [← List.mem_singleton.mp h8]; exact h9)) (fun b9 h9 => by rw [List.mem_singleton.mp h9]; exact ⟨_, _, h4, h6, (Nat.ne_of_beq_eq_false rfl), (Nat.ne_of_beq_eq_false rfl), (Nat.ne_of_beq_eq_false rfl)⟩)), ⟨_, h6⟩, ((show hKp [out, xo, ez, eo, bu, nw0, na0, nq0, nr0, nw1, na1, nq1, nr1, bs, bp, bh, bf, bl, bg] f f1 from (hk8.mono (fun x9 hx9 => by simp only [List.mem_cons, List.not_mem_nil, or_false] at hx9; rcases hx9 with hx9 | hx9 | hx9 | hx9 | hx9 | hx9 | hx9 | hx9 | hx9 | hx9 | hx9 | hx9 | hx9 | hx9 | hx9 | hx9 | hx9 | hx9 <;> (rw [hx9]; simp)))).tr (show hKp [out, xo, ez, eo, bu, nw0, na0, nq0, nr0, nw1, na1, nq1, nr1, bs, bp, bh, bf, bl, bg] f1 f5 from (by rw [ef5]; exact hKp.up h4 (Nat.ne_of_beq_eq_false rfl) (by simp))))⟩)

set_option maxHeartbeats 4000000 in
set_option maxRecDepth 100000 in
theorem c_L_wish {l : Launch} (hl : l.stackTraces = false) (G : hG) (f : hM) (xo ez eo bu nw0 na0 nq0 nr0 nw1 na1 nq1 nr1 bs bp bh bf bl bg : Nat) (gw0 : Nat → Int32) (ga0 : Nat → Int32) (gw1 : Nat → Int32) (ga1 : Nat → Int32) (mg0 : Int32) (mg1 : Int32) (n : Nat) (a : Nat) (cg : Nat) (x : Nat) (sa : Nat → Nat) (pk : Nat → Nat) (fl : Nat → Nat) (gv : Nat → Nat) (gh : Nat → Int32) (gl : Nat → Int32) (hC : CW G f xo ez eo bu nw0 na0 nq0 nr0 nw1 na1 nq1 nr1 bs bp bh bf bl bg gw0 ga0 gw1 ga1 mg0 mg1 n a cg x sa pk fl gv gh gl) (out : Nat) (go : Nat → Int64) (k_out : f out = some (.inl (cJ G, 1, .inr (.inl go)))) (hno : out ∉ [xo, ez, eo, bu, nw0, na0, nq0, nr0, nw1, na1, nq1, nr1, bs, bp, bh, bf, bl, bg]) (i o xv : Int32) : CT l yL_wish (.codeWith yL_wish cL_wish 6 (some .int) [(0, 12, 15, 13), (0, 12, 19, 15)]) 8 127 3 18 G [.ref xo, .int i, .int o, .int xv, .ref out] f (fun v f1 => ((spc (sE i ∧ sO o) (sV xv) = 0 ∧ v = some (.int 0) ∧ CW G f1 xo ez eo bu nw0 na0 nq0 nr0 nw1 na1 nq1 nr1 bs bp bh bf bl bg (updE (i = 0) gw0 o.toNatClampNeg xv) ga0 (updE (i = 1) gw1 o.toNatClampNeg xv) ga1 mg0 mg1 n a cg x sa pk fl gv gh gl ∧ f1 out = some (.inl (cJ G, 1, .inr (.inl (vp_updL go (0 : Int32).toNatClampNeg ((selE i gw0 gw1 o.toNatClampNeg) : Int32).toInt64))))) ∨ (¬ spc (sE i ∧ sO o) (sV xv) = 0 ∧ v = some (.int (spc (sE i ∧ sO o) (sV xv))) ∧ CW G f1 xo ez eo bu nw0 na0 nq0 nr0 nw1 na1 nq1 nr1 bs bp bh bf bl bg gw0 ga0 gw1 ga1 mg0 mg1 n a cg x sa pk fl gv gh gl ∧ ∃ g9 : Nat → Int64, f1 out = some (.inl (cJ G, 1, .inr (.inl g9))))) ∧ hKp [out, xo, ez, eo, bu, nw0, na0, nq0, nr0, nw1, na1, nq1, nr1, bs, bp, bh, bf, bl, bg] f f1) (fun E f1 => False) := by
  refine hp_startH hl (own := RL) (by decide) rfl (Nat.le_of_ble_eq_true rfl) ?_
  intro p e s m args below meth c B0 hr htab hw hS ls hl9
  have hx := B0.1
  have hb := B0.2.1
  have hl9 : lv_has ls 6 [(0, .ref xo), (1, .int i), (2, .int o), (3, .int xv), (4, .ref out)] := hl9
  have k_xo := hC.1
  have no_xo : out ≠ xo := fun h9 => hno (by rw [h9]; simp)
  have no_ez : out ≠ ez := fun h9 => hno (by rw [h9]; simp)
  have no_eo : out ≠ eo := fun h9 => hno (by rw [h9]; simp)
  have no_bu : out ≠ bu := fun h9 => hno (by rw [h9]; simp)
  have no_nw0 : out ≠ nw0 := fun h9 => hno (by rw [h9]; simp)
  have no_na0 : out ≠ na0 := fun h9 => hno (by rw [h9]; simp)
  have no_nq0 : out ≠ nq0 := fun h9 => hno (by rw [h9]; simp)
  have no_nr0 : out ≠ nr0 := fun h9 => hno (by rw [h9]; simp)
  have no_nw1 : out ≠ nw1 := fun h9 => hno (by rw [h9]; simp)
  have no_na1 : out ≠ na1 := fun h9 => hno (by rw [h9]; simp)
  have no_nq1 : out ≠ nq1 := fun h9 => hno (by rw [h9]; simp)
  have no_nr1 : out ≠ nr1 := fun h9 => hno (by rw [h9]; simp)
  have no_bs : out ≠ bs := fun h9 => hno (by rw [h9]; simp)
  have no_bp : out ≠ bp := fun h9 => hno (by rw [h9]; simp)
  have no_bh : out ≠ bh := fun h9 => hno (by rw [h9]; simp)
  have no_bf : out ≠ bf := fun h9 => hno (by rw [h9]; simp)
  have no_bl : out ≠ bl := fun h9 => hno (by rw [h9]; simp)
  have no_bg : out ≠ bg := fun h9 => hno (by rw [h9]; simp)
  refine lv_aload hx hb dL_wish_0 (lv_at hl9 4 rfl) ?_
  refine lv_iconst (v := 0) hx hb dL_wish_2 (by decide) ?_
  refine lv_aload_n hx hb dL_wish_3 rfl (lv_at hl9 0 rfl) ?_
  refine lv_iload_n hx hb dL_wish_4 rfl (lv_at hl9 1 rfl) ?_
  refine lv_iload_n hx hb dL_wish_5 rfl (lv_at hl9 2 rfl) ?_
  refine lv_iload_n hx hb dL_wish_6 rfl (lv_at hl9 3 rfl) ?_
  refine hp_V (ci := 4) (As := [.int i, .int o, .int xv]) (rest := [.int 0, .ref out]) B0 hw hS (c_W4_wish hl G f xo ez eo bu nw0 na0 nq0 nr0 nw1 na1 nq1 nr1 bs bp bh bf bl bg gw0 ga0 gw1 ga1 mg0 mg1 n a cg x sa pk fl gv gh gl hC i o xv) mV_X4_wish qM_L_7 rfl k_xo rfl rfl hl9.1 (Nat.le_of_ble_eq_true rfl) ⟨⟨Nat.le_of_ble_eq_true rfl, Nat.le_of_ble_eq_true rfl⟩, Nat.le_of_ble_eq_true rfl, Nat.le_of_ble_eq_true rfl⟩ dL_wish_7 (fun E ce q9 f1 H locs hPX hw hS hce hcv hcl => ?_) (fun v f1 H locs hP hw hS => ?_)
  · obtain ⟨hE9, hC8, hk8⟩ := hPX
    rcases hE9 with ⟨eE9, hz8⟩ | ⟨eE9, hz8⟩
    · subst eE9
      refine hp_catch (name := eI) B0 [] _ _ (htab.trans rfl) (fun z hz => nomatch hz) rfl (by decide) qC_L_13 oC_eI hce hcv hcl ?_
      refine W.eq (g2 := F0 m 15 ls [.ref q9]) rfl ?_
      refine lv_astore (lv' := [(5, .ref q9), (0, .ref xo), (1, .int i), (2, .int o), (3, .int xv), (4, .ref out)]) hx hb dL_wish_15 hl9 (by decide) rfl (fun ls hl9 => ?_)
      refine lv_iconst (v := 1) hx hb dL_wish_17 (by decide) ?_
      have h2 : f1 out = some (.inl (cJ G, 1, .inr (.inl go))) := hk8.1 _ _ k_out (Nat.ne_of_beq_eq_false rfl) (ninc no_xo (ninc no_ez (ninc no_eo (ninc no_bu (ninc no_nw0 (ninc no_na0 (ninc no_nq0 (ninc no_nr0 (ninc no_nw1 (ninc no_na1 (ninc no_nq1 (ninc no_nr1 (ninc no_bs (ninc no_bp (ninc no_bh (ninc no_bf (ninc no_bl (ninc no_bg nin0))))))))))))))))))
      exact hp_iret (v := 1) B0 hw hS hr ⟨Nat.le_of_ble_eq_true rfl, Nat.le_of_ble_eq_true rfl⟩ dL_wish_18 (⟨Or.inr ⟨(by rw [hz8]; decide), (by rw [hz8]), hC8, ⟨_, h2⟩⟩, (show hKp [out, xo, ez, eo, bu, nw0, na0, nq0, nr0, nw1, na1, nq1, nr1, bs, bp, bh, bf, bl, bg] f f1 from (hk8.mono (fun x9 hx9 => by simp only [List.mem_cons, List.not_mem_nil, or_false] at hx9; rcases hx9 with hx9 | hx9 | hx9 | hx9 | hx9 | hx9 | hx9 | hx9 | hx9 | hx9 | hx9 | hx9 | hx9 | hx9 | hx9 | hx9 | hx9 | hx9 <;> (rw [hx9]; simp))))⟩)
    · subst eE9
      refine hp_catch (name := eA) B0 [_] _ _ (htab.trans rfl) (fun z hz => Or.inr (by rcases List.mem_singleton.mp hz with rfl; exact ⟨by decide, eI, qC_L_13, List.mem_of_getElem? (i := 2) rfl⟩)) rfl (by decide) qC_L_15 oC_eA hce hcv hcl ?_
      refine W.eq (g2 := F0 m 19 ls [.ref q9]) rfl ?_
      refine lv_astore (lv' := [(5, .ref q9), (0, .ref xo), (1, .int i), (2, .int o), (3, .int xv), (4, .ref out)]) hx hb dL_wish_19 hl9 (by decide) rfl (fun ls hl9 => ?_)
      refine lv_iconst (v := 2) hx hb dL_wish_21 (by decide) ?_
      have h3 : f1 out = some (.inl (cJ G, 1, .inr (.inl go))) := hk8.1 _ _ k_out (Nat.ne_of_beq_eq_false rfl) (ninc no_xo (ninc no_ez (ninc no_eo (ninc no_bu (ninc no_nw0 (ninc no_na0 (ninc no_nq0 (ninc no_nr0 (ninc no_nw1 (ninc no_na1 (ninc no_nq1 (ninc no_nr1 (ninc no_bs (ninc no_bp (ninc no_bh (ninc no_bf (ninc no_bl (ninc no_bg nin0))))))))))))))))))
      exact hp_iret (v := 2) B0 hw hS hr ⟨Nat.le_of_ble_eq_true rfl, Nat.le_of_ble_eq_true rfl⟩ dL_wish_22 (⟨Or.inr ⟨(by rw [hz8]; decide), (by rw [hz8]), hC8, ⟨_, h3⟩⟩, (show hKp [out, xo, ez, eo, bu, nw0, na0, nq0, nr0, nw1, na1, nq1, nr1, bs, bp, bh, bf, bl, bg] f f1 from (hk8.mono (fun x9 hx9 => by simp only [List.mem_cons, List.not_mem_nil, or_false] at hx9; rcases hx9 with hx9 | hx9 | hx9 | hx9 | hx9 | hx9 | hx9 | hx9 | hx9 | hx9 | hx9 | hx9 | hx9 | hx9 | hx9 | hx9 | hx9 | hx9 <;> (rw [hx9]; simp))))⟩)
  · obtain ⟨hz8, ev9, hC8, hk8⟩ := hP
    subst ev9
    refine W.eq (g2 := F0 m 10 ls [.int (selE i gw0 gw1 o.toNatClampNeg), .int 0, .ref out]) rfl ?_
    refine lv_i2l (v := ((selE i gw0 gw1 o.toNatClampNeg) : Int32).toInt64) hx hb dL_wish_10 rfl ?_
    have h4 : f1 out = some (.inl (cJ G, 1, .inr (.inl go))) := hk8.1 _ _ k_out (Nat.ne_of_beq_eq_false rfl) (ninc no_xo (ninc no_ez (ninc no_eo (ninc no_bu (ninc no_nw0 (ninc no_na0 (ninc no_nq0 (ninc no_nr0 (ninc no_nw1 (ninc no_na1 (ninc no_nq1 (ninc no_nr1 (ninc no_bs (ninc no_bp (ninc no_bh (ninc no_bf (ninc no_bl (ninc no_bg nin0))))))))))))))))))
    refine hp_last B0 hw hS h4 (by unfold vp_in; decide) dL_wish_11 (fun H locs f5 ef5 hw hS => ?_)
    have h6 : f5 out = some (.inl (cJ G, 1, .inr (.inl (vp_updL go (0 : Int32).toNatClampNeg (((selE i gw0 gw1 o.toNatClampNeg) : Int32).toInt64))))) := by rw [ef5, va_up_self]
    refine lv_goto (tgt := 23) hx hb dL_wish_12 (by decide) ?_
    refine lv_iconst (v := 0) hx hb dL_wish_23 (by decide) ?_
    exact hp_iret (v := 0) B0 hw hS hr ⟨Nat.le_of_ble_eq_true rfl, Nat.le_of_ble_eq_true rfl⟩ dL_wish_24 (⟨Or.inl ⟨hz8, rfl, (CW.eq hC8 (show hEq [out] f1 f5 from (by rw [ef5]; exact hEq.up (by simp))) (fun p9 h9 h8 => hno (by rw [← List.mem_singleton.mp h8]; exact h9)) (fun b9 h9 => by rw [List.mem_singleton.mp h9]; exact ⟨_, _, h4, h6, (Nat.ne_of_beq_eq_false rfl), (Nat.ne_of_beq_eq_false rfl), (Nat.ne_of_beq_eq_false rfl)⟩)), h6⟩, ((show hKp [out, xo, ez, eo, bu, nw0, na0, nq0, nr0, nw1, na1, nq1, nr1, bs, bp, bh, bf, bl, bg] f f1 from (hk8.mono (fun x9 hx9 => by simp only [List.mem_cons, List.not_mem_nil, or_false] at hx9; rcases hx9 with hx9 | hx9 | hx9 | hx9 | hx9 | hx9 | hx9 | hx9 | hx9 | hx9 | hx9 | hx9 | hx9 | hx9 | hx9 | hx9 | hx9 | hx9 <;> (rw [hx9]; simp)))).tr (show hKp [out, xo, ez, eo, bu, nw0, na0, nq0, nr0, nw1, na1, nq1, nr1, bs, bp, bh, bf, bl, bg] f1 f5 from (by rw [ef5]; exact hKp.up h4 (Nat.ne_of_beq_eq_false rfl) (by simp))))⟩)

set_option maxHeartbeats 4000000 in
set_option maxRecDepth 100000 in
theorem c_L_allow {l : Launch} (hl : l.stackTraces = false) (G : hG) (f : hM) (xo ez eo bu nw0 na0 nq0 nr0 nw1 na1 nq1 nr1 bs bp bh bf bl bg : Nat) (gw0 : Nat → Int32) (ga0 : Nat → Int32) (gw1 : Nat → Int32) (ga1 : Nat → Int32) (mg0 : Int32) (mg1 : Int32) (n : Nat) (a : Nat) (cg : Nat) (x : Nat) (sa : Nat → Nat) (pk : Nat → Nat) (fl : Nat → Nat) (gv : Nat → Nat) (gh : Nat → Int32) (gl : Nat → Int32) (hC : CW G f xo ez eo bu nw0 na0 nq0 nr0 nw1 na1 nq1 nr1 bs bp bh bf bl bg gw0 ga0 gw1 ga1 mg0 mg1 n a cg x sa pk fl gv gh gl) (out : Nat) (go : Nat → Int64) (k_out : f out = some (.inl (cJ G, 1, .inr (.inl go)))) (hno : out ∉ [xo, ez, eo, bu, nw0, na0, nq0, nr0, nw1, na1, nq1, nr1, bs, bp, bh, bf, bl, bg]) (i o xv : Int32) : CT l yL_allow (.codeWith yL_allow cL_allow 6 (some .int) [(0, 12, 15, 13), (0, 12, 19, 15)]) 8 127 3 18 G [.ref xo, .int i, .int o, .int xv, .ref out] f (fun v f1 => ((spc (sE i ∧ sO o) (sA xv) = 0 ∧ v = some (.int 0) ∧ CW G f1 xo ez eo bu nw0 na0 nq0 nr0 nw1 na1 nq1 nr1 bs bp bh bf bl bg gw0 (updE (i = 0) ga0 o.toNatClampNeg xv) gw1 (updE (i = 1) ga1 o.toNatClampNeg xv) mg0 mg1 n a cg x sa pk fl gv gh gl ∧ f1 out = some (.inl (cJ G, 1, .inr (.inl (vp_updL go (0 : Int32).toNatClampNeg ((selE i ga0 ga1 o.toNatClampNeg) : Int32).toInt64))))) ∨ (¬ spc (sE i ∧ sO o) (sA xv) = 0 ∧ v = some (.int (spc (sE i ∧ sO o) (sA xv))) ∧ CW G f1 xo ez eo bu nw0 na0 nq0 nr0 nw1 na1 nq1 nr1 bs bp bh bf bl bg gw0 ga0 gw1 ga1 mg0 mg1 n a cg x sa pk fl gv gh gl ∧ ∃ g9 : Nat → Int64, f1 out = some (.inl (cJ G, 1, .inr (.inl g9))))) ∧ hKp [out, xo, ez, eo, bu, nw0, na0, nq0, nr0, nw1, na1, nq1, nr1, bs, bp, bh, bf, bl, bg] f f1) (fun E f1 => False) := by
  refine hp_startH hl (own := RL) (by decide) rfl (Nat.le_of_ble_eq_true rfl) ?_
  intro p e s m args below meth c B0 hr htab hw hS ls hl9
  have hx := B0.1
  have hb := B0.2.1
  have hl9 : lv_has ls 6 [(0, .ref xo), (1, .int i), (2, .int o), (3, .int xv), (4, .ref out)] := hl9
  have k_xo := hC.1
  have no_xo : out ≠ xo := fun h9 => hno (by rw [h9]; simp)
  have no_ez : out ≠ ez := fun h9 => hno (by rw [h9]; simp)
  have no_eo : out ≠ eo := fun h9 => hno (by rw [h9]; simp)
  have no_bu : out ≠ bu := fun h9 => hno (by rw [h9]; simp)
  have no_nw0 : out ≠ nw0 := fun h9 => hno (by rw [h9]; simp)
  have no_na0 : out ≠ na0 := fun h9 => hno (by rw [h9]; simp)
  have no_nq0 : out ≠ nq0 := fun h9 => hno (by rw [h9]; simp)
  have no_nr0 : out ≠ nr0 := fun h9 => hno (by rw [h9]; simp)
  have no_nw1 : out ≠ nw1 := fun h9 => hno (by rw [h9]; simp)
  have no_na1 : out ≠ na1 := fun h9 => hno (by rw [h9]; simp)
  have no_nq1 : out ≠ nq1 := fun h9 => hno (by rw [h9]; simp)
  have no_nr1 : out ≠ nr1 := fun h9 => hno (by rw [h9]; simp)
  have no_bs : out ≠ bs := fun h9 => hno (by rw [h9]; simp)
  have no_bp : out ≠ bp := fun h9 => hno (by rw [h9]; simp)
  have no_bh : out ≠ bh := fun h9 => hno (by rw [h9]; simp)
  have no_bf : out ≠ bf := fun h9 => hno (by rw [h9]; simp)
  have no_bl : out ≠ bl := fun h9 => hno (by rw [h9]; simp)
  have no_bg : out ≠ bg := fun h9 => hno (by rw [h9]; simp)
  refine lv_aload hx hb dL_allow_0 (lv_at hl9 4 rfl) ?_
  refine lv_iconst (v := 0) hx hb dL_allow_2 (by decide) ?_
  refine lv_aload_n hx hb dL_allow_3 rfl (lv_at hl9 0 rfl) ?_
  refine lv_iload_n hx hb dL_allow_4 rfl (lv_at hl9 1 rfl) ?_
  refine lv_iload_n hx hb dL_allow_5 rfl (lv_at hl9 2 rfl) ?_
  refine lv_iload_n hx hb dL_allow_6 rfl (lv_at hl9 3 rfl) ?_
  refine hp_V (ci := 4) (As := [.int i, .int o, .int xv]) (rest := [.int 0, .ref out]) B0 hw hS (c_W4_allow hl G f xo ez eo bu nw0 na0 nq0 nr0 nw1 na1 nq1 nr1 bs bp bh bf bl bg gw0 ga0 gw1 ga1 mg0 mg1 n a cg x sa pk fl gv gh gl hC i o xv) mV_X4_allow qM_L_17 rfl k_xo rfl rfl hl9.1 (Nat.le_of_ble_eq_true rfl) ⟨⟨Nat.le_of_ble_eq_true rfl, Nat.le_of_ble_eq_true rfl⟩, Nat.le_of_ble_eq_true rfl, Nat.le_of_ble_eq_true rfl⟩ dL_allow_7 (fun E ce q9 f1 H locs hPX hw hS hce hcv hcl => ?_) (fun v f1 H locs hP hw hS => ?_)
  · obtain ⟨hE9, hC8, hk8⟩ := hPX
    rcases hE9 with ⟨eE9, hz8⟩ | ⟨eE9, hz8⟩
    · subst eE9
      refine hp_catch (name := eI) B0 [] _ _ (htab.trans rfl) (fun z hz => nomatch hz) rfl (by decide) qC_L_13 oC_eI hce hcv hcl ?_
      refine W.eq (g2 := F0 m 15 ls [.ref q9]) rfl ?_
      refine lv_astore (lv' := [(5, .ref q9), (0, .ref xo), (1, .int i), (2, .int o), (3, .int xv), (4, .ref out)]) hx hb dL_allow_15 hl9 (by decide) rfl (fun ls hl9 => ?_)
      refine lv_iconst (v := 1) hx hb dL_allow_17 (by decide) ?_
      have h2 : f1 out = some (.inl (cJ G, 1, .inr (.inl go))) := hk8.1 _ _ k_out (Nat.ne_of_beq_eq_false rfl) (ninc no_xo (ninc no_ez (ninc no_eo (ninc no_bu (ninc no_nw0 (ninc no_na0 (ninc no_nq0 (ninc no_nr0 (ninc no_nw1 (ninc no_na1 (ninc no_nq1 (ninc no_nr1 (ninc no_bs (ninc no_bp (ninc no_bh (ninc no_bf (ninc no_bl (ninc no_bg nin0))))))))))))))))))
      exact hp_iret (v := 1) B0 hw hS hr ⟨Nat.le_of_ble_eq_true rfl, Nat.le_of_ble_eq_true rfl⟩ dL_allow_18 (⟨Or.inr ⟨(by rw [hz8]; decide), (by rw [hz8]), hC8, ⟨_, h2⟩⟩, (show hKp [out, xo, ez, eo, bu, nw0, na0, nq0, nr0, nw1, na1, nq1, nr1, bs, bp, bh, bf, bl, bg] f f1 from (hk8.mono (fun x9 hx9 => by simp only [List.mem_cons, List.not_mem_nil, or_false] at hx9; rcases hx9 with hx9 | hx9 | hx9 | hx9 | hx9 | hx9 | hx9 | hx9 | hx9 | hx9 | hx9 | hx9 | hx9 | hx9 | hx9 | hx9 | hx9 | hx9 <;> (rw [hx9]; simp))))⟩)
    · subst eE9
      refine hp_catch (name := eA) B0 [_] _ _ (htab.trans rfl) (fun z hz => Or.inr (by rcases List.mem_singleton.mp hz with rfl; exact ⟨by decide, eI, qC_L_13, List.mem_of_getElem? (i := 2) rfl⟩)) rfl (by decide) qC_L_15 oC_eA hce hcv hcl ?_
      refine W.eq (g2 := F0 m 19 ls [.ref q9]) rfl ?_
      refine lv_astore (lv' := [(5, .ref q9), (0, .ref xo), (1, .int i), (2, .int o), (3, .int xv), (4, .ref out)]) hx hb dL_allow_19 hl9 (by decide) rfl (fun ls hl9 => ?_)
      refine lv_iconst (v := 2) hx hb dL_allow_21 (by decide) ?_
      have h3 : f1 out = some (.inl (cJ G, 1, .inr (.inl go))) := hk8.1 _ _ k_out (Nat.ne_of_beq_eq_false rfl) (ninc no_xo (ninc no_ez (ninc no_eo (ninc no_bu (ninc no_nw0 (ninc no_na0 (ninc no_nq0 (ninc no_nr0 (ninc no_nw1 (ninc no_na1 (ninc no_nq1 (ninc no_nr1 (ninc no_bs (ninc no_bp (ninc no_bh (ninc no_bf (ninc no_bl (ninc no_bg nin0))))))))))))))))))
      exact hp_iret (v := 2) B0 hw hS hr ⟨Nat.le_of_ble_eq_true rfl, Nat.le_of_ble_eq_true rfl⟩ dL_allow_22 (⟨Or.inr ⟨(by rw [hz8]; decide), (by rw [hz8]), hC8, ⟨_, h3⟩⟩, (show hKp [out, xo, ez, eo, bu, nw0, na0, nq0, nr0, nw1, na1, nq1, nr1, bs, bp, bh, bf, bl, bg] f f1 from (hk8.mono (fun x9 hx9 => by simp only [List.mem_cons, List.not_mem_nil, or_false] at hx9; rcases hx9 with hx9 | hx9 | hx9 | hx9 | hx9 | hx9 | hx9 | hx9 | hx9 | hx9 | hx9 | hx9 | hx9 | hx9 | hx9 | hx9 | hx9 | hx9 <;> (rw [hx9]; simp))))⟩)
  · obtain ⟨hz8, ev9, hC8, hk8⟩ := hP
    subst ev9
    refine W.eq (g2 := F0 m 10 ls [.int (selE i ga0 ga1 o.toNatClampNeg), .int 0, .ref out]) rfl ?_
    refine lv_i2l (v := ((selE i ga0 ga1 o.toNatClampNeg) : Int32).toInt64) hx hb dL_allow_10 rfl ?_
    have h4 : f1 out = some (.inl (cJ G, 1, .inr (.inl go))) := hk8.1 _ _ k_out (Nat.ne_of_beq_eq_false rfl) (ninc no_xo (ninc no_ez (ninc no_eo (ninc no_bu (ninc no_nw0 (ninc no_na0 (ninc no_nq0 (ninc no_nr0 (ninc no_nw1 (ninc no_na1 (ninc no_nq1 (ninc no_nr1 (ninc no_bs (ninc no_bp (ninc no_bh (ninc no_bf (ninc no_bl (ninc no_bg nin0))))))))))))))))))
    refine hp_last B0 hw hS h4 (by unfold vp_in; decide) dL_allow_11 (fun H locs f5 ef5 hw hS => ?_)
    have h6 : f5 out = some (.inl (cJ G, 1, .inr (.inl (vp_updL go (0 : Int32).toNatClampNeg (((selE i ga0 ga1 o.toNatClampNeg) : Int32).toInt64))))) := by rw [ef5, va_up_self]
    refine lv_goto (tgt := 23) hx hb dL_allow_12 (by decide) ?_
    refine lv_iconst (v := 0) hx hb dL_allow_23 (by decide) ?_
    exact hp_iret (v := 0) B0 hw hS hr ⟨Nat.le_of_ble_eq_true rfl, Nat.le_of_ble_eq_true rfl⟩ dL_allow_24 (⟨Or.inl ⟨hz8, rfl, (CW.eq hC8 (show hEq [out] f1 f5 from (by rw [ef5]; exact hEq.up (by simp))) (fun p9 h9 h8 => hno (by rw [← List.mem_singleton.mp h8]; exact h9)) (fun b9 h9 => by rw [List.mem_singleton.mp h9]; exact ⟨_, _, h4, h6, (Nat.ne_of_beq_eq_false rfl), (Nat.ne_of_beq_eq_false rfl), (Nat.ne_of_beq_eq_false rfl)⟩)), h6⟩, ((show hKp [out, xo, ez, eo, bu, nw0, na0, nq0, nr0, nw1, na1, nq1, nr1, bs, bp, bh, bf, bl, bg] f f1 from (hk8.mono (fun x9 hx9 => by simp only [List.mem_cons, List.not_mem_nil, or_false] at hx9; rcases hx9 with hx9 | hx9 | hx9 | hx9 | hx9 | hx9 | hx9 | hx9 | hx9 | hx9 | hx9 | hx9 | hx9 | hx9 | hx9 | hx9 | hx9 | hx9 <;> (rw [hx9]; simp)))).tr (show hKp [out, xo, ez, eo, bu, nw0, na0, nq0, nr0, nw1, na1, nq1, nr1, bs, bp, bh, bf, bl, bg] f1 f5 from (by rw [ef5]; exact hKp.up h4 (Nat.ne_of_beq_eq_false rfl) (by simp))))⟩)

set_option maxHeartbeats 4000000 in
set_option maxRecDepth 100000 in
theorem c_L_setMagic {l : Launch} (hl : l.stackTraces = false) (G : hG) (f : hM) (xo ez eo bu nw0 na0 nq0 nr0 nw1 na1 nq1 nr1 bs bp bh bf bl bg : Nat) (gw0 : Nat → Int32) (ga0 : Nat → Int32) (gw1 : Nat → Int32) (ga1 : Nat → Int32) (mg0 : Int32) (mg1 : Int32) (n : Nat) (a : Nat) (cg : Nat) (x : Nat) (sa : Nat → Nat) (pk : Nat → Nat) (fl : Nat → Nat) (gv : Nat → Nat) (gh : Nat → Int32) (gl : Nat → Int32) (hC : CW G f xo ez eo bu nw0 na0 nq0 nr0 nw1 na1 nq1 nr1 bs bp bh bf bl bg gw0 ga0 gw1 ga1 mg0 mg1 n a cg x sa pk fl gv gh gl) (out : Nat) (go : Nat → Int64) (k_out : f out = some (.inl (cJ G, 1, .inr (.inl go)))) (hno : out ∉ [xo, ez, eo, bu, nw0, na0, nq0, nr0, nw1, na1, nq1, nr1, bs, bp, bh, bf, bl, bg]) (i xv : Int32) : CT l yL_setMagic (.codeWith yL_setMagic cL_setMagic 5 (some .int) [(0, 10, 13, 13)]) 8 125 1 6 G [.ref xo, .int i, .int xv, .ref out] f (fun v f1 => ((spc (sE i) True = 0 ∧ v = some (.int 0) ∧ CW G f1 xo ez eo bu nw0 na0 nq0 nr0 nw1 na1 nq1 nr1 bs bp bh bf bl bg gw0 ga0 gw1 ga1 (if i = 0 then xv else mg0) (if i = 1 then xv else mg1) n a cg x sa pk fl gv gh gl ∧ f1 out = some (.inl (cJ G, 1, .inr (.inl (vp_updL go (0 : Int32).toNatClampNeg ((if i = 0 then mg0 else mg1) : Int32).toInt64))))) ∨ (¬ spc (sE i) True = 0 ∧ v = some (.int (spc (sE i) True)) ∧ CW G f1 xo ez eo bu nw0 na0 nq0 nr0 nw1 na1 nq1 nr1 bs bp bh bf bl bg gw0 ga0 gw1 ga1 mg0 mg1 n a cg x sa pk fl gv gh gl ∧ ∃ g9 : Nat → Int64, f1 out = some (.inl (cJ G, 1, .inr (.inl g9))))) ∧ hKp [out, xo, ez, eo, bu, nw0, na0, nq0, nr0, nw1, na1, nq1, nr1, bs, bp, bh, bf, bl, bg] f f1) (fun E f1 => False) := by
  refine hp_startH hl (own := RL) (by decide) rfl (Nat.le_of_ble_eq_true rfl) ?_
  intro p e s m args below meth c B0 hr htab hw hS ls hl9
  have hx := B0.1
  have hb := B0.2.1
  have hl9 : lv_has ls 5 [(0, .ref xo), (1, .int i), (2, .int xv), (3, .ref out)] := hl9
  have k_xo := hC.1
  have no_xo : out ≠ xo := fun h9 => hno (by rw [h9]; simp)
  have no_ez : out ≠ ez := fun h9 => hno (by rw [h9]; simp)
  have no_eo : out ≠ eo := fun h9 => hno (by rw [h9]; simp)
  have no_bu : out ≠ bu := fun h9 => hno (by rw [h9]; simp)
  have no_nw0 : out ≠ nw0 := fun h9 => hno (by rw [h9]; simp)
  have no_na0 : out ≠ na0 := fun h9 => hno (by rw [h9]; simp)
  have no_nq0 : out ≠ nq0 := fun h9 => hno (by rw [h9]; simp)
  have no_nr0 : out ≠ nr0 := fun h9 => hno (by rw [h9]; simp)
  have no_nw1 : out ≠ nw1 := fun h9 => hno (by rw [h9]; simp)
  have no_na1 : out ≠ na1 := fun h9 => hno (by rw [h9]; simp)
  have no_nq1 : out ≠ nq1 := fun h9 => hno (by rw [h9]; simp)
  have no_nr1 : out ≠ nr1 := fun h9 => hno (by rw [h9]; simp)
  have no_bs : out ≠ bs := fun h9 => hno (by rw [h9]; simp)
  have no_bp : out ≠ bp := fun h9 => hno (by rw [h9]; simp)
  have no_bh : out ≠ bh := fun h9 => hno (by rw [h9]; simp)
  have no_bf : out ≠ bf := fun h9 => hno (by rw [h9]; simp)
  have no_bl : out ≠ bl := fun h9 => hno (by rw [h9]; simp)
  have no_bg : out ≠ bg := fun h9 => hno (by rw [h9]; simp)
  refine lv_aload_n hx hb dL_setMagic_0 rfl (lv_at hl9 3 rfl) ?_
  refine lv_iconst (v := 0) hx hb dL_setMagic_1 (by decide) ?_
  refine lv_aload_n hx hb dL_setMagic_2 rfl (lv_at hl9 0 rfl) ?_
  refine lv_iload_n hx hb dL_setMagic_3 rfl (lv_at hl9 1 rfl) ?_
  refine lv_iload_n hx hb dL_setMagic_4 rfl (lv_at hl9 2 rfl) ?_
  refine hp_V (ci := 4) (As := [.int i, .int xv]) (rest := [.int 0, .ref out]) B0 hw hS (c_W4_setMagic hl G f xo ez eo bu nw0 na0 nq0 nr0 nw1 na1 nq1 nr1 bs bp bh bf bl bg gw0 ga0 gw1 ga1 mg0 mg1 n a cg x sa pk fl gv gh gl hC i xv) mV_X4_setMagic qM_L_20 rfl k_xo rfl rfl hl9.1 (Nat.le_of_ble_eq_true rfl) ⟨⟨Nat.le_of_ble_eq_true rfl, Nat.le_of_ble_eq_true rfl⟩, Nat.le_of_ble_eq_true rfl, Nat.le_of_ble_eq_true rfl⟩ dL_setMagic_5 (fun E ce q9 f1 H locs hPX hw hS hce hcv hcl => ?_) (fun v f1 H locs hP hw hS => ?_)
  · obtain ⟨hE9, hC8, hk8⟩ := hPX
    obtain ⟨eE9, hz8⟩ := hE9
    subst eE9
    refine hp_catch (name := eI) B0 [] _ _ (htab.trans rfl) (fun z hz => nomatch hz) rfl (by decide) qC_L_13 oC_eI hce hcv hcl ?_
    refine W.eq (g2 := F0 m 13 ls [.ref q9]) rfl ?_
    refine lv_astore (lv' := [(4, .ref q9), (0, .ref xo), (1, .int i), (2, .int xv), (3, .ref out)]) hx hb dL_setMagic_13 hl9 (by decide) rfl (fun ls hl9 => ?_)
    refine lv_iconst (v := 1) hx hb dL_setMagic_15 (by decide) ?_
    have h2 : f1 out = some (.inl (cJ G, 1, .inr (.inl go))) := hk8.1 _ _ k_out (Nat.ne_of_beq_eq_false rfl) (ninc no_xo (ninc no_ez (ninc no_eo (ninc no_bu (ninc no_nw0 (ninc no_na0 (ninc no_nq0 (ninc no_nr0 (ninc no_nw1 (ninc no_na1 (ninc no_nq1 (ninc no_nr1 (ninc no_bs (ninc no_bp (ninc no_bh (ninc no_bf (ninc no_bl (ninc no_bg nin0))))))))))))))))))
    exact hp_iret (v := 1) B0 hw hS hr ⟨Nat.le_of_ble_eq_true rfl, Nat.le_of_ble_eq_true rfl⟩ dL_setMagic_16 (⟨Or.inr ⟨(by rw [hz8]; decide), (by rw [hz8]), hC8, ⟨_, h2⟩⟩, (show hKp [out, xo, ez, eo, bu, nw0, na0, nq0, nr0, nw1, na1, nq1, nr1, bs, bp, bh, bf, bl, bg] f f1 from (hk8.mono (fun x9 hx9 => by simp only [List.mem_cons, List.not_mem_nil, or_false] at hx9; rcases hx9 with hx9 | hx9 | hx9 | hx9 | hx9 | hx9 | hx9 | hx9 | hx9 | hx9 | hx9 | hx9 | hx9 | hx9 | hx9 | hx9 | hx9 | hx9 <;> (rw [hx9]; simp))))⟩)
  · obtain ⟨hz8, ev9, hC8, hk8⟩ := hP
    subst ev9
    refine W.eq (g2 := F0 m 8 ls [.int (if i = 0 then mg0 else mg1), .int 0, .ref out]) rfl ?_
    refine lv_i2l (v := ((if i = 0 then mg0 else mg1) : Int32).toInt64) hx hb dL_setMagic_8 rfl ?_
    have h3 : f1 out = some (.inl (cJ G, 1, .inr (.inl go))) := hk8.1 _ _ k_out (Nat.ne_of_beq_eq_false rfl) (ninc no_xo (ninc no_ez (ninc no_eo (ninc no_bu (ninc no_nw0 (ninc no_na0 (ninc no_nq0 (ninc no_nr0 (ninc no_nw1 (ninc no_na1 (ninc no_nq1 (ninc no_nr1 (ninc no_bs (ninc no_bp (ninc no_bh (ninc no_bf (ninc no_bl (ninc no_bg nin0))))))))))))))))))
    refine hp_last B0 hw hS h3 (by unfold vp_in; decide) dL_setMagic_9 (fun H locs f4 ef4 hw hS => ?_)
    have h5 : f4 out = some (.inl (cJ G, 1, .inr (.inl (vp_updL go (0 : Int32).toNatClampNeg (((if i = 0 then mg0 else mg1) : Int32).toInt64))))) := by rw [ef4, va_up_self]
    refine lv_goto (tgt := 17) hx hb dL_setMagic_10 (by decide) ?_
    refine lv_iconst (v := 0) hx hb dL_setMagic_17 (by decide) ?_
    exact hp_iret (v := 0) B0 hw hS hr ⟨Nat.le_of_ble_eq_true rfl, Nat.le_of_ble_eq_true rfl⟩ dL_setMagic_18 (⟨Or.inl ⟨hz8, rfl, (CW.eq hC8 (show hEq [out] f1 f4 from (by rw [ef4]; exact hEq.up (by simp))) (fun p9 h9 h8 => hno (by rw [← List.mem_singleton.mp h8]; exact h9)) (fun b9 h9 => by rw [List.mem_singleton.mp h9]; exact ⟨_, _, h3, h5, (Nat.ne_of_beq_eq_false rfl), (Nat.ne_of_beq_eq_false rfl), (Nat.ne_of_beq_eq_false rfl)⟩)), h5⟩, ((show hKp [out, xo, ez, eo, bu, nw0, na0, nq0, nr0, nw1, na1, nq1, nr1, bs, bp, bh, bf, bl, bg] f f1 from (hk8.mono (fun x9 hx9 => by simp only [List.mem_cons, List.not_mem_nil, or_false] at hx9; rcases hx9 with hx9 | hx9 | hx9 | hx9 | hx9 | hx9 | hx9 | hx9 | hx9 | hx9 | hx9 | hx9 | hx9 | hx9 | hx9 | hx9 | hx9 | hx9 <;> (rw [hx9]; simp)))).tr (show hKp [out, xo, ez, eo, bu, nw0, na0, nq0, nr0, nw1, na1, nq1, nr1, bs, bp, bh, bf, bl, bg] f1 f4 from (by rw [ef4]; exact hKp.up h3 (Nat.ne_of_beq_eq_false rfl) (by simp))))⟩)

set_option maxHeartbeats 4000000 in
set_option maxRecDepth 100000 in
theorem c_L_send {l : Launch} (hl : l.stackTraces = false) (G : hG) (f : hM) (xo ez eo bu nw0 na0 nq0 nr0 nw1 na1 nq1 nr1 bs bp bh bf bl bg : Nat) (gw0 : Nat → Int32) (ga0 : Nat → Int32) (gw1 : Nat → Int32) (ga1 : Nat → Int32) (mg0 : Int32) (mg1 : Int32) (n : Nat) (a : Nat) (cg : Nat) (x : Nat) (sa : Nat → Nat) (pk : Nat → Nat) (fl : Nat → Nat) (gv : Nat → Nat) (gh : Nat → Int32) (gl : Nat → Int32) (hC : CW G f xo ez eo bu nw0 na0 nq0 nr0 nw1 na1 nq1 nr1 bs bp bh bf bl bg gw0 ga0 gw1 ga1 mg0 mg1 n a cg x sa pk fl gv gh gl) (out : Nat) (go : Nat → Int64) (k_out : f out = some (.inl (cJ G, 1, .inr (.inl go)))) (hno : out ∉ [xo, ez, eo, bu, nw0, na0, nq0, nr0, nw1, na1, nq1, nr1, bs, bp, bh, bf, bl, bg]) (xv : Int32) : CT l yL_send (.codeWith yL_send cL_send 4 (some .int) [(0, 9, 12, 15), (0, 9, 15, 28)]) 7 103 1 6 G [.ref xo, .int xv, .ref out] f (fun v f1 => ((spc (sP xv) (n < 60) = 0 ∧ v = some (.int 0) ∧ CW G f1 xo ez eo bu nw0 na0 nq0 nr0 nw1 na1 nq1 nr1 bs bp bh bf bl bg gw0 ga0 gw1 ga1 mg0 mg1 (n + 1) (a + xv.toNatClampNeg) cg x (va_up sa (n + 1) (a + xv.toNatClampNeg)) (pkA pk n a xv.toNatClampNeg) fl gv gh gl ∧ f1 out = some (.inl (cJ G, 1, .inr (.inl (vp_updL go (0 : Int32).toNatClampNeg ((nI a) : Int32).toInt64))))) ∨ (¬ spc (sP xv) (n < 60) = 0 ∧ v = some (.int (spc (sP xv) (n < 60))) ∧ CW G f1 xo ez eo bu nw0 na0 nq0 nr0 nw1 na1 nq1 nr1 bs bp bh bf bl bg gw0 ga0 gw1 ga1 mg0 mg1 n a cg x sa pk fl gv gh gl ∧ ∃ g9 : Nat → Int64, f1 out = some (.inl (cJ G, 1, .inr (.inl g9))))) ∧ hKp [out, xo, ez, eo, bu, nw0, na0, nq0, nr0, nw1, na1, nq1, nr1, bs, bp, bh, bf, bl, bg] f f1) (fun E f1 => False) := by
  refine hp_startH hl (own := RL) (by decide) rfl (Nat.le_of_ble_eq_true rfl) ?_
  intro p e s m args below meth c B0 hr htab hw hS ls hl9
  have hx := B0.1
  have hb := B0.2.1
  have hl9 : lv_has ls 4 [(0, .ref xo), (1, .int xv), (2, .ref out)] := hl9
  have k_xo := hC.1
  have no_xo : out ≠ xo := fun h9 => hno (by rw [h9]; simp)
  have no_ez : out ≠ ez := fun h9 => hno (by rw [h9]; simp)
  have no_eo : out ≠ eo := fun h9 => hno (by rw [h9]; simp)
  have no_bu : out ≠ bu := fun h9 => hno (by rw [h9]; simp)
  have no_nw0 : out ≠ nw0 := fun h9 => hno (by rw [h9]; simp)
  have no_na0 : out ≠ na0 := fun h9 => hno (by rw [h9]; simp)
  have no_nq0 : out ≠ nq0 := fun h9 => hno (by rw [h9]; simp)
  have no_nr0 : out ≠ nr0 := fun h9 => hno (by rw [h9]; simp)
  have no_nw1 : out ≠ nw1 := fun h9 => hno (by rw [h9]; simp)
  have no_na1 : out ≠ na1 := fun h9 => hno (by rw [h9]; simp)
  have no_nq1 : out ≠ nq1 := fun h9 => hno (by rw [h9]; simp)
  have no_nr1 : out ≠ nr1 := fun h9 => hno (by rw [h9]; simp)
  have no_bs : out ≠ bs := fun h9 => hno (by rw [h9]; simp)
  have no_bp : out ≠ bp := fun h9 => hno (by rw [h9]; simp)
  have no_bh : out ≠ bh := fun h9 => hno (by rw [h9]; simp)
  have no_bf : out ≠ bf := fun h9 => hno (by rw [h9]; simp)
  have no_bl : out ≠ bl := fun h9 => hno (by rw [h9]; simp)
  have no_bg : out ≠ bg := fun h9 => hno (by rw [h9]; simp)
  refine lv_aload_n hx hb dL_send_0 rfl (lv_at hl9 2 rfl) ?_
  refine lv_iconst (v := 0) hx hb dL_send_1 (by decide) ?_
  refine lv_aload_n hx hb dL_send_2 rfl (lv_at hl9 0 rfl) ?_
  refine lv_iload_n hx hb dL_send_3 rfl (lv_at hl9 1 rfl) ?_
  refine hp_V (ci := 4) (As := [.int xv]) (rest := [.int 0, .ref out]) B0 hw hS (c_W4_send hl G f xo ez eo bu nw0 na0 nq0 nr0 nw1 na1 nq1 nr1 bs bp bh bf bl bg gw0 ga0 gw1 ga1 mg0 mg1 n a cg x sa pk fl gv gh gl hC xv) mV_X4_send qM_L_64 rfl k_xo rfl rfl hl9.1 (Nat.le_of_ble_eq_true rfl) ⟨⟨Nat.le_of_ble_eq_true rfl, Nat.le_of_ble_eq_true rfl⟩, Nat.le_of_ble_eq_true rfl, Nat.le_of_ble_eq_true rfl⟩ dL_send_4 (fun E ce q9 f1 H locs hPX hw hS hce hcv hcl => ?_) (fun v f1 H locs hP hw hS => ?_)
  · obtain ⟨hE9, hC8, hk8⟩ := hPX
    rcases hE9 with ⟨eE9, hz8⟩ | ⟨eE9, hz8⟩
    · subst eE9
      refine hp_catch (name := eA) B0 [] _ _ (htab.trans rfl) (fun z hz => nomatch hz) rfl (by decide) qC_L_15 oC_eA hce hcv hcl ?_
      refine W.eq (g2 := F0 m 12 ls [.ref q9]) rfl ?_
      refine lv_astore_n (lv' := [(3, .ref q9), (0, .ref xo), (1, .int xv), (2, .ref out)]) hx hb dL_send_12 rfl hl9 (by decide) rfl (fun ls hl9 => ?_)
      refine lv_iconst (v := 1) hx hb dL_send_13 (by decide) ?_
      have h2 : f1 out = some (.inl (cJ G, 1, .inr (.inl go))) := hk8.1 _ _ k_out (Nat.ne_of_beq_eq_false rfl) (ninc no_xo (ninc no_ez (ninc no_eo (ninc no_bu (ninc no_nw0 (ninc no_na0 (ninc no_nq0 (ninc no_nr0 (ninc no_nw1 (ninc no_na1 (ninc no_nq1 (ninc no_nr1 (ninc no_bs (ninc no_bp (ninc no_bh (ninc no_bf (ninc no_bl (ninc no_bg nin0))))))))))))))))))
      exact hp_iret (v := 1) B0 hw hS hr ⟨Nat.le_of_ble_eq_true rfl, Nat.le_of_ble_eq_true rfl⟩ dL_send_14 (⟨Or.inr ⟨(by rw [hz8]; decide), (by rw [hz8]), hC8, ⟨_, h2⟩⟩, (show hKp [out, xo, ez, eo, bu, nw0, na0, nq0, nr0, nw1, na1, nq1, nr1, bs, bp, bh, bf, bl, bg] f f1 from (hk8.mono (fun x9 hx9 => by simp only [List.mem_cons, List.not_mem_nil, or_false] at hx9; rcases hx9 with hx9 | hx9 | hx9 | hx9 | hx9 | hx9 | hx9 | hx9 | hx9 | hx9 | hx9 | hx9 | hx9 | hx9 | hx9 | hx9 | hx9 | hx9 <;> (rw [hx9]; simp))))⟩)
    · subst eE9
      refine hp_catch (name := eS) B0 [_] _ _ (htab.trans rfl) (fun z hz => Or.inr (by rcases List.mem_singleton.mp hz with rfl; exact ⟨by decide, eA, qC_L_15, List.mem_of_getElem? (i := 5) rfl⟩)) rfl (by decide) qC_L_28 oC_eS hce hcv hcl ?_
      refine W.eq (g2 := F0 m 15 ls [.ref q9]) rfl ?_
      refine lv_astore_n (lv' := [(3, .ref q9), (0, .ref xo), (1, .int xv), (2, .ref out)]) hx hb dL_send_15 rfl hl9 (by decide) rfl (fun ls hl9 => ?_)
      refine lv_iconst (v := 2) hx hb dL_send_16 (by decide) ?_
      have h3 : f1 out = some (.inl (cJ G, 1, .inr (.inl go))) := hk8.1 _ _ k_out (Nat.ne_of_beq_eq_false rfl) (ninc no_xo (ninc no_ez (ninc no_eo (ninc no_bu (ninc no_nw0 (ninc no_na0 (ninc no_nq0 (ninc no_nr0 (ninc no_nw1 (ninc no_na1 (ninc no_nq1 (ninc no_nr1 (ninc no_bs (ninc no_bp (ninc no_bh (ninc no_bf (ninc no_bl (ninc no_bg nin0))))))))))))))))))
      exact hp_iret (v := 2) B0 hw hS hr ⟨Nat.le_of_ble_eq_true rfl, Nat.le_of_ble_eq_true rfl⟩ dL_send_17 (⟨Or.inr ⟨(by rw [hz8]; decide), (by rw [hz8]), hC8, ⟨_, h3⟩⟩, (show hKp [out, xo, ez, eo, bu, nw0, na0, nq0, nr0, nw1, na1, nq1, nr1, bs, bp, bh, bf, bl, bg] f f1 from (hk8.mono (fun x9 hx9 => by simp only [List.mem_cons, List.not_mem_nil, or_false] at hx9; rcases hx9 with hx9 | hx9 | hx9 | hx9 | hx9 | hx9 | hx9 | hx9 | hx9 | hx9 | hx9 | hx9 | hx9 | hx9 | hx9 | hx9 | hx9 | hx9 <;> (rw [hx9]; simp))))⟩)
  · obtain ⟨hz8, ev9, hC8, hk8⟩ := hP
    subst ev9
    refine W.eq (g2 := F0 m 7 ls [.int (nI a), .int 0, .ref out]) rfl ?_
    refine lv_i2l (v := ((nI a) : Int32).toInt64) hx hb dL_send_7 rfl ?_
    have h4 : f1 out = some (.inl (cJ G, 1, .inr (.inl go))) := hk8.1 _ _ k_out (Nat.ne_of_beq_eq_false rfl) (ninc no_xo (ninc no_ez (ninc no_eo (ninc no_bu (ninc no_nw0 (ninc no_na0 (ninc no_nq0 (ninc no_nr0 (ninc no_nw1 (ninc no_na1 (ninc no_nq1 (ninc no_nr1 (ninc no_bs (ninc no_bp (ninc no_bh (ninc no_bf (ninc no_bl (ninc no_bg nin0))))))))))))))))))
    refine hp_last B0 hw hS h4 (by unfold vp_in; decide) dL_send_8 (fun H locs f5 ef5 hw hS => ?_)
    have h6 : f5 out = some (.inl (cJ G, 1, .inr (.inl (vp_updL go (0 : Int32).toNatClampNeg (((nI a) : Int32).toInt64))))) := by rw [ef5, va_up_self]
    refine lv_goto (tgt := 18) hx hb dL_send_9 (by decide) ?_
    refine lv_iconst (v := 0) hx hb dL_send_18 (by decide) ?_
    exact hp_iret (v := 0) B0 hw hS hr ⟨Nat.le_of_ble_eq_true rfl, Nat.le_of_ble_eq_true rfl⟩ dL_send_19 (⟨Or.inl ⟨hz8, rfl, (CW.eq hC8 (show hEq [out] f1 f5 from (by rw [ef5]; exact hEq.up (by simp))) (fun p9 h9 h8 => hno (by rw [← List.mem_singleton.mp h8]; exact h9)) (fun b9 h9 => by rw [List.mem_singleton.mp h9]; exact ⟨_, _, h4, h6, (Nat.ne_of_beq_eq_false rfl), (Nat.ne_of_beq_eq_false rfl), (Nat.ne_of_beq_eq_false rfl)⟩)), h6⟩, ((show hKp [out, xo, ez, eo, bu, nw0, na0, nq0, nr0, nw1, na1, nq1, nr1, bs, bp, bh, bf, bl, bg] f f1 from (hk8.mono (fun x9 hx9 => by simp only [List.mem_cons, List.not_mem_nil, or_false] at hx9; rcases hx9 with hx9 | hx9 | hx9 | hx9 | hx9 | hx9 | hx9 | hx9 | hx9 | hx9 | hx9 | hx9 | hx9 | hx9 | hx9 | hx9 | hx9 | hx9 <;> (rw [hx9]; simp)))).tr (show hKp [out, xo, ez, eo, bu, nw0, na0, nq0, nr0, nw1, na1, nq1, nr1, bs, bp, bh, bf, bl, bg] f1 f5 from (by rw [ef5]; exact hKp.up h4 (Nat.ne_of_beq_eq_false rfl) (by simp))))⟩)

set_option maxHeartbeats 4000000 in
set_option maxRecDepth 100000 in
theorem c_L_come {l : Launch} (hl : l.stackTraces = false) (G : hG) (f : hM) (xo ez eo bu nw0 na0 nq0 nr0 nw1 na1 nq1 nr1 bs bp bh bf bl bg : Nat) (gw0 : Nat → Int32) (ga0 : Nat → Int32) (gw1 : Nat → Int32) (ga1 : Nat → Int32) (mg0 : Int32) (mg1 : Int32) (n : Nat) (a : Nat) (cg : Nat) (x : Nat) (sa : Nat → Nat) (pk : Nat → Nat) (fl : Nat → Nat) (gv : Nat → Nat) (gh : Nat → Int32) (gl : Nat → Int32) (hC : CW G f xo ez eo bu nw0 na0 nq0 nr0 nw1 na1 nq1 nr1 bs bp bh bf bl bg gw0 ga0 gw1 ga1 mg0 mg1 n a cg x sa pk fl gv gh gl) (out : Nat) (go : Nat → Int64) (k_out : f out = some (.inl (cJ G, 1, .inr (.inl go)))) (hno : out ∉ [xo, ez, eo, bu, nw0, na0, nq0, nr0, nw1, na1, nq1, nr1, bs, bp, bh, bf, bl, bg]) (xv : Int32) : CT l yL_come (.codeWith yL_come cL_come 4 (some .int) [(0, 9, 12, 13), (0, 9, 15, 28)]) 8 126 1 6 G [.ref xo, .int xv, .ref out] f (fun v f1 => ((spc (sL xv) (fl xv.toNatClampNeg < a) = 0 ∧ v = some (.int 0) ∧ CW G f1 xo ez eo bu nw0 na0 nq0 nr0 nw1 na1 nq1 nr1 bs bp bh bf bl bg gw0 ga0 gw1 ga1 mg0 mg1 n a ((bRun a sa pk (upd gh (fl xv.toNatClampNeg) 1) (bnd (upd gl xv.toNatClampNeg (nI (fl xv.toNatClampNeg)))) 240 cg x gv).1) ((bRun a sa pk (upd gh (fl xv.toNatClampNeg) 1) (bnd (upd gl xv.toNatClampNeg (nI (fl xv.toNatClampNeg)))) 240 cg x gv).2.1) sa pk (va_up fl xv.toNatClampNeg (fl xv.toNatClampNeg + 3)) ((bRun a sa pk (upd gh (fl xv.toNatClampNeg) 1) (bnd (upd gl xv.toNatClampNeg (nI (fl xv.toNatClampNeg)))) 240 cg x gv).2.2) (upd gh (fl xv.toNatClampNeg) 1) (upd gl xv.toNatClampNeg (nI (fl xv.toNatClampNeg))) ∧ f1 out = some (.inl (cJ G, 1, .inr (.inl (vp_updL go (0 : Int32).toNatClampNeg ((nI (bRun a sa pk (upd gh (fl xv.toNatClampNeg) 1) (bnd (upd gl xv.toNatClampNeg (nI (fl xv.toNatClampNeg)))) 240 cg x gv).1 - nI cg) : Int32).toInt64))))) ∨ (¬ spc (sL xv) (fl xv.toNatClampNeg < a) = 0 ∧ v = some (.int (spc (sL xv) (fl xv.toNatClampNeg < a))) ∧ CW G f1 xo ez eo bu nw0 na0 nq0 nr0 nw1 na1 nq1 nr1 bs bp bh bf bl bg gw0 ga0 gw1 ga1 mg0 mg1 n a cg x sa pk fl gv gh gl ∧ ∃ g9 : Nat → Int64, f1 out = some (.inl (cJ G, 1, .inr (.inl g9))))) ∧ hKp [out, xo, ez, eo, bu, nw0, na0, nq0, nr0, nw1, na1, nq1, nr1, bs, bp, bh, bf, bl, bg] f f1) (fun E f1 => False) := by
  refine hp_startH hl (own := RL) (by decide) rfl (Nat.le_of_ble_eq_true rfl) ?_
  intro p e s m args below meth c B0 hr htab hw hS ls hl9
  have hx := B0.1
  have hb := B0.2.1
  have hl9 : lv_has ls 4 [(0, .ref xo), (1, .int xv), (2, .ref out)] := hl9
  have k_xo := hC.1
  have no_xo : out ≠ xo := fun h9 => hno (by rw [h9]; simp)
  have no_ez : out ≠ ez := fun h9 => hno (by rw [h9]; simp)
  have no_eo : out ≠ eo := fun h9 => hno (by rw [h9]; simp)
  have no_bu : out ≠ bu := fun h9 => hno (by rw [h9]; simp)
  have no_nw0 : out ≠ nw0 := fun h9 => hno (by rw [h9]; simp)
  have no_na0 : out ≠ na0 := fun h9 => hno (by rw [h9]; simp)
  have no_nq0 : out ≠ nq0 := fun h9 => hno (by rw [h9]; simp)
  have no_nr0 : out ≠ nr0 := fun h9 => hno (by rw [h9]; simp)
  have no_nw1 : out ≠ nw1 := fun h9 => hno (by rw [h9]; simp)
  have no_na1 : out ≠ na1 := fun h9 => hno (by rw [h9]; simp)
  have no_nq1 : out ≠ nq1 := fun h9 => hno (by rw [h9]; simp)
  have no_nr1 : out ≠ nr1 := fun h9 => hno (by rw [h9]; simp)
  have no_bs : out ≠ bs := fun h9 => hno (by rw [h9]; simp)
  have no_bp : out ≠ bp := fun h9 => hno (by rw [h9]; simp)
  have no_bh : out ≠ bh := fun h9 => hno (by rw [h9]; simp)
  have no_bf : out ≠ bf := fun h9 => hno (by rw [h9]; simp)
  have no_bl : out ≠ bl := fun h9 => hno (by rw [h9]; simp)
  have no_bg : out ≠ bg := fun h9 => hno (by rw [h9]; simp)
  refine lv_aload_n hx hb dL_come_0 rfl (lv_at hl9 2 rfl) ?_
  refine lv_iconst (v := 0) hx hb dL_come_1 (by decide) ?_
  refine lv_aload_n hx hb dL_come_2 rfl (lv_at hl9 0 rfl) ?_
  refine lv_iload_n hx hb dL_come_3 rfl (lv_at hl9 1 rfl) ?_
  refine hp_V (ci := 4) (As := [.int xv]) (rest := [.int 0, .ref out]) B0 hw hS (c_W4_come hl G f xo ez eo bu nw0 na0 nq0 nr0 nw1 na1 nq1 nr1 bs bp bh bf bl bg gw0 ga0 gw1 ga1 mg0 mg1 n a cg x sa pk fl gv gh gl hC xv) mV_X4_come qM_L_67 rfl k_xo rfl rfl hl9.1 (Nat.le_of_ble_eq_true rfl) ⟨⟨Nat.le_of_ble_eq_true rfl, Nat.le_of_ble_eq_true rfl⟩, Nat.le_of_ble_eq_true rfl, Nat.le_of_ble_eq_true rfl⟩ dL_come_4 (fun E ce q9 f1 H locs hPX hw hS hce hcv hcl => ?_) (fun v f1 H locs hP hw hS => ?_)
  · obtain ⟨hE9, hC8, hk8⟩ := hPX
    rcases hE9 with ⟨eE9, hz8⟩ | ⟨eE9, hz8⟩
    · subst eE9
      refine hp_catch (name := eI) B0 [] _ _ (htab.trans rfl) (fun z hz => nomatch hz) rfl (by decide) qC_L_13 oC_eI hce hcv hcl ?_
      refine W.eq (g2 := F0 m 12 ls [.ref q9]) rfl ?_
      refine lv_astore_n (lv' := [(3, .ref q9), (0, .ref xo), (1, .int xv), (2, .ref out)]) hx hb dL_come_12 rfl hl9 (by decide) rfl (fun ls hl9 => ?_)
      refine lv_iconst (v := 1) hx hb dL_come_13 (by decide) ?_
      have h2 : f1 out = some (.inl (cJ G, 1, .inr (.inl go))) := hk8.1 _ _ k_out (Nat.ne_of_beq_eq_false rfl) (ninc no_xo (ninc no_ez (ninc no_eo (ninc no_bu (ninc no_nw0 (ninc no_na0 (ninc no_nq0 (ninc no_nr0 (ninc no_nw1 (ninc no_na1 (ninc no_nq1 (ninc no_nr1 (ninc no_bs (ninc no_bp (ninc no_bh (ninc no_bf (ninc no_bl (ninc no_bg nin0))))))))))))))))))
      exact hp_iret (v := 1) B0 hw hS hr ⟨Nat.le_of_ble_eq_true rfl, Nat.le_of_ble_eq_true rfl⟩ dL_come_14 (⟨Or.inr ⟨(by rw [hz8]; decide), (by rw [hz8]), hC8, ⟨_, h2⟩⟩, (show hKp [out, xo, ez, eo, bu, nw0, na0, nq0, nr0, nw1, na1, nq1, nr1, bs, bp, bh, bf, bl, bg] f f1 from (hk8.mono (fun x9 hx9 => by simp only [List.mem_cons, List.not_mem_nil, or_false] at hx9; rcases hx9 with hx9 | hx9 | hx9 | hx9 | hx9 | hx9 | hx9 | hx9 | hx9 | hx9 | hx9 | hx9 | hx9 | hx9 | hx9 | hx9 | hx9 | hx9 <;> (rw [hx9]; simp))))⟩)
    · subst eE9
      refine hp_catch (name := eS) B0 [_] _ _ (htab.trans rfl) (fun z hz => Or.inr (by rcases List.mem_singleton.mp hz with rfl; exact ⟨by decide, eI, qC_L_13, List.mem_of_getElem? (i := 4) rfl⟩)) rfl (by decide) qC_L_28 oC_eS hce hcv hcl ?_
      refine W.eq (g2 := F0 m 15 ls [.ref q9]) rfl ?_
      refine lv_astore_n (lv' := [(3, .ref q9), (0, .ref xo), (1, .int xv), (2, .ref out)]) hx hb dL_come_15 rfl hl9 (by decide) rfl (fun ls hl9 => ?_)
      refine lv_iconst (v := 2) hx hb dL_come_16 (by decide) ?_
      have h3 : f1 out = some (.inl (cJ G, 1, .inr (.inl go))) := hk8.1 _ _ k_out (Nat.ne_of_beq_eq_false rfl) (ninc no_xo (ninc no_ez (ninc no_eo (ninc no_bu (ninc no_nw0 (ninc no_na0 (ninc no_nq0 (ninc no_nr0 (ninc no_nw1 (ninc no_na1 (ninc no_nq1 (ninc no_nr1 (ninc no_bs (ninc no_bp (ninc no_bh (ninc no_bf (ninc no_bl (ninc no_bg nin0))))))))))))))))))
      exact hp_iret (v := 2) B0 hw hS hr ⟨Nat.le_of_ble_eq_true rfl, Nat.le_of_ble_eq_true rfl⟩ dL_come_17 (⟨Or.inr ⟨(by rw [hz8]; decide), (by rw [hz8]), hC8, ⟨_, h3⟩⟩, (show hKp [out, xo, ez, eo, bu, nw0, na0, nq0, nr0, nw1, na1, nq1, nr1, bs, bp, bh, bf, bl, bg] f f1 from (hk8.mono (fun x9 hx9 => by simp only [List.mem_cons, List.not_mem_nil, or_false] at hx9; rcases hx9 with hx9 | hx9 | hx9 | hx9 | hx9 | hx9 | hx9 | hx9 | hx9 | hx9 | hx9 | hx9 | hx9 | hx9 | hx9 | hx9 | hx9 | hx9 <;> (rw [hx9]; simp))))⟩)
  · obtain ⟨hz8, ev9, hC8, hk8⟩ := hP
    subst ev9
    refine W.eq (g2 := F0 m 7 ls [.int (nI (bRun a sa pk (upd gh (fl xv.toNatClampNeg) 1) (bnd (upd gl xv.toNatClampNeg (nI (fl xv.toNatClampNeg)))) 240 cg x gv).1 - nI cg), .int 0, .ref out]) rfl ?_
    refine lv_i2l (v := ((nI (bRun a sa pk (upd gh (fl xv.toNatClampNeg) 1) (bnd (upd gl xv.toNatClampNeg (nI (fl xv.toNatClampNeg)))) 240 cg x gv).1 - nI cg) : Int32).toInt64) hx hb dL_come_7 rfl ?_
    have h4 : f1 out = some (.inl (cJ G, 1, .inr (.inl go))) := hk8.1 _ _ k_out (Nat.ne_of_beq_eq_false rfl) (ninc no_xo (ninc no_ez (ninc no_eo (ninc no_bu (ninc no_nw0 (ninc no_na0 (ninc no_nq0 (ninc no_nr0 (ninc no_nw1 (ninc no_na1 (ninc no_nq1 (ninc no_nr1 (ninc no_bs (ninc no_bp (ninc no_bh (ninc no_bf (ninc no_bl (ninc no_bg nin0))))))))))))))))))
    refine hp_last B0 hw hS h4 (by unfold vp_in; decide) dL_come_8 (fun H locs f5 ef5 hw hS => ?_)
    have h6 : f5 out = some (.inl (cJ G, 1, .inr (.inl (vp_updL go (0 : Int32).toNatClampNeg (((nI (bRun a sa pk (upd gh (fl xv.toNatClampNeg) 1) (bnd (upd gl xv.toNatClampNeg (nI (fl xv.toNatClampNeg)))) 240 cg x gv).1 - nI cg) : Int32).toInt64))))) := by rw [ef5, va_up_self]
    refine lv_goto (tgt := 18) hx hb dL_come_9 (by decide) ?_
    refine lv_iconst (v := 0) hx hb dL_come_18 (by decide) ?_
    exact hp_iret (v := 0) B0 hw hS hr ⟨Nat.le_of_ble_eq_true rfl, Nat.le_of_ble_eq_true rfl⟩ dL_come_19 (⟨Or.inl ⟨hz8, rfl, (CW.eq hC8 (show hEq [out] f1 f5 from (by rw [ef5]; exact hEq.up (by simp))) (fun p9 h9 h8 => hno (by rw [← List.mem_singleton.mp h8]; exact h9)) (fun b9 h9 => by rw [List.mem_singleton.mp h9]; exact ⟨_, _, h4, h6, (Nat.ne_of_beq_eq_false rfl), (Nat.ne_of_beq_eq_false rfl), (Nat.ne_of_beq_eq_false rfl)⟩)), h6⟩, ((show hKp [out, xo, ez, eo, bu, nw0, na0, nq0, nr0, nw1, na1, nq1, nr1, bs, bp, bh, bf, bl, bg] f f1 from (hk8.mono (fun x9 hx9 => by simp only [List.mem_cons, List.not_mem_nil, or_false] at hx9; rcases hx9 with hx9 | hx9 | hx9 | hx9 | hx9 | hx9 | hx9 | hx9 | hx9 | hx9 | hx9 | hx9 | hx9 | hx9 | hx9 | hx9 | hx9 | hx9 <;> (rw [hx9]; simp)))).tr (show hKp [out, xo, ez, eo, bu, nw0, na0, nq0, nr0, nw1, na1, nq1, nr1, bs, bp, bh, bf, bl, bg] f1 f5 from (by rw [ef5]; exact hKp.up h4 (Nat.ne_of_beq_eq_false rfl) (by simp))))⟩)

set_option maxHeartbeats 4000000 in
set_option maxRecDepth 100000 in
theorem c_L_drop {l : Launch} (hl : l.stackTraces = false) (G : hG) (f : hM) (xo ez eo bu nw0 na0 nq0 nr0 nw1 na1 nq1 nr1 bs bp bh bf bl bg : Nat) (gw0 : Nat → Int32) (ga0 : Nat → Int32) (gw1 : Nat → Int32) (ga1 : Nat → Int32) (mg0 : Int32) (mg1 : Int32) (n : Nat) (a : Nat) (cg : Nat) (x : Nat) (sa : Nat → Nat) (pk : Nat → Nat) (fl : Nat → Nat) (gv : Nat → Nat) (gh : Nat → Int32) (gl : Nat → Int32) (hC : CW G f xo ez eo bu nw0 na0 nq0 nr0 nw1 na1 nq1 nr1 bs bp bh bf bl bg gw0 ga0 gw1 ga1 mg0 mg1 n a cg x sa pk fl gv gh gl) (out : Nat) (go : Nat → Int64) (k_out : f out = some (.inl (cJ G, 1, .inr (.inl go)))) (hno : out ∉ [xo, ez, eo, bu, nw0, na0, nq0, nr0, nw1, na1, nq1, nr1, bs, bp, bh, bf, bl, bg]) (xv : Int32) : CT l yL_drop (.codeWith yL_drop cL_drop 4 (some .int) [(0, 9, 12, 13), (0, 9, 15, 28)]) 8 124 1 6 G [.ref xo, .int xv, .ref out] f (fun v f1 => ((spc (sL xv) (fl xv.toNatClampNeg < a) = 0 ∧ v = some (.int 0) ∧ CW G f1 xo ez eo bu nw0 na0 nq0 nr0 nw1 na1 nq1 nr1 bs bp bh bf bl bg gw0 ga0 gw1 ga1 mg0 mg1 n a cg x sa pk (va_up fl xv.toNatClampNeg (fl xv.toNatClampNeg + 3)) gv gh gl ∧ f1 out = some (.inl (cJ G, 1, .inr (.inl (vp_updL go (0 : Int32).toNatClampNeg ((nI (fl xv.toNatClampNeg)) : Int32).toInt64))))) ∨ (¬ spc (sL xv) (fl xv.toNatClampNeg < a) = 0 ∧ v = some (.int (spc (sL xv) (fl xv.toNatClampNeg < a))) ∧ CW G f1 xo ez eo bu nw0 na0 nq0 nr0 nw1 na1 nq1 nr1 bs bp bh bf bl bg gw0 ga0 gw1 ga1 mg0 mg1 n a cg x sa pk fl gv gh gl ∧ ∃ g9 : Nat → Int64, f1 out = some (.inl (cJ G, 1, .inr (.inl g9))))) ∧ hKp [out, xo, ez, eo, bu, nw0, na0, nq0, nr0, nw1, na1, nq1, nr1, bs, bp, bh, bf, bl, bg] f f1) (fun E f1 => False) := by
  refine hp_startH hl (own := RL) (by decide) rfl (Nat.le_of_ble_eq_true rfl) ?_
  intro p e s m args below meth c B0 hr htab hw hS ls hl9
  have hx := B0.1
  have hb := B0.2.1
  have hl9 : lv_has ls 4 [(0, .ref xo), (1, .int xv), (2, .ref out)] := hl9
  have k_xo := hC.1
  have no_xo : out ≠ xo := fun h9 => hno (by rw [h9]; simp)
  have no_ez : out ≠ ez := fun h9 => hno (by rw [h9]; simp)
  have no_eo : out ≠ eo := fun h9 => hno (by rw [h9]; simp)
  have no_bu : out ≠ bu := fun h9 => hno (by rw [h9]; simp)
  have no_nw0 : out ≠ nw0 := fun h9 => hno (by rw [h9]; simp)
  have no_na0 : out ≠ na0 := fun h9 => hno (by rw [h9]; simp)
  have no_nq0 : out ≠ nq0 := fun h9 => hno (by rw [h9]; simp)
  have no_nr0 : out ≠ nr0 := fun h9 => hno (by rw [h9]; simp)
  have no_nw1 : out ≠ nw1 := fun h9 => hno (by rw [h9]; simp)
  have no_na1 : out ≠ na1 := fun h9 => hno (by rw [h9]; simp)
  have no_nq1 : out ≠ nq1 := fun h9 => hno (by rw [h9]; simp)
  have no_nr1 : out ≠ nr1 := fun h9 => hno (by rw [h9]; simp)
  have no_bs : out ≠ bs := fun h9 => hno (by rw [h9]; simp)
  have no_bp : out ≠ bp := fun h9 => hno (by rw [h9]; simp)
  have no_bh : out ≠ bh := fun h9 => hno (by rw [h9]; simp)
  have no_bf : out ≠ bf := fun h9 => hno (by rw [h9]; simp)
  have no_bl : out ≠ bl := fun h9 => hno (by rw [h9]; simp)
  have no_bg : out ≠ bg := fun h9 => hno (by rw [h9]; simp)
  refine lv_aload_n hx hb dL_drop_0 rfl (lv_at hl9 2 rfl) ?_
  refine lv_iconst (v := 0) hx hb dL_drop_1 (by decide) ?_
  refine lv_aload_n hx hb dL_drop_2 rfl (lv_at hl9 0 rfl) ?_
  refine lv_iload_n hx hb dL_drop_3 rfl (lv_at hl9 1 rfl) ?_
  refine hp_V (ci := 4) (As := [.int xv]) (rest := [.int 0, .ref out]) B0 hw hS (c_W4_drop hl G f xo ez eo bu nw0 na0 nq0 nr0 nw1 na1 nq1 nr1 bs bp bh bf bl bg gw0 ga0 gw1 ga1 mg0 mg1 n a cg x sa pk fl gv gh gl hC xv) mV_X4_drop qM_L_70 rfl k_xo rfl rfl hl9.1 (Nat.le_of_ble_eq_true rfl) ⟨⟨Nat.le_of_ble_eq_true rfl, Nat.le_of_ble_eq_true rfl⟩, Nat.le_of_ble_eq_true rfl, Nat.le_of_ble_eq_true rfl⟩ dL_drop_4 (fun E ce q9 f1 H locs hPX hw hS hce hcv hcl => ?_) (fun v f1 H locs hP hw hS => ?_)
  · obtain ⟨hE9, hC8, hk8⟩ := hPX
    rcases hE9 with ⟨eE9, hz8⟩ | ⟨eE9, hz8⟩
    · subst eE9
      refine hp_catch (name := eI) B0 [] _ _ (htab.trans rfl) (fun z hz => nomatch hz) rfl (by decide) qC_L_13 oC_eI hce hcv hcl ?_
      refine W.eq (g2 := F0 m 12 ls [.ref q9]) rfl ?_
      refine lv_astore_n (lv' := [(3, .ref q9), (0, .ref xo), (1, .int xv), (2, .ref out)]) hx hb dL_drop_12 rfl hl9 (by decide) rfl (fun ls hl9 => ?_)
      refine lv_iconst (v := 1) hx hb dL_drop_13 (by decide) ?_
      have h2 : f1 out = some (.inl (cJ G, 1, .inr (.inl go))) := hk8.1 _ _ k_out (Nat.ne_of_beq_eq_false rfl) (ninc no_xo (ninc no_ez (ninc no_eo (ninc no_bu (ninc no_nw0 (ninc no_na0 (ninc no_nq0 (ninc no_nr0 (ninc no_nw1 (ninc no_na1 (ninc no_nq1 (ninc no_nr1 (ninc no_bs (ninc no_bp (ninc no_bh (ninc no_bf (ninc no_bl (ninc no_bg nin0))))))))))))))))))
      exact hp_iret (v := 1) B0 hw hS hr ⟨Nat.le_of_ble_eq_true rfl, Nat.le_of_ble_eq_true rfl⟩ dL_drop_14 (⟨Or.inr ⟨(by rw [hz8]; decide), (by rw [hz8]), hC8, ⟨_, h2⟩⟩, (show hKp [out, xo, ez, eo, bu, nw0, na0, nq0, nr0, nw1, na1, nq1, nr1, bs, bp, bh, bf, bl, bg] f f1 from (hk8.mono (fun x9 hx9 => by simp only [List.mem_cons, List.not_mem_nil, or_false] at hx9; rcases hx9 with hx9 | hx9 | hx9 | hx9 | hx9 | hx9 | hx9 | hx9 | hx9 | hx9 | hx9 | hx9 | hx9 | hx9 | hx9 | hx9 | hx9 | hx9 <;> (rw [hx9]; simp))))⟩)
    · subst eE9
      refine hp_catch (name := eS) B0 [_] _ _ (htab.trans rfl) (fun z hz => Or.inr (by rcases List.mem_singleton.mp hz with rfl; exact ⟨by decide, eI, qC_L_13, List.mem_of_getElem? (i := 4) rfl⟩)) rfl (by decide) qC_L_28 oC_eS hce hcv hcl ?_
      refine W.eq (g2 := F0 m 15 ls [.ref q9]) rfl ?_
      refine lv_astore_n (lv' := [(3, .ref q9), (0, .ref xo), (1, .int xv), (2, .ref out)]) hx hb dL_drop_15 rfl hl9 (by decide) rfl (fun ls hl9 => ?_)
      refine lv_iconst (v := 2) hx hb dL_drop_16 (by decide) ?_
      have h3 : f1 out = some (.inl (cJ G, 1, .inr (.inl go))) := hk8.1 _ _ k_out (Nat.ne_of_beq_eq_false rfl) (ninc no_xo (ninc no_ez (ninc no_eo (ninc no_bu (ninc no_nw0 (ninc no_na0 (ninc no_nq0 (ninc no_nr0 (ninc no_nw1 (ninc no_na1 (ninc no_nq1 (ninc no_nr1 (ninc no_bs (ninc no_bp (ninc no_bh (ninc no_bf (ninc no_bl (ninc no_bg nin0))))))))))))))))))
      exact hp_iret (v := 2) B0 hw hS hr ⟨Nat.le_of_ble_eq_true rfl, Nat.le_of_ble_eq_true rfl⟩ dL_drop_17 (⟨Or.inr ⟨(by rw [hz8]; decide), (by rw [hz8]), hC8, ⟨_, h3⟩⟩, (show hKp [out, xo, ez, eo, bu, nw0, na0, nq0, nr0, nw1, na1, nq1, nr1, bs, bp, bh, bf, bl, bg] f f1 from (hk8.mono (fun x9 hx9 => by simp only [List.mem_cons, List.not_mem_nil, or_false] at hx9; rcases hx9 with hx9 | hx9 | hx9 | hx9 | hx9 | hx9 | hx9 | hx9 | hx9 | hx9 | hx9 | hx9 | hx9 | hx9 | hx9 | hx9 | hx9 | hx9 <;> (rw [hx9]; simp))))⟩)
  · obtain ⟨hz8, ev9, hC8, hk8⟩ := hP
    subst ev9
    refine W.eq (g2 := F0 m 7 ls [.int (nI (fl xv.toNatClampNeg)), .int 0, .ref out]) rfl ?_
    refine lv_i2l (v := ((nI (fl xv.toNatClampNeg)) : Int32).toInt64) hx hb dL_drop_7 rfl ?_
    have h4 : f1 out = some (.inl (cJ G, 1, .inr (.inl go))) := hk8.1 _ _ k_out (Nat.ne_of_beq_eq_false rfl) (ninc no_xo (ninc no_ez (ninc no_eo (ninc no_bu (ninc no_nw0 (ninc no_na0 (ninc no_nq0 (ninc no_nr0 (ninc no_nw1 (ninc no_na1 (ninc no_nq1 (ninc no_nr1 (ninc no_bs (ninc no_bp (ninc no_bh (ninc no_bf (ninc no_bl (ninc no_bg nin0))))))))))))))))))
    refine hp_last B0 hw hS h4 (by unfold vp_in; decide) dL_drop_8 (fun H locs f5 ef5 hw hS => ?_)
    have h6 : f5 out = some (.inl (cJ G, 1, .inr (.inl (vp_updL go (0 : Int32).toNatClampNeg (((nI (fl xv.toNatClampNeg)) : Int32).toInt64))))) := by rw [ef5, va_up_self]
    refine lv_goto (tgt := 18) hx hb dL_drop_9 (by decide) ?_
    refine lv_iconst (v := 0) hx hb dL_drop_18 (by decide) ?_
    exact hp_iret (v := 0) B0 hw hS hr ⟨Nat.le_of_ble_eq_true rfl, Nat.le_of_ble_eq_true rfl⟩ dL_drop_19 (⟨Or.inl ⟨hz8, rfl, (CW.eq hC8 (show hEq [out] f1 f5 from (by rw [ef5]; exact hEq.up (by simp))) (fun p9 h9 h8 => hno (by rw [← List.mem_singleton.mp h8]; exact h9)) (fun b9 h9 => by rw [List.mem_singleton.mp h9]; exact ⟨_, _, h4, h6, (Nat.ne_of_beq_eq_false rfl), (Nat.ne_of_beq_eq_false rfl), (Nat.ne_of_beq_eq_false rfl)⟩)), h6⟩, ((show hKp [out, xo, ez, eo, bu, nw0, na0, nq0, nr0, nw1, na1, nq1, nr1, bs, bp, bh, bf, bl, bg] f f1 from (hk8.mono (fun x9 hx9 => by simp only [List.mem_cons, List.not_mem_nil, or_false] at hx9; rcases hx9 with hx9 | hx9 | hx9 | hx9 | hx9 | hx9 | hx9 | hx9 | hx9 | hx9 | hx9 | hx9 | hx9 | hx9 | hx9 | hx9 | hx9 | hx9 <;> (rw [hx9]; simp)))).tr (show hKp [out, xo, ez, eo, bu, nw0, na0, nq0, nr0, nw1, na1, nq1, nr1, bs, bp, bh, bf, bl, bg] f1 f5 from (by rw [ef5]; exact hKp.up h4 (Nat.ne_of_beq_eq_false rfl) (by simp))))⟩)

set_option maxHeartbeats 4000000 in
set_option maxRecDepth 100000 in
theorem c_L_givenAt {l : Launch} (hl : l.stackTraces = false) (G : hG) (f : hM) (xo ez eo bu nw0 na0 nq0 nr0 nw1 na1 nq1 nr1 bs bp bh bf bl bg : Nat) (gw0 : Nat → Int32) (ga0 : Nat → Int32) (gw1 : Nat → Int32) (ga1 : Nat → Int32) (mg0 : Int32) (mg1 : Int32) (n : Nat) (a : Nat) (cg : Nat) (x : Nat) (sa : Nat → Nat) (pk : Nat → Nat) (fl : Nat → Nat) (gv : Nat → Nat) (gh : Nat → Int32) (gl : Nat → Int32) (hC : CW G f xo ez eo bu nw0 na0 nq0 nr0 nw1 na1 nq1 nr1 bs bp bh bf bl bg gw0 ga0 gw1 ga1 mg0 mg1 n a cg x sa pk fl gv gh gl) (out : Nat) (go : Nat → Int64) (k_out : f out = some (.inl (cJ G, 1, .inr (.inl go)))) (hno : out ∉ [xo, ez, eo, bu, nw0, na0, nq0, nr0, nw1, na1, nq1, nr1, bs, bp, bh, bf, bl, bg]) (xv : Int32) : CT l yL_givenAt (.codeWith yL_givenAt cL_givenAt 4 (some .int) [(0, 9, 12, 13)]) 7 103 1 6 G [.ref xo, .int xv, .ref out] f (fun v f1 => ((spc (0 ≤ xv.toInt ∧ xv.toInt < (cg : Int)) True = 0 ∧ v = some (.int 0) ∧ CW G f1 xo ez eo bu nw0 na0 nq0 nr0 nw1 na1 nq1 nr1 bs bp bh bf bl bg gw0 ga0 gw1 ga1 mg0 mg1 n a cg x sa pk fl gv gh gl ∧ f1 out = some (.inl (cJ G, 1, .inr (.inl (vp_updL go (0 : Int32).toNatClampNeg ((nI (gv xv.toNatClampNeg)) : Int32).toInt64))))) ∨ (¬ spc (0 ≤ xv.toInt ∧ xv.toInt < (cg : Int)) True = 0 ∧ v = some (.int (spc (0 ≤ xv.toInt ∧ xv.toInt < (cg : Int)) True)) ∧ CW G f1 xo ez eo bu nw0 na0 nq0 nr0 nw1 na1 nq1 nr1 bs bp bh bf bl bg gw0 ga0 gw1 ga1 mg0 mg1 n a cg x sa pk fl gv gh gl ∧ ∃ g9 : Nat → Int64, f1 out = some (.inl (cJ G, 1, .inr (.inl g9))))) ∧ hKp [out, xo, ez, eo, bu, nw0, na0, nq0, nr0, nw1, na1, nq1, nr1, bs, bp, bh, bf, bl, bg] f f1) (fun E f1 => False) := by
  refine hp_startH hl (own := RL) (by decide) rfl (Nat.le_of_ble_eq_true rfl) ?_
  intro p e s m args below meth c B0 hr htab hw hS ls hl9
  have hx := B0.1
  have hb := B0.2.1
  have hl9 : lv_has ls 4 [(0, .ref xo), (1, .int xv), (2, .ref out)] := hl9
  have k_xo := hC.1
  have no_xo : out ≠ xo := fun h9 => hno (by rw [h9]; simp)
  have no_ez : out ≠ ez := fun h9 => hno (by rw [h9]; simp)
  have no_eo : out ≠ eo := fun h9 => hno (by rw [h9]; simp)
  have no_bu : out ≠ bu := fun h9 => hno (by rw [h9]; simp)
  have no_nw0 : out ≠ nw0 := fun h9 => hno (by rw [h9]; simp)
  have no_na0 : out ≠ na0 := fun h9 => hno (by rw [h9]; simp)
  have no_nq0 : out ≠ nq0 := fun h9 => hno (by rw [h9]; simp)
  have no_nr0 : out ≠ nr0 := fun h9 => hno (by rw [h9]; simp)
  have no_nw1 : out ≠ nw1 := fun h9 => hno (by rw [h9]; simp)
  have no_na1 : out ≠ na1 := fun h9 => hno (by rw [h9]; simp)
  have no_nq1 : out ≠ nq1 := fun h9 => hno (by rw [h9]; simp)
  have no_nr1 : out ≠ nr1 := fun h9 => hno (by rw [h9]; simp)
  have no_bs : out ≠ bs := fun h9 => hno (by rw [h9]; simp)
  have no_bp : out ≠ bp := fun h9 => hno (by rw [h9]; simp)
  have no_bh : out ≠ bh := fun h9 => hno (by rw [h9]; simp)
  have no_bf : out ≠ bf := fun h9 => hno (by rw [h9]; simp)
  have no_bl : out ≠ bl := fun h9 => hno (by rw [h9]; simp)
  have no_bg : out ≠ bg := fun h9 => hno (by rw [h9]; simp)
  refine lv_aload_n hx hb dL_givenAt_0 rfl (lv_at hl9 2 rfl) ?_
  refine lv_iconst (v := 0) hx hb dL_givenAt_1 (by decide) ?_
  refine lv_aload_n hx hb dL_givenAt_2 rfl (lv_at hl9 0 rfl) ?_
  refine lv_iload_n hx hb dL_givenAt_3 rfl (lv_at hl9 1 rfl) ?_
  refine hp_V (ci := 4) (As := [.int xv]) (rest := [.int 0, .ref out]) B0 hw hS (c_W4_givenAt hl G f xo ez eo bu nw0 na0 nq0 nr0 nw1 na1 nq1 nr1 bs bp bh bf bl bg gw0 ga0 gw1 ga1 mg0 mg1 n a cg x sa pk fl gv gh gl hC xv) mV_X4_givenAt qM_L_73 rfl k_xo rfl rfl hl9.1 (Nat.le_of_ble_eq_true rfl) ⟨⟨Nat.le_of_ble_eq_true rfl, Nat.le_of_ble_eq_true rfl⟩, Nat.le_of_ble_eq_true rfl, Nat.le_of_ble_eq_true rfl⟩ dL_givenAt_4 (fun E ce q9 f1 H locs hPX hw hS hce hcv hcl => ?_) (fun v f1 H locs hP hw hS => ?_)
  · obtain ⟨hE9, hC8, hk8⟩ := hPX
    obtain ⟨eE9, hz8⟩ := hE9
    subst eE9
    refine hp_catch (name := eI) B0 [] _ _ (htab.trans rfl) (fun z hz => nomatch hz) rfl (by decide) qC_L_13 oC_eI hce hcv hcl ?_
    refine W.eq (g2 := F0 m 12 ls [.ref q9]) rfl ?_
    refine lv_astore_n (lv' := [(3, .ref q9), (0, .ref xo), (1, .int xv), (2, .ref out)]) hx hb dL_givenAt_12 rfl hl9 (by decide) rfl (fun ls hl9 => ?_)
    refine lv_iconst (v := 1) hx hb dL_givenAt_13 (by decide) ?_
    have h2 : f1 out = some (.inl (cJ G, 1, .inr (.inl go))) := hk8.1 _ _ k_out (Nat.ne_of_beq_eq_false rfl) (ninc no_xo (ninc no_ez (ninc no_eo (ninc no_bu (ninc no_nw0 (ninc no_na0 (ninc no_nq0 (ninc no_nr0 (ninc no_nw1 (ninc no_na1 (ninc no_nq1 (ninc no_nr1 (ninc no_bs (ninc no_bp (ninc no_bh (ninc no_bf (ninc no_bl (ninc no_bg nin0))))))))))))))))))
    exact hp_iret (v := 1) B0 hw hS hr ⟨Nat.le_of_ble_eq_true rfl, Nat.le_of_ble_eq_true rfl⟩ dL_givenAt_14 (⟨Or.inr ⟨(by rw [hz8]; decide), (by rw [hz8]), hC8, ⟨_, h2⟩⟩, (show hKp [out, xo, ez, eo, bu, nw0, na0, nq0, nr0, nw1, na1, nq1, nr1, bs, bp, bh, bf, bl, bg] f f1 from (hk8.mono (fun x9 hx9 => by simp only [List.mem_cons, List.not_mem_nil, or_false] at hx9; rcases hx9 with hx9 | hx9 | hx9 | hx9 | hx9 | hx9 | hx9 | hx9 | hx9 | hx9 | hx9 | hx9 | hx9 | hx9 | hx9 | hx9 | hx9 | hx9 <;> (rw [hx9]; simp))))⟩)
  · obtain ⟨hz8, ev9, hC8, hk8⟩ := hP
    subst ev9
    refine W.eq (g2 := F0 m 7 ls [.int (nI (gv xv.toNatClampNeg)), .int 0, .ref out]) rfl ?_
    refine lv_i2l (v := ((nI (gv xv.toNatClampNeg)) : Int32).toInt64) hx hb dL_givenAt_7 rfl ?_
    have h3 : f1 out = some (.inl (cJ G, 1, .inr (.inl go))) := hk8.1 _ _ k_out (Nat.ne_of_beq_eq_false rfl) (ninc no_xo (ninc no_ez (ninc no_eo (ninc no_bu (ninc no_nw0 (ninc no_na0 (ninc no_nq0 (ninc no_nr0 (ninc no_nw1 (ninc no_na1 (ninc no_nq1 (ninc no_nr1 (ninc no_bs (ninc no_bp (ninc no_bh (ninc no_bf (ninc no_bl (ninc no_bg nin0))))))))))))))))))
    refine hp_last B0 hw hS h3 (by unfold vp_in; decide) dL_givenAt_8 (fun H locs f4 ef4 hw hS => ?_)
    have h5 : f4 out = some (.inl (cJ G, 1, .inr (.inl (vp_updL go (0 : Int32).toNatClampNeg (((nI (gv xv.toNatClampNeg)) : Int32).toInt64))))) := by rw [ef4, va_up_self]
    refine lv_goto (tgt := 15) hx hb dL_givenAt_9 (by decide) ?_
    refine lv_iconst (v := 0) hx hb dL_givenAt_15 (by decide) ?_
    exact hp_iret (v := 0) B0 hw hS hr ⟨Nat.le_of_ble_eq_true rfl, Nat.le_of_ble_eq_true rfl⟩ dL_givenAt_16 (⟨Or.inl ⟨hz8, rfl, (CW.eq hC8 (show hEq [out] f1 f4 from (by rw [ef4]; exact hEq.up (by simp))) (fun p9 h9 h8 => hno (by rw [← List.mem_singleton.mp h8]; exact h9)) (fun b9 h9 => by rw [List.mem_singleton.mp h9]; exact ⟨_, _, h3, h5, (Nat.ne_of_beq_eq_false rfl), (Nat.ne_of_beq_eq_false rfl), (Nat.ne_of_beq_eq_false rfl)⟩)), h5⟩, ((show hKp [out, xo, ez, eo, bu, nw0, na0, nq0, nr0, nw1, na1, nq1, nr1, bs, bp, bh, bf, bl, bg] f f1 from (hk8.mono (fun x9 hx9 => by simp only [List.mem_cons, List.not_mem_nil, or_false] at hx9; rcases hx9 with hx9 | hx9 | hx9 | hx9 | hx9 | hx9 | hx9 | hx9 | hx9 | hx9 | hx9 | hx9 | hx9 | hx9 | hx9 | hx9 | hx9 | hx9 <;> (rw [hx9]; simp)))).tr (show hKp [out, xo, ez, eo, bu, nw0, na0, nq0, nr0, nw1, na1, nq1, nr1, bs, bp, bh, bf, bl, bg] f1 f4 from (by rw [ef4]; exact hKp.up h3 (Nat.ne_of_beq_eq_false rfl) (by simp))))⟩)

