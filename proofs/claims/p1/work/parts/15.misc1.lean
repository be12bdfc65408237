section HFOR
variable {p : Program} {l : Launch} {e : Env} {R : Room} {s : State} {m : MethodId} {args : Array Value} {below : List Frame} {meth : Method} {c : Code} {cells slots : Nat} {Q : State → Prop}
variable {nL pc : Nat} {G : hG}
/-- a counted loop: its head with what holds there, for each count -/
theorem hp_for (I : Nat → hM → List (Nat × Value) → Prop) (T : Nat)
    (step : ∀ (j : Nat) (f : hM) (lv : List (Nat × Value)) (H : Heap) (locs : List Loc) (ls : Array Slot), j < T → I j f lv → hW G f H → va_S (hFr G) s.heap H locs → lv_has ls nL lv →
      (∀ (f : hM) (lv : List (Nat × Value)) (H : Heap) (locs : List Loc) (ls : Array Slot), I (j + 1) f lv → hW G f H → va_S (hFr G) s.heap H locs → lv_has ls nL lv → W p l e R s m args below meth c H locs cells slots Q (F0 m pc ls [])) → W p l e R s m args below meth c H locs cells slots Q (F0 m pc ls []))
    (exit : ∀ (f : hM) (lv : List (Nat × Value)) (H : Heap) (locs : List Loc) (ls : Array Slot), I T f lv → hW G f H → va_S (hFr G) s.heap H locs → lv_has ls nL lv → W p l e R s m args below meth c H locs cells slots Q (F0 m pc ls [])) :
    ∀ (n j : Nat), j + n = T → ∀ (f : hM) (lv : List (Nat × Value)) (H : Heap) (locs : List Loc) (ls : Array Slot), I j f lv → hW G f H → va_S (hFr G) s.heap H locs → lv_has ls nL lv → W p l e R s m args below meth c H locs cells slots Q (F0 m pc ls []) := by
  intro n
  induction n with
  | zero =>
    intro j hj f lv H locs ls hI hw hS hl
    have e9 : j = T := by omega
    subst e9
    exact exit f lv H locs ls hI hw hS hl
  | succ n ih =>
    intro j hj f lv H locs ls hI hw hS hl
    exact step j f lv H locs ls (by omega) hI hw hS hl (fun f2 lv2 H2 locs2 ls2 h1 h2 h3 h4 => ih (j + 1) (by omega) f2 lv2 H2 locs2 ls2 h1 h2 h3 h4)
end HFOR
theorem cn_lt {x : Int32} {n : Nat} (h : vp_in x n) : x.toNatClampNeg < n := Nat.not_le.mp (fun q => h (Or.inr q))
theorem vin3 {o : Int32} (h : sL o) : vp_in o 3 := vp_in_iff.mpr ⟨h.1, h.2⟩
theorem F3_ge : ∀ j, j < 3 → (0 : Int32) ≤ (upd (upd (upd (fun _ => 0) (0 : Int32).toNatClampNeg 0) (1 : Int32).toNatClampNeg 1) (2 : Int32).toNatClampNeg 2) j := by decide
set_option maxHeartbeats 4000000 in
set_option maxRecDepth 100000 in
theorem c_X4_pass0 {l : Launch} (hl : l.stackTraces = false) (G : hG) (f : hM) (xo ez eo bu : Nat) (k_xo : f xo = some (.inr (4, [.ref ez, .ref eo, .ref bu]))) (nw0 na0 nq0 nr0 : Nat) (mg0 tm0 sr0 li0 lp0 mi0 : Int32) (k_ez : f ez = some (.inr (1, [.ref nw0, .ref na0, .ref nq0, .ref nr0, .int mg0, .int 0, .int tm0, .int sr0, .int li0, .int lp0, .int mi0]))) (nw1 na1 nq1 nr1 : Nat) (mg1 tm1 sr1 li1 lp1 mi1 : Int32) (k_eo : f eo = some (.inr (1, [.ref nw1, .ref na1, .ref nq1, .ref nr1, .int mg1, .int 0, .int tm1, .int sr1, .int li1, .int lp1, .int mi1]))) (x : Int32) : CT l yX4_pass (.code yX4_pass cX4_pass 4 (some .int)) 6 82 1 6 G [.ref xo, .int x] f (fun v f1 => spc (sT x) True = 0 ∧ v = some (.int 0) ∧ f1 = f) (fun E f1 => f1 = f ∧ E = eA ∧ spc (sT x) True = 1) := by
  refine hp_start hl (own := RX4) (by decide) rfl (Nat.le_of_ble_eq_true rfl) ?_
  intro p e s m args below meth c B0 hr hnm hout hw hS ls hl9
  have hx := B0.1
  have hb := B0.2.1
  have hl9 : lv_has ls 4 [(0, .ref xo), (1, .int x)] := hl9
  refine lv_iload_n hx hb dX4_pass_0 rfl (lv_at hl9 1 rfl) ?_
  refine lv_iconst (v := 1) hx hb dX4_pass_1 (by decide) ?_
  refine lv_icmp_lt (tgt := 11) hx hb dX4_pass_2 (by decide) (fun c1 => ?_) (fun c1 => ?_)
  · exact hp_throw (cls := eA) (names := tNm) B0 hw hS hout tF_eA qC_X4_35 qN_java_lang_IllegalArgumentException sR_X4_89 tA_eA tB_eA tG_eA hl9.1 dX4_pass_11 dX4_pass_14 dX4_pass_15 dX4_pass_17 dX4_pass_20 ⟨⟨Nat.le_of_ble_eq_true rfl, Nat.le_of_ble_eq_true rfl⟩, Nat.le_of_ble_eq_true rfl, Nat.le_of_ble_eq_true rfl⟩ ⟨Nat.le_of_ble_eq_true rfl, Nat.le_of_ble_eq_true rfl⟩ (⟨rfl, rfl, spc_1 (fun h9 => by have h1 := c1; simp only [jlt, jle, tq0, tq1, tq3, tq4, tq6, tq9, tq50, tq60, tq1023, tqm1] at h1; obtain ⟨h3, h4⟩ := h9; omega)⟩)
  · refine lv_iload_n hx hb dX4_pass_5 rfl (lv_at hl9 1 rfl) ?_
    refine lv_bipush (v := 50) hx hb dX4_pass_6 (by decide) ?_
    refine lv_icmp_le (tgt := 21) hx hb dX4_pass_8 (by decide) (fun c2 => ?_) (fun c2 => ?_)
    · refine lv_iconst (v := 0) hx hb dX4_pass_21 (by decide) ?_
      refine lv_istore_n (lv' := [(2, .int 0), (0, .ref xo), (1, .int x)]) hx hb dX4_pass_22 rfl hl9 (by decide) rfl (fun ls hl9 => ?_)
      refine lv_iconst (v := 0) hx hb dX4_pass_23 (by decide) ?_
      refine lv_istore_n (lv' := [(3, .int 0), (2, .int 0), (0, .ref xo), (1, .int x)]) hx hb dX4_pass_24 rfl hl9 (by decide) rfl (fun ls hl9 => ?_)
      have hsT : sT x := by have h1 := c1; have h2 := c2; simp only [jlt, jle, tq0, tq1, tq3, tq4, tq6, tq9, tq50, tq60, tq1023, tqm1] at h1 h2; exact ⟨by omega, by omega⟩
      obtain ⟨T, hT, eT⟩ := nI_of2 (x := x) (M := 50) (n := 50) rfl (by have h1 := hsT.1; simp only [jlt, jle, tq0, tq1, tq3, tq4, tq6, tq9, tq50, tq60, tq1023, tqm1]; omega) (by have h1 := hsT.2; simp only [jlt, jle, tq0, tq1, tq3, tq4, tq6, tq9, tq50, tq60, tq1023, tqm1]; omega)
      refine hp_for (nL := 4) (pc := 25) (fun j f9 lv9 => f9 = f ∧ lv9 = [(3, .int (nI j)), (0, .ref xo), (1, .int x), (2, .int 0)]) T (fun j f9 lv9 H locs ls hj hI hw hS hl9 ih => ?_) (fun f9 lv9 H locs ls hI hw hS hl9 => ?_) T 0 (by omega) f _ _ _ ls ⟨rfl, rfl⟩ hw hS (lv_sub hl9 [0, 2, 3, 1] rfl)
      · rw [hI.1] at hw
        rw [hI.2] at hl9
        refine lv_iload_n hx hb dX4_pass_25 rfl (lv_at hl9 0 rfl) ?_
        refine lv_iload_n hx hb dX4_pass_26 rfl (lv_at hl9 2 rfl) ?_
        refine lv_icmp_ge (tgt := 72) hx hb dX4_pass_27 (by decide) (fun c9 => absurd c9 (by rw [eT]; exact nI_ge hj (by omega))) (fun _ => ?_)
        refine lv_iload_n hx hb dX4_pass_30 rfl (lv_at hl9 3 rfl) ?_
        refine lv_aload_n hx hb dX4_pass_31 rfl (lv_at hl9 1 rfl) ?_
        refine hp_get B0 hw 4 rfl in_X4 k_xo 0 (by decide) qF_X4_12 rfl dX4_pass_32 ?_
        refine hp_V (ci := 1) (As := []) (rest := [.int 0]) B0 hw hS (c_X1_tick0 hl G f ez nw0 na0 nq0 nr0 mg0 tm0 sr0 li0 lp0 mi0 k_ez) mV_X1_tick qM_X4_91 rfl k_ez rfl rfl hl9.1 (Nat.le_of_ble_eq_true rfl) ⟨⟨Nat.le_of_ble_eq_true rfl, Nat.le_of_ble_eq_true rfl⟩, Nat.le_of_ble_eq_true rfl, Nat.le_of_ble_eq_true rfl⟩ dX4_pass_35 (fun E ce q9 f3 H locs hPX hw hS hce hcv hcl => ?_) (fun v f3 H locs hP hw hS => ?_)
        · exact hPX.elim
        · obtain ⟨ev9, ef9⟩ := hP
          rw [ef9] at hw
          subst ev9
          refine W.eq (g2 := F0 m 38 ls [.int 0, .int 0]) rfl ?_
          refine lv_if_eq (tgt := 45) hx hb dX4_pass_38 (by decide) (fun _ => ?_) (fun c9 => absurd (by decide) c9)
          refine lv_iconst (v := 0) hx hb dX4_pass_45 (by decide) ?_
          refine lv_iadd hx hb dX4_pass_46 ?_
          refine hp_c (v := 0) (by decide) ?_
          refine lv_istore_n (lv' := [(2, .int 0), (3, .int (nI j)), (0, .ref xo), (1, .int x)]) hx hb dX4_pass_47 rfl hl9 (by decide) rfl (fun ls hl9 => ?_)
          refine lv_iload_n hx hb dX4_pass_48 rfl (lv_at hl9 0 rfl) ?_
          refine lv_aload_n hx hb dX4_pass_49 rfl (lv_at hl9 2 rfl) ?_
          refine hp_get B0 hw 4 rfl in_X4 k_xo 1 (by decide) qF_X4_18 rfl dX4_pass_50 ?_
          refine hp_V (ci := 1) (As := []) (rest := [.int 0]) B0 hw hS (c_X1_tick0 hl G f eo nw1 na1 nq1 nr1 mg1 tm1 sr1 li1 lp1 mi1 k_eo) mV_X1_tick qM_X4_91 rfl k_eo rfl rfl hl9.1 (Nat.le_of_ble_eq_true rfl) ⟨⟨Nat.le_of_ble_eq_true rfl, Nat.le_of_ble_eq_true rfl⟩, Nat.le_of_ble_eq_true rfl, Nat.le_of_ble_eq_true rfl⟩ dX4_pass_53 (fun E ce q9 f4 H locs hPX hw hS hce hcv hcl => ?_) (fun v f4 H locs hP hw hS => ?_)
          · exact hPX.elim
          · obtain ⟨ev9, ef9⟩ := hP
            rw [ef9] at hw
            subst ev9
            refine W.eq (g2 := F0 m 56 ls [.int 0, .int 0]) rfl ?_
            refine lv_if_eq (tgt := 63) hx hb dX4_pass_56 (by decide) (fun _ => ?_) (fun c9 => absurd (by decide) c9)
            refine lv_iconst (v := 0) hx hb dX4_pass_63 (by decide) ?_
            refine lv_iadd hx hb dX4_pass_64 ?_
            refine hp_c (v := 0) (by decide) ?_
            refine lv_istore_n (lv' := [(2, .int 0), (3, .int (nI j)), (0, .ref xo), (1, .int x)]) hx hb dX4_pass_65 rfl hl9 (by decide) rfl (fun ls hl9 => ?_)
            refine lv_iinc (v := (nI (j + 1))) (lv' := [(3, .int (nI (j + 1))), (2, .int 0), (0, .ref xo), (1, .int x)]) hx hb dX4_pass_66 hl9 (k := 1) rfl (nI_1 j) (by decide) rfl (fun ls hl9 => ?_)
            refine lv_goto (tgt := 25) hx hb dX4_pass_69 (by decide) ?_
            exact ih _ _ H locs ls ⟨rfl, rfl⟩ hw hS (lv_sub hl9 [0, 2, 3, 1] rfl)
      · rw [hI.1] at hw
        rw [hI.2] at hl9
        refine lv_iload_n hx hb dX4_pass_25 rfl (lv_at hl9 0 rfl) ?_
        refine lv_iload_n hx hb dX4_pass_26 rfl (lv_at hl9 2 rfl) ?_
        refine lv_icmp_ge (tgt := 72) hx hb dX4_pass_27 (by decide) (fun _ => ?_) (fun c9 => absurd (by rw [eT]; exact nI_le (Nat.le_refl _) (by omega)) c9)
        refine lv_iload_n hx hb dX4_pass_72 rfl (lv_at hl9 3 rfl) ?_
        exact hp_iret (v := 0) B0 hw hS hr ⟨Nat.le_of_ble_eq_true rfl, Nat.le_of_ble_eq_true rfl⟩ dX4_pass_73 (⟨spc_0 hsT trivial, rfl, rfl⟩)
    · exact hp_throw (cls := eA) (names := tNm) B0 hw hS hout tF_eA qC_X4_35 qN_java_lang_IllegalArgumentException sR_X4_89 tA_eA tB_eA tG_eA hl9.1 dX4_pass_11 dX4_pass_14 dX4_pass_15 dX4_pass_17 dX4_pass_20 ⟨⟨Nat.le_of_ble_eq_true rfl, Nat.le_of_ble_eq_true rfl⟩, Nat.le_of_ble_eq_true rfl, Nat.le_of_ble_eq_true rfl⟩ ⟨Nat.le_of_ble_eq_true rfl, Nat.le_of_ble_eq_true rfl⟩ (⟨rfl, rfl, spc_1 (fun h9 => by have h1 := c2; simp only [jlt, jle, tq0, tq1, tq3, tq4, tq6, tq9, tq50, tq60, tq1023, tqm1] at h1; obtain ⟨h3, h4⟩ := h9; omega)⟩)

set_option maxHeartbeats 4000000 in
set_option maxRecDepth 100000 in
theorem c_X0_addPacket0 {l : Launch} (hl : l.stackTraces = false) (G : hG) (f : hM) (bu bs bp bh bf bl bg : Nat) (k_bu : f bu = some (.inr (0, [.ref bs, .ref bp, .ref bh, .ref bf, .ref bl, .ref bg, .int 0, .int 0, .int 0]))) (k_bs : f bs = some (.inl (cI G, 61, .inl (fun _ => 0)))) (k_bp : f bp = some (.inl (cI G, 240, .inl (fun _ => 0)))) (nsp : bs ≠ bp) (x : Int32) (hsP : sP x) : CT l yX0_addPacket (.code yX0_addPacket cX0_addPacket 4 (some .int)) 0 0 0 0 G [.ref bu, .int x] f (fun v f1 => v = some (.int 0) ∧ hKeep [bu, bs, bp] f f1) (fun E f1 => False) := by
  refine hp_start hl (own := RX0) (by decide) rfl (Nat.le_of_ble_eq_true rfl) ?_
  intro p e s m args below meth c B0 hr hnm hout hw hS ls hl9
  have hx := B0.1
  have hb := B0.2.1
  have hl9 : lv_has ls 4 [(0, .ref bu), (1, .int x)] := hl9
  refine lv_aload_n hx hb dX0_addPacket_0 rfl (lv_at hl9 0 rfl) ?_
  refine hp_get B0 hw 0 rfl in_X0 k_bu 0 (by decide) qF_X0_9 rfl dX0_addPacket_1 ?_
  refine lv_aload_n hx hb dX0_addPacket_4 rfl (lv_at hl9 0 rfl) ?_
  refine hp_get B0 hw 0 rfl in_X0 k_bu 6 (by decide) qF_X0_31 rfl dX0_addPacket_5 ?_
  refine hp_iald B0 hw k_bs (by unfold vp_in; decide) dX0_addPacket_8 ?_
  refine hp_c (v := 0) (rfl) ?_
  refine lv_istore_n (lv' := [(2, .int 0), (0, .ref bu), (1, .int x)]) hx hb dX0_addPacket_9 rfl hl9 (by decide) rfl (fun ls hl9 => ?_)
  refine lv_iload_n hx hb dX0_addPacket_10 rfl (lv_at hl9 0 rfl) ?_
  refine lv_istore_n (lv' := [(3, .int 0), (2, .int 0), (0, .ref bu), (1, .int x)]) hx hb dX0_addPacket_11 rfl hl9 (by decide) rfl (fun ls hl9 => ?_)
  obtain ⟨T, hT, eT⟩ := nI_of2 (x := x) (M := 4) (n := 4) rfl (by have h1 := hsP.1; simp only [jlt, jle, tq0, tq1, tq3, tq4, tq6, tq9, tq50, tq60, tq1023, tqm1]; omega) (by have h1 := hsP.2; simp only [jlt, jle, tq0, tq1, tq3, tq4, tq6, tq9, tq50, tq60, tq1023, tqm1]; omega)
  refine hp_for (nL := 4) (pc := 12) (fun j f9 lv9 => (∃ g9 : Nat → Int32, f9 bp = some (.inl (cI G, 240, .inl g9)) ∧ f9 bu = some (.inr (0, [.ref bs, .ref bp, .ref bh, .ref bf, .ref bl, .ref bg, .int 0, .int 0, .int 0]))) ∧ hKeep [bp] f f9 ∧ lv9 = [(3, .int (nI j)), (0, .ref bu), (1, .int x), (2, .int 0)]) T (fun j f9 lv9 H locs ls hj hI hw hS hl9 ih => ?_) (fun f9 lv9 H locs ls hI hw hS hl9 => ?_) T 0 (by omega) f _ _ _ ls ⟨⟨_, k_bp, k_bu⟩, hKeep.rf, rfl⟩ hw hS (lv_sub hl9 [0, 2, 3, 1] rfl)
  · obtain ⟨⟨g9, kb9, ku9⟩, kk9, el9⟩ := hI
    rw [el9] at hl9
    refine lv_iload_n hx hb dX0_addPacket_12 rfl (lv_at hl9 0 rfl) ?_
    refine lv_iload_n hx hb dX0_addPacket_13 rfl (lv_at hl9 3 rfl) ?_
    refine lv_iload_n hx hb dX0_addPacket_14 rfl (lv_at hl9 2 rfl) ?_
    refine lv_iadd hx hb dX0_addPacket_15 ?_
    refine hp_c (v := x) (Int32.zero_add _) ?_
    refine lv_icmp_ge (tgt := 35) hx hb dX0_addPacket_16 (by decide) (fun c9 => absurd c9 (by rw [eT]; exact nI_ge hj (by omega))) (fun _ => ?_)
    refine lv_aload_n hx hb dX0_addPacket_19 rfl (lv_at hl9 1 rfl) ?_
    refine hp_get B0 hw 0 rfl in_X0 ku9 1 (by decide) qF_X0_15 rfl dX0_addPacket_20 ?_
    refine lv_iload_n hx hb dX0_addPacket_23 rfl (lv_at hl9 0 rfl) ?_
    refine lv_aload_n hx hb dX0_addPacket_24 rfl (lv_at hl9 1 rfl) ?_
    refine hp_get B0 hw 0 rfl in_X0 ku9 6 (by decide) qF_X0_31 rfl dX0_addPacket_25 ?_
    refine hp_iast B0 hw hS kb9 (vp_in_nI (show j < 240 by omega) (by decide)) dX0_addPacket_28 (fun H locs f1 ef1 hw hS => ?_)
    have h2 : f1 bp = some (.inl (cI G, 240, .inl (upd g9 ((nI j) : Int32).toNatClampNeg 0))) := by rw [ef1, va_up_self]
    refine lv_iinc (v := (nI (j + 1))) (lv' := [(3, .int (nI (j + 1))), (0, .ref bu), (1, .int x), (2, .int 0)]) hx hb dX0_addPacket_29 hl9 (k := 0) rfl (nI_1 j) (by decide) rfl (fun ls hl9 => ?_)
    refine lv_goto (tgt := 12) hx hb dX0_addPacket_32 (by decide) ?_
    have n4 : bu ≠ bp := hne ku9 kb9 (Nat.ne_of_beq_eq_false rfl)
    have h3 : f1 bu = some (.inr (0, [.ref bs, .ref bp, .ref bh, .ref bf, .ref bl, .ref bg, .int 0, .int 0, .int 0])) := by rw [ef1, va_up_ne _ _ n4]; exact ku9
    exact ih _ _ H locs ls ⟨⟨_, h2, h3⟩, kk9.tr (show hKeep [bp] f9 f1 from (by rw [ef1]; exact hKeep.up (by simp))), rfl⟩ hw hS (lv_sub hl9 [0, 1, 2, 3] rfl)
  · obtain ⟨⟨g9, kb9, ku9⟩, kk9, el9⟩ := hI
    rw [el9] at hl9
    refine lv_iload_n hx hb dX0_addPacket_12 rfl (lv_at hl9 0 rfl) ?_
    refine lv_iload_n hx hb dX0_addPacket_13 rfl (lv_at hl9 3 rfl) ?_
    refine lv_iload_n hx hb dX0_addPacket_14 rfl (lv_at hl9 2 rfl) ?_
    refine lv_iadd hx hb dX0_addPacket_15 ?_
    refine hp_c (v := x) (Int32.zero_add _) ?_
    refine lv_icmp_ge (tgt := 35) hx hb dX0_addPacket_16 (by decide) (fun _ => ?_) (fun c9 => absurd (by rw [eT]; exact nI_le (Nat.le_refl _) (by omega)) c9)
    refine lv_aload_n hx hb dX0_addPacket_35 rfl (lv_at hl9 1 rfl) ?_
    refine lv_dup hx hb dX0_addPacket_36 rfl ?_
    have n6 : bu ≠ bp := hne k_bu k_bp (Nat.ne_of_beq_eq_false rfl)
    have h5 : f9 bu = some (.inr (0, [.ref bs, .ref bp, .ref bh, .ref bf, .ref bl, .ref bg, .int 0, .int 0, .int 0])) := kk9 _ _ k_bu (ninc n6 nin0)
    refine hp_get B0 hw 0 rfl in_X0 h5 6 (by decide) qF_X0_31 rfl dX0_addPacket_37 ?_
    refine lv_iconst (v := 1) hx hb dX0_addPacket_40 (by decide) ?_
    refine lv_iadd hx hb dX0_addPacket_41 ?_
    refine hp_c (v := 1) (by decide) ?_
    refine hp_put (fs1 := [.ref bs, .ref bp, .ref bh, .ref bf, .ref bl, .ref bg, .int 1, .int 0, .int 0]) (ty := .int) B0 hw hS 0 rfl in_X0 tyX0 tyX0_ok nmX0 h5 6 (by decide) qF_X0_31 rfl (by decide +kernel) rfl rfl (Nat.le_of_ble_eq_true rfl) rfl dX0_addPacket_42 (fun H locs f7 ef7 hw hS => ?_)
    have h8 : f7 bu = some (.inr (0, [.ref bs, .ref bp, .ref bh, .ref bf, .ref bl, .ref bg, .int 1, .int 0, .int 0])) := by rw [ef7, va_up_self]
    refine lv_aload_n hx hb dX0_addPacket_45 rfl (lv_at hl9 1 rfl) ?_
    refine hp_get B0 hw 0 rfl in_X0 h8 0 (by decide) qF_X0_9 rfl dX0_addPacket_46 ?_
    refine lv_aload_n hx hb dX0_addPacket_49 rfl (lv_at hl9 1 rfl) ?_
    refine hp_get B0 hw 0 rfl in_X0 h8 6 (by decide) qF_X0_31 rfl dX0_addPacket_50 ?_
    refine lv_iload_n hx hb dX0_addPacket_53 rfl (lv_at hl9 3 rfl) ?_
    refine lv_iload_n hx hb dX0_addPacket_54 rfl (lv_at hl9 2 rfl) ?_
    refine lv_iadd hx hb dX0_addPacket_55 ?_
    refine hp_c (v := x) (Int32.zero_add _) ?_
    have h9 : f9 bs = some (.inl (cI G, 61, .inl (fun _ => 0))) := kk9 _ _ k_bs (ninc nsp nin0)
    have n11 : bs ≠ bu := hne k_bs k_bu (Nat.ne_of_beq_eq_false rfl)
    have h10 : f7 bs = some (.inl (cI G, 61, .inl (fun _ => 0))) := by rw [ef7, va_up_ne _ _ n11]; exact h9
    refine hp_iast B0 hw hS h10 (by unfold vp_in; decide) dX0_addPacket_56 (fun H locs f12 ef12 hw hS => ?_)
    have h13 : f12 bs = some (.inl (cI G, 61, .inl (upd (fun _ => 0) (1 : Int32).toNatClampNeg x))) := by rw [ef12, va_up_self]
    refine lv_iload_n hx hb dX0_addPacket_57 rfl (lv_at hl9 3 rfl) ?_
    exact hp_iret (v := 0) B0 hw hS hr ⟨Nat.le_of_ble_eq_true rfl, Nat.le_of_ble_eq_true rfl⟩ dX0_addPacket_58 (⟨rfl, ((show hKeep [bu, bs, bp] f f9 from (kk9.mono (fun x9 hx9 => by simp only [List.mem_cons, List.not_mem_nil, or_false] at hx9 ⊢; omega))).tr ((show hKeep [bu, bs, bp] f9 f7 from (by rw [ef7]; exact hKeep.up (by simp))).tr (show hKeep [bu, bs, bp] f7 f12 from (by rw [ef12]; exact hKeep.up (by simp)))))⟩)

set_option maxHeartbeats 4000000 in
set_option maxRecDepth 100000 in
theorem c_X4_send0 {l : Launch} (hl : l.stackTraces = false) (G : hG) (f : hM) (xo ez eo bu : Nat) (k_xo : f xo = some (.inr (4, [.ref ez, .ref eo, .ref bu]))) (bs bp bh bf bl bg : Nat) (k_bu : f bu = some (.inr (0, [.ref bs, .ref bp, .ref bh, .ref bf, .ref bl, .ref bg, .int 0, .int 0, .int 0]))) (k_bs : f bs = some (.inl (cI G, 61, .inl (fun _ => 0)))) (k_bp : f bp = some (.inl (cI G, 240, .inl (fun _ => 0)))) (nsp : bs ≠ bp) (x : Int32) : CT l yX4_send (.code yX4_send cX4_send 2 (some .int)) 6 82 1 6 G [.ref xo, .int x] f (fun v f1 => spc (sP x) True = 0 ∧ v = some (.int 0) ∧ hKeep [bu, bs, bp] f f1) (fun E f1 => f1 = f ∧ E = eA ∧ spc (sP x) True = 1) := by
  refine hp_start hl (own := RX4) (by decide) rfl (Nat.le_of_ble_eq_true rfl) ?_
  intro p e s m args below meth c B0 hr hnm hout hw hS ls hl9
  have hx := B0.1
  have hb := B0.2.1
  have hl9 : lv_has ls 2 [(0, .ref xo), (1, .int x)] := hl9
  refine lv_iload_n hx hb dX4_send_0 rfl (lv_at hl9 1 rfl) ?_
  refine lv_iconst (v := 1) hx hb dX4_send_1 (by decide) ?_
  refine lv_icmp_lt (tgt := 10) hx hb dX4_send_2 (by decide) (fun c1 => ?_) (fun c1 => ?_)
  · exact hp_throw (cls := eA) (names := tNm) B0 hw hS hout tF_eA qC_X4_35 qN_java_lang_IllegalArgumentException sR_X4_115 tA_eA tB_eA tG_eA hl9.1 dX4_send_10 dX4_send_13 dX4_send_14 dX4_send_16 dX4_send_19 ⟨⟨Nat.le_of_ble_eq_true rfl, Nat.le_of_ble_eq_true rfl⟩, Nat.le_of_ble_eq_true rfl, Nat.le_of_ble_eq_true rfl⟩ ⟨Nat.le_of_ble_eq_true rfl, Nat.le_of_ble_eq_true rfl⟩ (⟨rfl, rfl, spc_1 (fun h9 => by have h1 := c1; simp only [jlt, jle, tq0, tq1, tq3, tq4, tq6, tq9, tq50, tq60, tq1023, tqm1] at h1; obtain ⟨h3, h4⟩ := h9; omega)⟩)
  · refine lv_iload_n hx hb dX4_send_5 rfl (lv_at hl9 1 rfl) ?_
    refine lv_iconst (v := 4) hx hb dX4_send_6 (by decide) ?_
    refine lv_icmp_le (tgt := 20) hx hb dX4_send_7 (by decide) (fun c2 => ?_) (fun c2 => ?_)
    · refine lv_aload_n hx hb dX4_send_20 rfl (lv_at hl9 0 rfl) ?_
      refine hp_get B0 hw 4 rfl in_X4 k_xo 2 (by decide) qF_X4_24 rfl dX4_send_21 ?_
      refine hp_getN B0 hw 0 rfl in_X0 k_bu 6 (by decide) oF_X4_117 rfl dX4_send_24 ?_
      refine lv_bipush (v := 60) hx hb dX4_send_27 (by decide) ?_
      refine lv_icmp_lt (tgt := 42) hx hb dX4_send_29 (by decide) (fun _ => ?_) (fun c9 => absurd (by decide) c9)
      have hsP : sP x := by have h1 := c1; have h2 := c2; simp only [jlt, jle, tq0, tq1, tq3, tq4, tq6, tq9, tq50, tq60, tq1023, tqm1] at h1 h2; exact ⟨by omega, by omega⟩
      refine lv_aload_n hx hb dX4_send_42 rfl (lv_at hl9 0 rfl) ?_
      refine hp_get B0 hw 4 rfl in_X4 k_xo 2 (by decide) qF_X4_24 rfl dX4_send_43 ?_
      refine lv_iload_n hx hb dX4_send_46 rfl (lv_at hl9 1 rfl) ?_
      refine hp_V (ci := 0) (As := [.int x]) (rest := []) B0 hw hS (c_X0_addPacket0 hl G f bu bs bp bh bf bl bg k_bu k_bs k_bp nsp x hsP) mV_X0_addPacket qM_X4_122 rfl k_bu rfl rfl hl9.1 (Nat.le_of_ble_eq_true rfl) ⟨⟨Nat.le_of_ble_eq_true rfl, Nat.le_of_ble_eq_true rfl⟩, Nat.le_of_ble_eq_true rfl, Nat.le_of_ble_eq_true rfl⟩ dX4_send_47 (fun E ce q9 f3 H locs hPX hw hS hce hcv hcl => ?_) (fun v f3 H locs hP hw hS => ?_)
      · exact hPX.elim
      · obtain ⟨ev9, k4⟩ := hP
        subst ev9
        refine W.eq (g2 := F0 m 50 ls [.int 0]) rfl ?_
        exact hp_iret (v := 0) B0 hw hS hr ⟨Nat.le_of_ble_eq_true rfl, Nat.le_of_ble_eq_true rfl⟩ dX4_send_50 (⟨spc_0 hsP trivial, rfl, (show hKeep [bu, bs, bp] f f3 from (k4.mono (fun x9 hx9 => by simp only [List.mem_cons, List.not_mem_nil, or_false] at hx9 ⊢; omega)))⟩)
    · exact hp_throw (cls := eA) (names := tNm) B0 hw hS hout tF_eA qC_X4_35 qN_java_lang_IllegalArgumentException sR_X4_115 tA_eA tB_eA tG_eA hl9.1 dX4_send_10 dX4_send_13 dX4_send_14 dX4_send_16 dX4_send_19 ⟨⟨Nat.le_of_ble_eq_true rfl, Nat.le_of_ble_eq_true rfl⟩, Nat.le_of_ble_eq_true rfl, Nat.le_of_ble_eq_true rfl⟩ ⟨Nat.le_of_ble_eq_true rfl, Nat.le_of_ble_eq_true rfl⟩ (⟨rfl, rfl, spc_1 (fun h9 => by have h1 := c2; simp only [jlt, jle, tq0, tq1, tq3, tq4, tq6, tq9, tq50, tq60, tq1023, tqm1] at h1; obtain ⟨h3, h4⟩ := h9; omega)⟩)

set_option maxHeartbeats 4000000 in
set_option maxRecDepth 100000 in
theorem c_X0_hasPieceOn0 {l : Launch} (hl : l.stackTraces = false) (G : hG) (f : hM) (bu bs bp bh bf bl bg : Nat) (k_bu : f bu = some (.inr (0, [.ref bs, .ref bp, .ref bh, .ref bf, .ref bl, .ref bg, .int 0, .int 0, .int 0]))) (k_bs : f bs = some (.inl (cI G, 61, .inl (fun _ => 0)))) (k_bf : f bf = some (.inl (cI G, 3, .inl (upd (upd (upd (fun _ => 0) (0 : Int32).toNatClampNeg 0) (1 : Int32).toNatClampNeg 1) (2 : Int32).toNatClampNeg 2)))) (x : Int32) (hsl : sL x) : CT l yX0_hasPieceOn (.code yX0_hasPieceOn cX0_hasPieceOn 2 (some .boolean)) 0 0 0 0 G [.ref bu, .int x] f (fun v f1 => v = some (.int 0) ∧ f1 = f) (fun E f1 => False) := by
  refine hp_start hl (own := RX0) (by decide) rfl (Nat.le_of_ble_eq_true rfl) ?_
  intro p e s m args below meth c B0 hr hnm hout hw hS ls hl9
  have hx := B0.1
  have hb := B0.2.1
  have hl9 : lv_has ls 2 [(0, .ref bu), (1, .int x)] := hl9
  refine lv_aload_n hx hb dX0_hasPieceOn_0 rfl (lv_at hl9 0 rfl) ?_
  refine hp_get B0 hw 0 rfl in_X0 k_bu 3 (by decide) qF_X0_22 rfl dX0_hasPieceOn_1 ?_
  refine lv_iload_n hx hb dX0_hasPieceOn_4 rfl (lv_at hl9 1 rfl) ?_
  refine hp_iald B0 hw k_bf (vin3 hsl) dX0_hasPieceOn_5 ?_
  refine lv_aload_n hx hb dX0_hasPieceOn_6 rfl (lv_at hl9 0 rfl) ?_
  refine hp_get B0 hw 0 rfl in_X0 k_bu 0 (by decide) qF_X0_9 rfl dX0_hasPieceOn_7 ?_
  refine lv_aload_n hx hb dX0_hasPieceOn_10 rfl (lv_at hl9 0 rfl) ?_
  refine hp_get B0 hw 0 rfl in_X0 k_bu 6 (by decide) qF_X0_31 rfl dX0_hasPieceOn_11 ?_
  refine hp_iald B0 hw k_bs (by unfold vp_in; decide) dX0_hasPieceOn_14 ?_
  refine hp_c (v := 0) (rfl) ?_
  refine lv_icmp_ge (tgt := 22) hx hb dX0_hasPieceOn_15 (by decide) (fun _ => ?_) (fun c9 => absurd (F3_ge _ (cn_lt (vin3 hsl))) c9)
  refine lv_iconst (v := 0) hx hb dX0_hasPieceOn_22 (by decide) ?_
  exact hp_zret (v := 0) B0 hw hS hr ⟨Nat.le_of_ble_eq_true rfl, Nat.le_of_ble_eq_true rfl⟩ (rfl) dX0_hasPieceOn_23 (⟨rfl, rfl⟩)

set_option maxHeartbeats 4000000 in
set_option maxRecDepth 100000 in
theorem c_X4_refuseEmptyLine0 {l : Launch} (hl : l.stackTraces = false) (G : hG) (f : hM) (xo ez eo bu : Nat) (k_xo : f xo = some (.inr (4, [.ref ez, .ref eo, .ref bu]))) (bs bp bh bf bl bg : Nat) (k_bu : f bu = some (.inr (0, [.ref bs, .ref bp, .ref bh, .ref bf, .ref bl, .ref bg, .int 0, .int 0, .int 0]))) (k_bs : f bs = some (.inl (cI G, 61, .inl (fun _ => 0)))) (k_bf : f bf = some (.inl (cI G, 3, .inl (upd (upd (upd (fun _ => 0) (0 : Int32).toNatClampNeg 0) (1 : Int32).toNatClampNeg 1) (2 : Int32).toNatClampNeg 2)))) (x : Int32) : CT l yX4_refuseEmptyLine (.code yX4_refuseEmptyLine cX4_refuseEmptyLine 2 none) 6 82 1 6 G [.ref xo, .int x] f (fun v f1 => False) (fun E f1 => f1 = f ∧ ((E = eI ∧ spc (sL x) False = 1) ∨ (E = eS ∧ spc (sL x) False = 2))) := by
  refine hp_start hl (own := RX4) (by decide) rfl (Nat.le_of_ble_eq_true rfl) ?_
  intro p e s m args below meth c B0 hr hnm hout hw hS ls hl9
  have hx := B0.1
  have hb := B0.2.1
  have hl9 : lv_has ls 2 [(0, .ref xo), (1, .int x)] := hl9
  refine lv_iload_n hx hb dX4_refuseEmptyLine_0 rfl (lv_at hl9 1 rfl) ?_
  refine lv_if_lt (tgt := 9) hx hb dX4_refuseEmptyLine_1 (by decide) (fun c1 => ?_) (fun c1 => ?_)
  · exact hp_throw (cls := eI) (names := tNm) B0 hw hS hout tF_eI qC_X4_137 qN_java_lang_IndexOutOfBoundsException sR_X4_158 tA_eI tB_eI tG_eI hl9.1 dX4_refuseEmptyLine_9 dX4_refuseEmptyLine_12 dX4_refuseEmptyLine_13 dX4_refuseEmptyLine_15 dX4_refuseEmptyLine_18 ⟨⟨Nat.le_of_ble_eq_true rfl, Nat.le_of_ble_eq_true rfl⟩, Nat.le_of_ble_eq_true rfl, Nat.le_of_ble_eq_true rfl⟩ ⟨Nat.le_of_ble_eq_true rfl, Nat.le_of_ble_eq_true rfl⟩ (⟨rfl, Or.inl ⟨rfl, spc_1 (fun h9 => by have h1 := c1; simp only [jlt, jle, tq0, tq1, tq3, tq4, tq6, tq9, tq50, tq60, tq1023, tqm1] at h1; obtain ⟨h3, h4⟩ := h9; omega)⟩⟩)
  · refine lv_iload_n hx hb dX4_refuseEmptyLine_4 rfl (lv_at hl9 1 rfl) ?_
    refine lv_iconst (v := 3) hx hb dX4_refuseEmptyLine_5 (by decide) ?_
    refine lv_icmp_lt (tgt := 19) hx hb dX4_refuseEmptyLine_6 (by decide) (fun c2 => ?_) (fun c2 => ?_)
    · refine lv_aload_n hx hb dX4_refuseEmptyLine_19 rfl (lv_at hl9 0 rfl) ?_
      refine hp_get B0 hw 4 rfl in_X4 k_xo 2 (by decide) qF_X4_24 rfl dX4_refuseEmptyLine_20 ?_
      refine lv_iload_n hx hb dX4_refuseEmptyLine_23 rfl (lv_at hl9 1 rfl) ?_
      have hsl : sL x := by have h1 := c1; have h2 := c2; simp only [jlt, jle, tq0, tq1, tq3, tq4, tq6, tq9, tq50, tq60, tq1023, tqm1] at h1 h2; exact ⟨by omega, by omega⟩
      refine hp_V (ci := 0) (As := [.int x]) (rest := []) B0 hw hS (c_X0_hasPieceOn0 hl G f bu bs bp bh bf bl bg k_bu k_bs k_bf x hsl) mV_X0_hasPieceOn qM_X4_160 rfl k_bu rfl rfl hl9.1 (Nat.le_of_ble_eq_true rfl) ⟨⟨Nat.le_of_ble_eq_true rfl, Nat.le_of_ble_eq_true rfl⟩, Nat.le_of_ble_eq_true rfl, Nat.le_of_ble_eq_true rfl⟩ dX4_refuseEmptyLine_24 (fun E ce q9 f3 H locs hPX hw hS hce hcv hcl => ?_) (fun v f3 H locs hP hw hS => ?_)
      · exact hPX.elim
      · obtain ⟨ev9, ef9⟩ := hP
        rw [ef9] at hw
        subst ev9
        refine W.eq (g2 := F0 m 27 ls [.int 0]) rfl ?_
        refine lv_if_ne (tgt := 40) hx hb dX4_refuseEmptyLine_27 (by decide) (fun c9 => absurd (by decide) c9) (fun _ => ?_)
        exact hp_throw (cls := eS) (names := tNm) B0 hw hS hout tF_eS qC_X4_59 qN_java_lang_IllegalStateException sR_X4_164 tA_eS tB_eS tG_eS hl9.1 dX4_refuseEmptyLine_30 dX4_refuseEmptyLine_33 dX4_refuseEmptyLine_34 dX4_refuseEmptyLine_36 dX4_refuseEmptyLine_39 ⟨⟨Nat.le_of_ble_eq_true rfl, Nat.le_of_ble_eq_true rfl⟩, Nat.le_of_ble_eq_true rfl, Nat.le_of_ble_eq_true rfl⟩ ⟨Nat.le_of_ble_eq_true rfl, Nat.le_of_ble_eq_true rfl⟩ (⟨rfl, Or.inr ⟨rfl, spc_2 hsl id⟩⟩)
    · exact hp_throw (cls := eI) (names := tNm) B0 hw hS hout tF_eI qC_X4_137 qN_java_lang_IndexOutOfBoundsException sR_X4_158 tA_eI tB_eI tG_eI hl9.1 dX4_refuseEmptyLine_9 dX4_refuseEmptyLine_12 dX4_refuseEmptyLine_13 dX4_refuseEmptyLine_15 dX4_refuseEmptyLine_18 ⟨⟨Nat.le_of_ble_eq_true rfl, Nat.le_of_ble_eq_true rfl⟩, Nat.le_of_ble_eq_true rfl, Nat.le_of_ble_eq_true rfl⟩ ⟨Nat.le_of_ble_eq_true rfl, Nat.le_of_ble_eq_true rfl⟩ (⟨rfl, Or.inl ⟨rfl, spc_1 (fun h9 => by have h1 := c2; simp only [jlt, jle, tq0, tq1, tq3, tq4, tq6, tq9, tq50, tq60, tq1023, tqm1] at h1; obtain ⟨h3, h4⟩ := h9; omega)⟩⟩)

set_option maxHeartbeats 4000000 in
set_option maxRecDepth 100000 in
theorem c_X4_come0 {l : Launch} (hl : l.stackTraces = false) (G : hG) (f : hM) (xo ez eo bu : Nat) (k_xo : f xo = some (.inr (4, [.ref ez, .ref eo, .ref bu]))) (bs bp bh bf bl bg : Nat) (k_bu : f bu = some (.inr (0, [.ref bs, .ref bp, .ref bh, .ref bf, .ref bl, .ref bg, .int 0, .int 0, .int 0]))) (k_bs : f bs = some (.inl (cI G, 61, .inl (fun _ => 0)))) (k_bf : f bf = some (.inl (cI G, 3, .inl (upd (upd (upd (fun _ => 0) (0 : Int32).toNatClampNeg 0) (1 : Int32).toNatClampNeg 1) (2 : Int32).toNatClampNeg 2)))) (x : Int32) : CT l yX4_come (.code yX4_come cX4_come 2 (some .int)) 7 103 1 6 G [.ref xo, .int x] f (fun v f1 => False) (fun E f1 => f1 = f ∧ ((E = eI ∧ spc (sL x) False = 1) ∨ (E = eS ∧ spc (sL x) False = 2))) := by
  refine hp_start hl (own := RX4) (by decide) rfl (Nat.le_of_ble_eq_true rfl) ?_
  intro p e s m args below meth c B0 hr hnm hout hw hS ls hl9
  have hx := B0.1
  have hb := B0.2.1
  have hl9 : lv_has ls 2 [(0, .ref xo), (1, .int x)] := hl9
  refine lv_aload_n hx hb dX4_come_0 rfl (lv_at hl9 0 rfl) ?_
  refine lv_iload_n hx hb dX4_come_1 rfl (lv_at hl9 1 rfl) ?_
  refine hp_V (ci := 4) (As := [.int x]) (rest := []) B0 hw hS (c_X4_refuseEmptyLine0 hl G f xo ez eo bu k_xo bs bp bh bf bl bg k_bu k_bs k_bf x) mV_X4_refuseEmptyLine qM_X4_125 rfl k_xo rfl rfl hl9.1 (Nat.le_of_ble_eq_true rfl) ⟨⟨Nat.le_of_ble_eq_true rfl, Nat.le_of_ble_eq_true rfl⟩, Nat.le_of_ble_eq_true rfl, Nat.le_of_ble_eq_true rfl⟩ dX4_come_2 (fun E ce q9 f1 H locs hPX hw hS hce hcv hcl => ?_) (fun v f1 H locs hP hw hS => ?_)
  · obtain ⟨ef9, hE9⟩ := hPX
    rw [ef9] at hw
    exact hp_out B0 hw hS hout hce hcv hcl ⟨Nat.le_of_ble_eq_true rfl, Nat.le_of_ble_eq_true rfl⟩ ⟨rfl, hE9⟩
  · exact hP.elim

set_option maxHeartbeats 4000000 in
set_option maxRecDepth 100000 in
theorem c_X4_drop0 {l : Launch} (hl : l.stackTraces = false) (G : hG) (f : hM) (xo ez eo bu : Nat) (k_xo : f xo = some (.inr (4, [.ref ez, .ref eo, .ref bu]))) (bs bp bh bf bl bg : Nat) (k_bu : f bu = some (.inr (0, [.ref bs, .ref bp, .ref bh, .ref bf, .ref bl, .ref bg, .int 0, .int 0, .int 0]))) (k_bs : f bs = some (.inl (cI G, 61, .inl (fun _ => 0)))) (k_bf : f bf = some (.inl (cI G, 3, .inl (upd (upd (upd (fun _ => 0) (0 : Int32).toNatClampNeg 0) (1 : Int32).toNatClampNeg 1) (2 : Int32).toNatClampNeg 2)))) (x : Int32) : CT l yX4_drop (.code yX4_drop cX4_drop 2 (some .int)) 7 103 1 6 G [.ref xo, .int x] f (fun v f1 => False) (fun E f1 => f1 = f ∧ ((E = eI ∧ spc (sL x) False = 1) ∨ (E = eS ∧ spc (sL x) False = 2))) := by
  refine hp_start hl (own := RX4) (by decide) rfl (Nat.le_of_ble_eq_true rfl) ?_
  intro p e s m args below meth c B0 hr hnm hout hw hS ls hl9
  have hx := B0.1
  have hb := B0.2.1
  have hl9 : lv_has ls 2 [(0, .ref xo), (1, .int x)] := hl9
  refine lv_aload_n hx hb dX4_drop_0 rfl (lv_at hl9 0 rfl) ?_
  refine lv_iload_n hx hb dX4_drop_1 rfl (lv_at hl9 1 rfl) ?_
  refine hp_V (ci := 4) (As := [.int x]) (rest := []) B0 hw hS (c_X4_refuseEmptyLine0 hl G f xo ez eo bu k_xo bs bp bh bf bl bg k_bu k_bs k_bf x) mV_X4_refuseEmptyLine qM_X4_125 rfl k_xo rfl rfl hl9.1 (Nat.le_of_ble_eq_true rfl) ⟨⟨Nat.le_of_ble_eq_true rfl, Nat.le_of_ble_eq_true rfl⟩, Nat.le_of_ble_eq_true rfl, Nat.le_of_ble_eq_true rfl⟩ dX4_drop_2 (fun E ce q9 f1 H locs hPX hw hS hce hcv hcl => ?_) (fun v f1 H locs hP hw hS => ?_)
  · obtain ⟨ef9, hE9⟩ := hPX
    rw [ef9] at hw
    exact hp_out B0 hw hS hout hce hcv hcl ⟨Nat.le_of_ble_eq_true rfl, Nat.le_of_ble_eq_true rfl⟩ ⟨rfl, hE9⟩
  · exact hP.elim

